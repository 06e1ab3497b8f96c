set_option maxHeartbeats 2000000 in
set_option maxRecDepth 100000 in
theorem n_X7_feedA (l : Launch) (D : va_G) (ad : Nat → Nat) (cy : Nat → ClassId) (tl : Int32) (A : Nat → Prop) (p0 : Int32) (p1 : Int32) (p2 : Int32) (p3 : Int32) (p4 : Int32) (htl : zI 0 980 tl) : zMi l yX7_feed wz_X7_feed ({ frames := 0, cells := 0, slots := 0, locals := 0 }) [.ref (ad 0), .int p0, .int p1, .int p2, .int p3, .int p4] D (zTr cy) A (zMr D A ad cy tl) (fun r H => ∃ t, zfeed tl r t ∧ zMr D A ad cy t H) := by
  refine zstart_i (cc := cX7_feed) (maxL := 8) (ty := .int) (own := RX7) (by decide) rfl rfl (Nat.le_of_ble_eq_true rfl) (fun p e s m args below meth c Q C r => ?_)
  refine g_sub (lv' := [(0, .ref (ad 0)), (1, .int p0), (2, .int p1), (3, .int p2), (4, .int p3), (5, .int p4)]) [0, 1, 2, 3, 4, 5] rfl ?_
  refine g_aload_n (pc := 0) C dX7_feed_0 rfl 0 rfl ?_
  refine g_iconst (pc := 1) C 0 dX7_feed_1 (by decide) ?_
  refine pr_0_0 (pc := 2) C wk_693 dX7_feed_2 ?_
  refine g_aload_n (pc := 5) C dX7_feed_5 rfl 0 rfl ?_
  refine gr_0_25 (pc := 6) C wk_718 dX7_feed_6 ?_
  refine g_bipush (pc := 9) C 20 dX7_feed_9 (by decide) ?_
  refine g_iadd (pc := 11) C dX7_feed_11 (fun z1 ez1 => ?_)
  have hz1 : zI 20 1000 z1 := zi_add htl (zi_c 20 (a := 20) (b := 20) (by decide)) ez1 (by decide)
  refine g_sipush (pc := 12) C 1000 dX7_feed_12 (by decide) ?_
  refine g_icmp_le (pc := 15) C 20 dX7_feed_15 (by decide) (fun c2 => ?_) (fun c2 => ?_)
  · refine g_iconst (pc := 20) C 0 dX7_feed_20 (by decide) ?_
    refine g_istore (pc := 21) C ([(6, .int 0), (0, .ref (ad 0)), (1, .int p0), (2, .int p1), (3, .int p2), (4, .int p3), (5, .int p4)]) dX7_feed_21 (Nat.le_of_ble_eq_true rfl) rfl ?_
    refine g_iload (pc := 23) C dX7_feed_23 0 rfl ?_
    refine g_bipush (pc := 25) C 20 dX7_feed_25 (by decide) ?_
    refine g_icmp_ge (pc := 27) C 120 dX7_feed_27 (by decide) (fun h => absurd h (by decide)) (fun _ => ?_)
    refine g_iload (pc := 30) C dX7_feed_30 0 rfl ?_
    refine g_iconst (pc := 32) C 4 dX7_feed_32 (by decide) ?_
    refine g_icmp_ge (pc := 33) C 40 dX7_feed_33 (by decide) (fun h => absurd h (by decide)) (fun _ => ?_)
    refine g_iload_n (pc := 36) C dX7_feed_36 rfl 2 rfl ?_
    refine g_goto (pc := 37) C 76 dX7_feed_37 (by decide) ?_
    refine g_istore (pc := 76) C ([(7, .int p0), (6, .int 0), (0, .ref (ad 0)), (1, .int p0), (2, .int p1), (3, .int p2), (4, .int p3), (5, .int p4)]) dX7_feed_76 (Nat.le_of_ble_eq_true rfl) rfl ?_
    refine g_aload_n (pc := 78) C dX7_feed_78 rfl 2 rfl ?_
    refine gr_0_24 (pc := 79) C wk_717 dX7_feed_79 ?_
    refine g_aload_n (pc := 82) C dX7_feed_82 rfl 2 rfl ?_
    refine gr_0_25 (pc := 83) C wk_718 dX7_feed_83 ?_
    refine g_iload (pc := 86) C dX7_feed_86 0 rfl ?_
    refine g_bipush (pc := 88) C 24 dX7_feed_88 (by decide) ?_
    refine g_bipush (pc := 90) C 8 dX7_feed_90 (by decide) ?_
    refine g_iload (pc := 92) C dX7_feed_92 1 rfl ?_
    refine g_iconst (pc := 94) C 4 dX7_feed_94 (by decide) ?_
    refine g_iremc (pc := 95) C 0 dX7_feed_95 (by decide) (by decide) ?_
    refine g_imulc (pc := 96) C 0 dX7_feed_96 (by decide) ?_
    refine g_isubc (pc := 97) C 24 dX7_feed_97 (by decide) ?_
    refine g_ishr (pc := 98) C dX7_feed_98 (fun z3 ez3 => ?_)
    refine g_sipush (pc := 99) C 255 dX7_feed_99 (by decide) ?_
    refine g_iand (pc := 102) C dX7_feed_102 (fun z4 ez4 => ?_)
    have hz4 : zI 0 255 z4 := zi_and1 (zi_c 255 (a := 0) (b := 255) (by decide)) ez4
    refine sr_9 (pc := 103) C (zi_in htl (by decide)) hz4 dX7_feed_103 ?_
    refine g_aload_n (pc := 104) C dX7_feed_104 rfl 2 rfl ?_
    refine g_dup (pc := 105) C dX7_feed_105 rfl ?_
    refine gr_0_25 (pc := 106) C wk_718 dX7_feed_106 ?_
    refine g_iconst (pc := 109) C 1 dX7_feed_109 (by decide) ?_
    refine g_iadd (pc := 110) C dX7_feed_110 (fun z5 ez5 => ?_)
    have hz5 : zI 1 981 z5 := zi_add htl (zi_c 1 (a := 1) (b := 1) (by decide)) ez5 (by decide)
    refine pr_0_25 (pc := 111) C wk_718 dX7_feed_111 ?_
    refine g_iinc (pc := 114) C 1 ([(6, .int 1), (7, .int p0), (0, .ref (ad 0)), (1, .int p0), (2, .int p1), (3, .int p2), (4, .int p3), (5, .int p4)]) dX7_feed_114 1 rfl (by decide) (Nat.le_of_ble_eq_true rfl) rfl ?_
    refine g_goto (pc := 117) C 23 dX7_feed_117 (by decide) ?_
    refine g_iload (pc := 23) C dX7_feed_23 0 rfl ?_
    refine g_bipush (pc := 25) C 20 dX7_feed_25 (by decide) ?_
    refine g_icmp_ge (pc := 27) C 120 dX7_feed_27 (by decide) (fun h => absurd h (by decide)) (fun _ => ?_)
    refine g_iload (pc := 30) C dX7_feed_30 0 rfl ?_
    refine g_iconst (pc := 32) C 4 dX7_feed_32 (by decide) ?_
    refine g_icmp_ge (pc := 33) C 40 dX7_feed_33 (by decide) (fun h => absurd h (by decide)) (fun _ => ?_)
    refine g_iload_n (pc := 36) C dX7_feed_36 rfl 3 rfl ?_
    refine g_goto (pc := 37) C 76 dX7_feed_37 (by decide) ?_
    refine g_istore (pc := 76) C ([(7, .int p0), (6, .int 1), (0, .ref (ad 0)), (1, .int p0), (2, .int p1), (3, .int p2), (4, .int p3), (5, .int p4)]) dX7_feed_76 (Nat.le_of_ble_eq_true rfl) rfl ?_
    refine g_aload_n (pc := 78) C dX7_feed_78 rfl 2 rfl ?_
    refine gr_0_24 (pc := 79) C wk_717 dX7_feed_79 ?_
    refine g_aload_n (pc := 82) C dX7_feed_82 rfl 2 rfl ?_
    refine gr_0_25 (pc := 83) C wk_718 dX7_feed_83 ?_
    refine g_iload (pc := 86) C dX7_feed_86 0 rfl ?_
    refine g_bipush (pc := 88) C 24 dX7_feed_88 (by decide) ?_
    refine g_bipush (pc := 90) C 8 dX7_feed_90 (by decide) ?_
    refine g_iload (pc := 92) C dX7_feed_92 1 rfl ?_
    refine g_iconst (pc := 94) C 4 dX7_feed_94 (by decide) ?_
    refine g_iremc (pc := 95) C 1 dX7_feed_95 (by decide) (by decide) ?_
    refine g_imulc (pc := 96) C 8 dX7_feed_96 (by decide) ?_
    refine g_isubc (pc := 97) C 16 dX7_feed_97 (by decide) ?_
    refine g_ishr (pc := 98) C dX7_feed_98 (fun z6 ez6 => ?_)
    refine g_sipush (pc := 99) C 255 dX7_feed_99 (by decide) ?_
    refine g_iand (pc := 102) C dX7_feed_102 (fun z7 ez7 => ?_)
    have hz7 : zI 0 255 z7 := zi_and1 (zi_c 255 (a := 0) (b := 255) (by decide)) ez7
    refine sr_9 (pc := 103) C (zi_in hz5 (by decide)) hz7 dX7_feed_103 ?_
    refine g_aload_n (pc := 104) C dX7_feed_104 rfl 2 rfl ?_
    refine g_dup (pc := 105) C dX7_feed_105 rfl ?_
    refine gr_0_25 (pc := 106) C wk_718 dX7_feed_106 ?_
    refine g_iconst (pc := 109) C 1 dX7_feed_109 (by decide) ?_
    refine g_iadd (pc := 110) C dX7_feed_110 (fun z8 ez8 => ?_)
    have hz8 : zI 2 982 z8 := zi_add hz5 (zi_c 1 (a := 1) (b := 1) (by decide)) ez8 (by decide)
    refine pr_0_25 (pc := 111) C wk_718 dX7_feed_111 ?_
    refine g_iinc (pc := 114) C 2 ([(6, .int 2), (7, .int p0), (0, .ref (ad 0)), (1, .int p0), (2, .int p1), (3, .int p2), (4, .int p3), (5, .int p4)]) dX7_feed_114 1 rfl (by decide) (Nat.le_of_ble_eq_true rfl) rfl ?_
    refine g_goto (pc := 117) C 23 dX7_feed_117 (by decide) ?_
    refine g_iload (pc := 23) C dX7_feed_23 0 rfl ?_
    refine g_bipush (pc := 25) C 20 dX7_feed_25 (by decide) ?_
    refine g_icmp_ge (pc := 27) C 120 dX7_feed_27 (by decide) (fun h => absurd h (by decide)) (fun _ => ?_)
    refine g_iload (pc := 30) C dX7_feed_30 0 rfl ?_
    refine g_iconst (pc := 32) C 4 dX7_feed_32 (by decide) ?_
    refine g_icmp_ge (pc := 33) C 40 dX7_feed_33 (by decide) (fun h => absurd h (by decide)) (fun _ => ?_)
    refine g_iload_n (pc := 36) C dX7_feed_36 rfl 3 rfl ?_
    refine g_goto (pc := 37) C 76 dX7_feed_37 (by decide) ?_
    refine g_istore (pc := 76) C ([(7, .int p0), (6, .int 2), (0, .ref (ad 0)), (1, .int p0), (2, .int p1), (3, .int p2), (4, .int p3), (5, .int p4)]) dX7_feed_76 (Nat.le_of_ble_eq_true rfl) rfl ?_
    refine g_aload_n (pc := 78) C dX7_feed_78 rfl 2 rfl ?_
    refine gr_0_24 (pc := 79) C wk_717 dX7_feed_79 ?_
    refine g_aload_n (pc := 82) C dX7_feed_82 rfl 2 rfl ?_
    refine gr_0_25 (pc := 83) C wk_718 dX7_feed_83 ?_
    refine g_iload (pc := 86) C dX7_feed_86 0 rfl ?_
    refine g_bipush (pc := 88) C 24 dX7_feed_88 (by decide) ?_
    refine g_bipush (pc := 90) C 8 dX7_feed_90 (by decide) ?_
    refine g_iload (pc := 92) C dX7_feed_92 1 rfl ?_
    refine g_iconst (pc := 94) C 4 dX7_feed_94 (by decide) ?_
    refine g_iremc (pc := 95) C 2 dX7_feed_95 (by decide) (by decide) ?_
    refine g_imulc (pc := 96) C 16 dX7_feed_96 (by decide) ?_
    refine g_isubc (pc := 97) C 8 dX7_feed_97 (by decide) ?_
    refine g_ishr (pc := 98) C dX7_feed_98 (fun z9 ez9 => ?_)
    refine g_sipush (pc := 99) C 255 dX7_feed_99 (by decide) ?_
    refine g_iand (pc := 102) C dX7_feed_102 (fun z10 ez10 => ?_)
    have hz10 : zI 0 255 z10 := zi_and1 (zi_c 255 (a := 0) (b := 255) (by decide)) ez10
    refine sr_9 (pc := 103) C (zi_in hz8 (by decide)) hz10 dX7_feed_103 ?_
    refine g_aload_n (pc := 104) C dX7_feed_104 rfl 2 rfl ?_
    refine g_dup (pc := 105) C dX7_feed_105 rfl ?_
    refine gr_0_25 (pc := 106) C wk_718 dX7_feed_106 ?_
    refine g_iconst (pc := 109) C 1 dX7_feed_109 (by decide) ?_
    refine g_iadd (pc := 110) C dX7_feed_110 (fun z11 ez11 => ?_)
    have hz11 : zI 3 983 z11 := zi_add hz8 (zi_c 1 (a := 1) (b := 1) (by decide)) ez11 (by decide)
    refine pr_0_25 (pc := 111) C wk_718 dX7_feed_111 ?_
    refine g_iinc (pc := 114) C 3 ([(6, .int 3), (7, .int p0), (0, .ref (ad 0)), (1, .int p0), (2, .int p1), (3, .int p2), (4, .int p3), (5, .int p4)]) dX7_feed_114 1 rfl (by decide) (Nat.le_of_ble_eq_true rfl) rfl ?_
    refine g_goto (pc := 117) C 23 dX7_feed_117 (by decide) ?_
    refine g_iload (pc := 23) C dX7_feed_23 0 rfl ?_
    refine g_bipush (pc := 25) C 20 dX7_feed_25 (by decide) ?_
    refine g_icmp_ge (pc := 27) C 120 dX7_feed_27 (by decide) (fun h => absurd h (by decide)) (fun _ => ?_)
    refine g_iload (pc := 30) C dX7_feed_30 0 rfl ?_
    refine g_iconst (pc := 32) C 4 dX7_feed_32 (by decide) ?_
    refine g_icmp_ge (pc := 33) C 40 dX7_feed_33 (by decide) (fun h => absurd h (by decide)) (fun _ => ?_)
    refine g_iload_n (pc := 36) C dX7_feed_36 rfl 3 rfl ?_
    refine g_goto (pc := 37) C 76 dX7_feed_37 (by decide) ?_
    refine g_istore (pc := 76) C ([(7, .int p0), (6, .int 3), (0, .ref (ad 0)), (1, .int p0), (2, .int p1), (3, .int p2), (4, .int p3), (5, .int p4)]) dX7_feed_76 (Nat.le_of_ble_eq_true rfl) rfl ?_
    refine g_aload_n (pc := 78) C dX7_feed_78 rfl 2 rfl ?_
    refine gr_0_24 (pc := 79) C wk_717 dX7_feed_79 ?_
    refine g_aload_n (pc := 82) C dX7_feed_82 rfl 2 rfl ?_
    refine gr_0_25 (pc := 83) C wk_718 dX7_feed_83 ?_
    refine g_iload (pc := 86) C dX7_feed_86 0 rfl ?_
    refine g_bipush (pc := 88) C 24 dX7_feed_88 (by decide) ?_
    refine g_bipush (pc := 90) C 8 dX7_feed_90 (by decide) ?_
    refine g_iload (pc := 92) C dX7_feed_92 1 rfl ?_
    refine g_iconst (pc := 94) C 4 dX7_feed_94 (by decide) ?_
    refine g_iremc (pc := 95) C 3 dX7_feed_95 (by decide) (by decide) ?_
    refine g_imulc (pc := 96) C 24 dX7_feed_96 (by decide) ?_
    refine g_isubc (pc := 97) C 0 dX7_feed_97 (by decide) ?_
    refine g_ishr (pc := 98) C dX7_feed_98 (fun z12 ez12 => ?_)
    refine g_sipush (pc := 99) C 255 dX7_feed_99 (by decide) ?_
    refine g_iand (pc := 102) C dX7_feed_102 (fun z13 ez13 => ?_)
    have hz13 : zI 0 255 z13 := zi_and1 (zi_c 255 (a := 0) (b := 255) (by decide)) ez13
    refine sr_9 (pc := 103) C (zi_in hz11 (by decide)) hz13 dX7_feed_103 ?_
    refine g_aload_n (pc := 104) C dX7_feed_104 rfl 2 rfl ?_
    refine g_dup (pc := 105) C dX7_feed_105 rfl ?_
    refine gr_0_25 (pc := 106) C wk_718 dX7_feed_106 ?_
    refine g_iconst (pc := 109) C 1 dX7_feed_109 (by decide) ?_
    refine g_iadd (pc := 110) C dX7_feed_110 (fun z14 ez14 => ?_)
    have hz14 : zI 4 984 z14 := zi_add hz11 (zi_c 1 (a := 1) (b := 1) (by decide)) ez14 (by decide)
    refine pr_0_25 (pc := 111) C wk_718 dX7_feed_111 ?_
    refine g_iinc (pc := 114) C 4 ([(6, .int 4), (7, .int p0), (0, .ref (ad 0)), (1, .int p0), (2, .int p1), (3, .int p2), (4, .int p3), (5, .int p4)]) dX7_feed_114 1 rfl (by decide) (Nat.le_of_ble_eq_true rfl) rfl ?_
    refine g_goto (pc := 117) C 23 dX7_feed_117 (by decide) ?_
    refine g_iload (pc := 23) C dX7_feed_23 0 rfl ?_
    refine g_bipush (pc := 25) C 20 dX7_feed_25 (by decide) ?_
    refine g_icmp_ge (pc := 27) C 120 dX7_feed_27 (by decide) (fun h => absurd h (by decide)) (fun _ => ?_)
    refine g_iload (pc := 30) C dX7_feed_30 0 rfl ?_
    refine g_iconst (pc := 32) C 4 dX7_feed_32 (by decide) ?_
    refine g_icmp_ge (pc := 33) C 40 dX7_feed_33 (by decide) (fun _ => ?_) (fun h => absurd (by decide) h)
    refine g_iload (pc := 40) C dX7_feed_40 0 rfl ?_
    refine g_bipush (pc := 42) C 8 dX7_feed_42 (by decide) ?_
    refine g_icmp_ge (pc := 44) C 51 dX7_feed_44 (by decide) (fun h => absurd h (by decide)) (fun _ => ?_)
    refine g_iload_n (pc := 47) C dX7_feed_47 rfl 4 rfl ?_
    refine g_goto (pc := 48) C 76 dX7_feed_48 (by decide) ?_
    refine g_istore (pc := 76) C ([(7, .int p1), (6, .int 4), (0, .ref (ad 0)), (1, .int p0), (2, .int p1), (3, .int p2), (4, .int p3), (5, .int p4)]) dX7_feed_76 (Nat.le_of_ble_eq_true rfl) rfl ?_
    refine g_aload_n (pc := 78) C dX7_feed_78 rfl 2 rfl ?_
    refine gr_0_24 (pc := 79) C wk_717 dX7_feed_79 ?_
    refine g_aload_n (pc := 82) C dX7_feed_82 rfl 2 rfl ?_
    refine gr_0_25 (pc := 83) C wk_718 dX7_feed_83 ?_
    refine g_iload (pc := 86) C dX7_feed_86 0 rfl ?_
    refine g_bipush (pc := 88) C 24 dX7_feed_88 (by decide) ?_
    refine g_bipush (pc := 90) C 8 dX7_feed_90 (by decide) ?_
    refine g_iload (pc := 92) C dX7_feed_92 1 rfl ?_
    refine g_iconst (pc := 94) C 4 dX7_feed_94 (by decide) ?_
    refine g_iremc (pc := 95) C 0 dX7_feed_95 (by decide) (by decide) ?_
    refine g_imulc (pc := 96) C 0 dX7_feed_96 (by decide) ?_
    refine g_isubc (pc := 97) C 24 dX7_feed_97 (by decide) ?_
    refine g_ishr (pc := 98) C dX7_feed_98 (fun z15 ez15 => ?_)
    refine g_sipush (pc := 99) C 255 dX7_feed_99 (by decide) ?_
    refine g_iand (pc := 102) C dX7_feed_102 (fun z16 ez16 => ?_)
    have hz16 : zI 0 255 z16 := zi_and1 (zi_c 255 (a := 0) (b := 255) (by decide)) ez16
    refine sr_9 (pc := 103) C (zi_in hz14 (by decide)) hz16 dX7_feed_103 ?_
    refine g_aload_n (pc := 104) C dX7_feed_104 rfl 2 rfl ?_
    refine g_dup (pc := 105) C dX7_feed_105 rfl ?_
    refine gr_0_25 (pc := 106) C wk_718 dX7_feed_106 ?_
    refine g_iconst (pc := 109) C 1 dX7_feed_109 (by decide) ?_
    refine g_iadd (pc := 110) C dX7_feed_110 (fun z17 ez17 => ?_)
    have hz17 : zI 5 985 z17 := zi_add hz14 (zi_c 1 (a := 1) (b := 1) (by decide)) ez17 (by decide)
    refine pr_0_25 (pc := 111) C wk_718 dX7_feed_111 ?_
    refine g_iinc (pc := 114) C 5 ([(6, .int 5), (7, .int p1), (0, .ref (ad 0)), (1, .int p0), (2, .int p1), (3, .int p2), (4, .int p3), (5, .int p4)]) dX7_feed_114 1 rfl (by decide) (Nat.le_of_ble_eq_true rfl) rfl ?_
    refine g_goto (pc := 117) C 23 dX7_feed_117 (by decide) ?_
    refine g_iload (pc := 23) C dX7_feed_23 0 rfl ?_
    refine g_bipush (pc := 25) C 20 dX7_feed_25 (by decide) ?_
    refine g_icmp_ge (pc := 27) C 120 dX7_feed_27 (by decide) (fun h => absurd h (by decide)) (fun _ => ?_)
    refine g_iload (pc := 30) C dX7_feed_30 0 rfl ?_
    refine g_iconst (pc := 32) C 4 dX7_feed_32 (by decide) ?_
    refine g_icmp_ge (pc := 33) C 40 dX7_feed_33 (by decide) (fun _ => ?_) (fun h => absurd (by decide) h)
    refine g_iload (pc := 40) C dX7_feed_40 0 rfl ?_
    refine g_bipush (pc := 42) C 8 dX7_feed_42 (by decide) ?_
    refine g_icmp_ge (pc := 44) C 51 dX7_feed_44 (by decide) (fun h => absurd h (by decide)) (fun _ => ?_)
    refine g_iload_n (pc := 47) C dX7_feed_47 rfl 4 rfl ?_
    refine g_goto (pc := 48) C 76 dX7_feed_48 (by decide) ?_
    refine g_istore (pc := 76) C ([(7, .int p1), (6, .int 5), (0, .ref (ad 0)), (1, .int p0), (2, .int p1), (3, .int p2), (4, .int p3), (5, .int p4)]) dX7_feed_76 (Nat.le_of_ble_eq_true rfl) rfl ?_
    refine g_aload_n (pc := 78) C dX7_feed_78 rfl 2 rfl ?_
    refine gr_0_24 (pc := 79) C wk_717 dX7_feed_79 ?_
    refine g_aload_n (pc := 82) C dX7_feed_82 rfl 2 rfl ?_
    refine gr_0_25 (pc := 83) C wk_718 dX7_feed_83 ?_
    refine g_iload (pc := 86) C dX7_feed_86 0 rfl ?_
    refine g_bipush (pc := 88) C 24 dX7_feed_88 (by decide) ?_
    refine g_bipush (pc := 90) C 8 dX7_feed_90 (by decide) ?_
    refine g_iload (pc := 92) C dX7_feed_92 1 rfl ?_
    refine g_iconst (pc := 94) C 4 dX7_feed_94 (by decide) ?_
    refine g_iremc (pc := 95) C 1 dX7_feed_95 (by decide) (by decide) ?_
    refine g_imulc (pc := 96) C 8 dX7_feed_96 (by decide) ?_
    refine g_isubc (pc := 97) C 16 dX7_feed_97 (by decide) ?_
    refine g_ishr (pc := 98) C dX7_feed_98 (fun z18 ez18 => ?_)
    refine g_sipush (pc := 99) C 255 dX7_feed_99 (by decide) ?_
    refine g_iand (pc := 102) C dX7_feed_102 (fun z19 ez19 => ?_)
    have hz19 : zI 0 255 z19 := zi_and1 (zi_c 255 (a := 0) (b := 255) (by decide)) ez19
    refine sr_9 (pc := 103) C (zi_in hz17 (by decide)) hz19 dX7_feed_103 ?_
    refine g_aload_n (pc := 104) C dX7_feed_104 rfl 2 rfl ?_
    refine g_dup (pc := 105) C dX7_feed_105 rfl ?_
    refine gr_0_25 (pc := 106) C wk_718 dX7_feed_106 ?_
    refine g_iconst (pc := 109) C 1 dX7_feed_109 (by decide) ?_
    refine g_iadd (pc := 110) C dX7_feed_110 (fun z20 ez20 => ?_)
    have hz20 : zI 6 986 z20 := zi_add hz17 (zi_c 1 (a := 1) (b := 1) (by decide)) ez20 (by decide)
    refine pr_0_25 (pc := 111) C wk_718 dX7_feed_111 ?_
    refine g_iinc (pc := 114) C 6 ([(6, .int 6), (7, .int p1), (0, .ref (ad 0)), (1, .int p0), (2, .int p1), (3, .int p2), (4, .int p3), (5, .int p4)]) dX7_feed_114 1 rfl (by decide) (Nat.le_of_ble_eq_true rfl) rfl ?_
    refine g_goto (pc := 117) C 23 dX7_feed_117 (by decide) ?_
    refine g_iload (pc := 23) C dX7_feed_23 0 rfl ?_
    refine g_bipush (pc := 25) C 20 dX7_feed_25 (by decide) ?_
    refine g_icmp_ge (pc := 27) C 120 dX7_feed_27 (by decide) (fun h => absurd h (by decide)) (fun _ => ?_)
    refine g_iload (pc := 30) C dX7_feed_30 0 rfl ?_
    refine g_iconst (pc := 32) C 4 dX7_feed_32 (by decide) ?_
    refine g_icmp_ge (pc := 33) C 40 dX7_feed_33 (by decide) (fun _ => ?_) (fun h => absurd (by decide) h)
    refine g_iload (pc := 40) C dX7_feed_40 0 rfl ?_
    refine g_bipush (pc := 42) C 8 dX7_feed_42 (by decide) ?_
    refine g_icmp_ge (pc := 44) C 51 dX7_feed_44 (by decide) (fun h => absurd h (by decide)) (fun _ => ?_)
    refine g_iload_n (pc := 47) C dX7_feed_47 rfl 4 rfl ?_
    refine g_goto (pc := 48) C 76 dX7_feed_48 (by decide) ?_
    refine g_istore (pc := 76) C ([(7, .int p1), (6, .int 6), (0, .ref (ad 0)), (1, .int p0), (2, .int p1), (3, .int p2), (4, .int p3), (5, .int p4)]) dX7_feed_76 (Nat.le_of_ble_eq_true rfl) rfl ?_
    refine g_aload_n (pc := 78) C dX7_feed_78 rfl 2 rfl ?_
    refine gr_0_24 (pc := 79) C wk_717 dX7_feed_79 ?_
    refine g_aload_n (pc := 82) C dX7_feed_82 rfl 2 rfl ?_
    refine gr_0_25 (pc := 83) C wk_718 dX7_feed_83 ?_
    refine g_iload (pc := 86) C dX7_feed_86 0 rfl ?_
    refine g_bipush (pc := 88) C 24 dX7_feed_88 (by decide) ?_
    refine g_bipush (pc := 90) C 8 dX7_feed_90 (by decide) ?_
    refine g_iload (pc := 92) C dX7_feed_92 1 rfl ?_
    refine g_iconst (pc := 94) C 4 dX7_feed_94 (by decide) ?_
    refine g_iremc (pc := 95) C 2 dX7_feed_95 (by decide) (by decide) ?_
    refine g_imulc (pc := 96) C 16 dX7_feed_96 (by decide) ?_
    refine g_isubc (pc := 97) C 8 dX7_feed_97 (by decide) ?_
    refine g_ishr (pc := 98) C dX7_feed_98 (fun z21 ez21 => ?_)
    refine g_sipush (pc := 99) C 255 dX7_feed_99 (by decide) ?_
    refine g_iand (pc := 102) C dX7_feed_102 (fun z22 ez22 => ?_)
    have hz22 : zI 0 255 z22 := zi_and1 (zi_c 255 (a := 0) (b := 255) (by decide)) ez22
    refine sr_9 (pc := 103) C (zi_in hz20 (by decide)) hz22 dX7_feed_103 ?_
    refine g_aload_n (pc := 104) C dX7_feed_104 rfl 2 rfl ?_
    refine g_dup (pc := 105) C dX7_feed_105 rfl ?_
    refine gr_0_25 (pc := 106) C wk_718 dX7_feed_106 ?_
    refine g_iconst (pc := 109) C 1 dX7_feed_109 (by decide) ?_
    refine g_iadd (pc := 110) C dX7_feed_110 (fun z23 ez23 => ?_)
    have hz23 : zI 7 987 z23 := zi_add hz20 (zi_c 1 (a := 1) (b := 1) (by decide)) ez23 (by decide)
    refine pr_0_25 (pc := 111) C wk_718 dX7_feed_111 ?_
    refine g_iinc (pc := 114) C 7 ([(6, .int 7), (7, .int p1), (0, .ref (ad 0)), (1, .int p0), (2, .int p1), (3, .int p2), (4, .int p3), (5, .int p4)]) dX7_feed_114 1 rfl (by decide) (Nat.le_of_ble_eq_true rfl) rfl ?_
    refine g_goto (pc := 117) C 23 dX7_feed_117 (by decide) ?_
    refine g_iload (pc := 23) C dX7_feed_23 0 rfl ?_
    refine g_bipush (pc := 25) C 20 dX7_feed_25 (by decide) ?_
    refine g_icmp_ge (pc := 27) C 120 dX7_feed_27 (by decide) (fun h => absurd h (by decide)) (fun _ => ?_)
    refine g_iload (pc := 30) C dX7_feed_30 0 rfl ?_
    refine g_iconst (pc := 32) C 4 dX7_feed_32 (by decide) ?_
    refine g_icmp_ge (pc := 33) C 40 dX7_feed_33 (by decide) (fun _ => ?_) (fun h => absurd (by decide) h)
    refine g_iload (pc := 40) C dX7_feed_40 0 rfl ?_
    refine g_bipush (pc := 42) C 8 dX7_feed_42 (by decide) ?_
    refine g_icmp_ge (pc := 44) C 51 dX7_feed_44 (by decide) (fun h => absurd h (by decide)) (fun _ => ?_)
    refine g_iload_n (pc := 47) C dX7_feed_47 rfl 4 rfl ?_
    refine g_goto (pc := 48) C 76 dX7_feed_48 (by decide) ?_
    refine g_istore (pc := 76) C ([(7, .int p1), (6, .int 7), (0, .ref (ad 0)), (1, .int p0), (2, .int p1), (3, .int p2), (4, .int p3), (5, .int p4)]) dX7_feed_76 (Nat.le_of_ble_eq_true rfl) rfl ?_
    refine g_aload_n (pc := 78) C dX7_feed_78 rfl 2 rfl ?_
    refine gr_0_24 (pc := 79) C wk_717 dX7_feed_79 ?_
    refine g_aload_n (pc := 82) C dX7_feed_82 rfl 2 rfl ?_
    refine gr_0_25 (pc := 83) C wk_718 dX7_feed_83 ?_
    refine g_iload (pc := 86) C dX7_feed_86 0 rfl ?_
    refine g_bipush (pc := 88) C 24 dX7_feed_88 (by decide) ?_
    refine g_bipush (pc := 90) C 8 dX7_feed_90 (by decide) ?_
    refine g_iload (pc := 92) C dX7_feed_92 1 rfl ?_
    refine g_iconst (pc := 94) C 4 dX7_feed_94 (by decide) ?_
    refine g_iremc (pc := 95) C 3 dX7_feed_95 (by decide) (by decide) ?_
    refine g_imulc (pc := 96) C 24 dX7_feed_96 (by decide) ?_
    refine g_isubc (pc := 97) C 0 dX7_feed_97 (by decide) ?_
    refine g_ishr (pc := 98) C dX7_feed_98 (fun z24 ez24 => ?_)
    refine g_sipush (pc := 99) C 255 dX7_feed_99 (by decide) ?_
    refine g_iand (pc := 102) C dX7_feed_102 (fun z25 ez25 => ?_)
    have hz25 : zI 0 255 z25 := zi_and1 (zi_c 255 (a := 0) (b := 255) (by decide)) ez25
    refine sr_9 (pc := 103) C (zi_in hz23 (by decide)) hz25 dX7_feed_103 ?_
    refine g_aload_n (pc := 104) C dX7_feed_104 rfl 2 rfl ?_
    refine g_dup (pc := 105) C dX7_feed_105 rfl ?_
    refine gr_0_25 (pc := 106) C wk_718 dX7_feed_106 ?_
    refine g_iconst (pc := 109) C 1 dX7_feed_109 (by decide) ?_
    refine g_iadd (pc := 110) C dX7_feed_110 (fun z26 ez26 => ?_)
    have hz26 : zI 8 988 z26 := zi_add hz23 (zi_c 1 (a := 1) (b := 1) (by decide)) ez26 (by decide)
    refine pr_0_25 (pc := 111) C wk_718 dX7_feed_111 ?_
    refine g_iinc (pc := 114) C 8 ([(6, .int 8), (7, .int p1), (0, .ref (ad 0)), (1, .int p0), (2, .int p1), (3, .int p2), (4, .int p3), (5, .int p4)]) dX7_feed_114 1 rfl (by decide) (Nat.le_of_ble_eq_true rfl) rfl ?_
    refine g_goto (pc := 117) C 23 dX7_feed_117 (by decide) ?_
    refine g_iload (pc := 23) C dX7_feed_23 0 rfl ?_
    refine g_bipush (pc := 25) C 20 dX7_feed_25 (by decide) ?_
    refine g_icmp_ge (pc := 27) C 120 dX7_feed_27 (by decide) (fun h => absurd h (by decide)) (fun _ => ?_)
    refine g_iload (pc := 30) C dX7_feed_30 0 rfl ?_
    refine g_iconst (pc := 32) C 4 dX7_feed_32 (by decide) ?_
    refine g_icmp_ge (pc := 33) C 40 dX7_feed_33 (by decide) (fun _ => ?_) (fun h => absurd (by decide) h)
    refine g_iload (pc := 40) C dX7_feed_40 0 rfl ?_
    refine g_bipush (pc := 42) C 8 dX7_feed_42 (by decide) ?_
    refine g_icmp_ge (pc := 44) C 51 dX7_feed_44 (by decide) (fun _ => ?_) (fun h => absurd (by decide) h)
    refine g_iload (pc := 51) C dX7_feed_51 0 rfl ?_
    refine g_bipush (pc := 53) C 12 dX7_feed_53 (by decide) ?_
    refine g_icmp_ge (pc := 55) C 62 dX7_feed_55 (by decide) (fun h => absurd h (by decide)) (fun _ => ?_)
    refine g_iload_n (pc := 58) C dX7_feed_58 rfl 5 rfl ?_
    refine g_goto (pc := 59) C 76 dX7_feed_59 (by decide) ?_
    refine g_istore (pc := 76) C ([(7, .int p2), (6, .int 8), (0, .ref (ad 0)), (1, .int p0), (2, .int p1), (3, .int p2), (4, .int p3), (5, .int p4)]) dX7_feed_76 (Nat.le_of_ble_eq_true rfl) rfl ?_
    refine g_aload_n (pc := 78) C dX7_feed_78 rfl 2 rfl ?_
    refine gr_0_24 (pc := 79) C wk_717 dX7_feed_79 ?_
    refine g_aload_n (pc := 82) C dX7_feed_82 rfl 2 rfl ?_
    refine gr_0_25 (pc := 83) C wk_718 dX7_feed_83 ?_
    refine g_iload (pc := 86) C dX7_feed_86 0 rfl ?_
    refine g_bipush (pc := 88) C 24 dX7_feed_88 (by decide) ?_
    refine g_bipush (pc := 90) C 8 dX7_feed_90 (by decide) ?_
    refine g_iload (pc := 92) C dX7_feed_92 1 rfl ?_
    refine g_iconst (pc := 94) C 4 dX7_feed_94 (by decide) ?_
    refine g_iremc (pc := 95) C 0 dX7_feed_95 (by decide) (by decide) ?_
    refine g_imulc (pc := 96) C 0 dX7_feed_96 (by decide) ?_
    refine g_isubc (pc := 97) C 24 dX7_feed_97 (by decide) ?_
    refine g_ishr (pc := 98) C dX7_feed_98 (fun z27 ez27 => ?_)
    refine g_sipush (pc := 99) C 255 dX7_feed_99 (by decide) ?_
    refine g_iand (pc := 102) C dX7_feed_102 (fun z28 ez28 => ?_)
    have hz28 : zI 0 255 z28 := zi_and1 (zi_c 255 (a := 0) (b := 255) (by decide)) ez28
    refine sr_9 (pc := 103) C (zi_in hz26 (by decide)) hz28 dX7_feed_103 ?_
    refine g_aload_n (pc := 104) C dX7_feed_104 rfl 2 rfl ?_
    refine g_dup (pc := 105) C dX7_feed_105 rfl ?_
    refine gr_0_25 (pc := 106) C wk_718 dX7_feed_106 ?_
    refine g_iconst (pc := 109) C 1 dX7_feed_109 (by decide) ?_
    refine g_iadd (pc := 110) C dX7_feed_110 (fun z29 ez29 => ?_)
    have hz29 : zI 9 989 z29 := zi_add hz26 (zi_c 1 (a := 1) (b := 1) (by decide)) ez29 (by decide)
    refine pr_0_25 (pc := 111) C wk_718 dX7_feed_111 ?_
    refine g_iinc (pc := 114) C 9 ([(6, .int 9), (7, .int p2), (0, .ref (ad 0)), (1, .int p0), (2, .int p1), (3, .int p2), (4, .int p3), (5, .int p4)]) dX7_feed_114 1 rfl (by decide) (Nat.le_of_ble_eq_true rfl) rfl ?_
    refine g_goto (pc := 117) C 23 dX7_feed_117 (by decide) ?_
    refine g_iload (pc := 23) C dX7_feed_23 0 rfl ?_
    refine g_bipush (pc := 25) C 20 dX7_feed_25 (by decide) ?_
    refine g_icmp_ge (pc := 27) C 120 dX7_feed_27 (by decide) (fun h => absurd h (by decide)) (fun _ => ?_)
    refine g_iload (pc := 30) C dX7_feed_30 0 rfl ?_
    refine g_iconst (pc := 32) C 4 dX7_feed_32 (by decide) ?_
    refine g_icmp_ge (pc := 33) C 40 dX7_feed_33 (by decide) (fun _ => ?_) (fun h => absurd (by decide) h)
    refine g_iload (pc := 40) C dX7_feed_40 0 rfl ?_
    refine g_bipush (pc := 42) C 8 dX7_feed_42 (by decide) ?_
    refine g_icmp_ge (pc := 44) C 51 dX7_feed_44 (by decide) (fun _ => ?_) (fun h => absurd (by decide) h)
    refine g_iload (pc := 51) C dX7_feed_51 0 rfl ?_
    refine g_bipush (pc := 53) C 12 dX7_feed_53 (by decide) ?_
    refine g_icmp_ge (pc := 55) C 62 dX7_feed_55 (by decide) (fun h => absurd h (by decide)) (fun _ => ?_)
    refine g_iload_n (pc := 58) C dX7_feed_58 rfl 5 rfl ?_
    refine g_goto (pc := 59) C 76 dX7_feed_59 (by decide) ?_
    refine g_istore (pc := 76) C ([(7, .int p2), (6, .int 9), (0, .ref (ad 0)), (1, .int p0), (2, .int p1), (3, .int p2), (4, .int p3), (5, .int p4)]) dX7_feed_76 (Nat.le_of_ble_eq_true rfl) rfl ?_
    refine g_aload_n (pc := 78) C dX7_feed_78 rfl 2 rfl ?_
    refine gr_0_24 (pc := 79) C wk_717 dX7_feed_79 ?_
    refine g_aload_n (pc := 82) C dX7_feed_82 rfl 2 rfl ?_
    refine gr_0_25 (pc := 83) C wk_718 dX7_feed_83 ?_
    refine g_iload (pc := 86) C dX7_feed_86 0 rfl ?_
    refine g_bipush (pc := 88) C 24 dX7_feed_88 (by decide) ?_
    refine g_bipush (pc := 90) C 8 dX7_feed_90 (by decide) ?_
    refine g_iload (pc := 92) C dX7_feed_92 1 rfl ?_
    refine g_iconst (pc := 94) C 4 dX7_feed_94 (by decide) ?_
    refine g_iremc (pc := 95) C 1 dX7_feed_95 (by decide) (by decide) ?_
    refine g_imulc (pc := 96) C 8 dX7_feed_96 (by decide) ?_
    refine g_isubc (pc := 97) C 16 dX7_feed_97 (by decide) ?_
    refine g_ishr (pc := 98) C dX7_feed_98 (fun z30 ez30 => ?_)
    refine g_sipush (pc := 99) C 255 dX7_feed_99 (by decide) ?_
    refine g_iand (pc := 102) C dX7_feed_102 (fun z31 ez31 => ?_)
    have hz31 : zI 0 255 z31 := zi_and1 (zi_c 255 (a := 0) (b := 255) (by decide)) ez31
    refine sr_9 (pc := 103) C (zi_in hz29 (by decide)) hz31 dX7_feed_103 ?_
    refine g_aload_n (pc := 104) C dX7_feed_104 rfl 2 rfl ?_
    refine g_dup (pc := 105) C dX7_feed_105 rfl ?_
    refine gr_0_25 (pc := 106) C wk_718 dX7_feed_106 ?_
    refine g_iconst (pc := 109) C 1 dX7_feed_109 (by decide) ?_
    refine g_iadd (pc := 110) C dX7_feed_110 (fun z32 ez32 => ?_)
    have hz32 : zI 10 990 z32 := zi_add hz29 (zi_c 1 (a := 1) (b := 1) (by decide)) ez32 (by decide)
    refine pr_0_25 (pc := 111) C wk_718 dX7_feed_111 ?_
    refine g_iinc (pc := 114) C 10 ([(6, .int 10), (7, .int p2), (0, .ref (ad 0)), (1, .int p0), (2, .int p1), (3, .int p2), (4, .int p3), (5, .int p4)]) dX7_feed_114 1 rfl (by decide) (Nat.le_of_ble_eq_true rfl) rfl ?_
    refine g_goto (pc := 117) C 23 dX7_feed_117 (by decide) ?_
    refine g_iload (pc := 23) C dX7_feed_23 0 rfl ?_
    refine g_bipush (pc := 25) C 20 dX7_feed_25 (by decide) ?_
    refine g_icmp_ge (pc := 27) C 120 dX7_feed_27 (by decide) (fun h => absurd h (by decide)) (fun _ => ?_)
    refine g_iload (pc := 30) C dX7_feed_30 0 rfl ?_
    refine g_iconst (pc := 32) C 4 dX7_feed_32 (by decide) ?_
    refine g_icmp_ge (pc := 33) C 40 dX7_feed_33 (by decide) (fun _ => ?_) (fun h => absurd (by decide) h)
    refine g_iload (pc := 40) C dX7_feed_40 0 rfl ?_
    refine g_bipush (pc := 42) C 8 dX7_feed_42 (by decide) ?_
    refine g_icmp_ge (pc := 44) C 51 dX7_feed_44 (by decide) (fun _ => ?_) (fun h => absurd (by decide) h)
    refine g_iload (pc := 51) C dX7_feed_51 0 rfl ?_
    refine g_bipush (pc := 53) C 12 dX7_feed_53 (by decide) ?_
    refine g_icmp_ge (pc := 55) C 62 dX7_feed_55 (by decide) (fun h => absurd h (by decide)) (fun _ => ?_)
    refine g_iload_n (pc := 58) C dX7_feed_58 rfl 5 rfl ?_
    refine g_goto (pc := 59) C 76 dX7_feed_59 (by decide) ?_
    refine g_istore (pc := 76) C ([(7, .int p2), (6, .int 10), (0, .ref (ad 0)), (1, .int p0), (2, .int p1), (3, .int p2), (4, .int p3), (5, .int p4)]) dX7_feed_76 (Nat.le_of_ble_eq_true rfl) rfl ?_
    refine g_aload_n (pc := 78) C dX7_feed_78 rfl 2 rfl ?_
    refine gr_0_24 (pc := 79) C wk_717 dX7_feed_79 ?_
    refine g_aload_n (pc := 82) C dX7_feed_82 rfl 2 rfl ?_
    refine gr_0_25 (pc := 83) C wk_718 dX7_feed_83 ?_
    refine g_iload (pc := 86) C dX7_feed_86 0 rfl ?_
    refine g_bipush (pc := 88) C 24 dX7_feed_88 (by decide) ?_
    refine g_bipush (pc := 90) C 8 dX7_feed_90 (by decide) ?_
    refine g_iload (pc := 92) C dX7_feed_92 1 rfl ?_
    refine g_iconst (pc := 94) C 4 dX7_feed_94 (by decide) ?_
    refine g_iremc (pc := 95) C 2 dX7_feed_95 (by decide) (by decide) ?_
    refine g_imulc (pc := 96) C 16 dX7_feed_96 (by decide) ?_
    refine g_isubc (pc := 97) C 8 dX7_feed_97 (by decide) ?_
    refine g_ishr (pc := 98) C dX7_feed_98 (fun z33 ez33 => ?_)
    refine g_sipush (pc := 99) C 255 dX7_feed_99 (by decide) ?_
    refine g_iand (pc := 102) C dX7_feed_102 (fun z34 ez34 => ?_)
    have hz34 : zI 0 255 z34 := zi_and1 (zi_c 255 (a := 0) (b := 255) (by decide)) ez34
    refine sr_9 (pc := 103) C (zi_in hz32 (by decide)) hz34 dX7_feed_103 ?_
    refine g_aload_n (pc := 104) C dX7_feed_104 rfl 2 rfl ?_
    refine g_dup (pc := 105) C dX7_feed_105 rfl ?_
    refine gr_0_25 (pc := 106) C wk_718 dX7_feed_106 ?_
    refine g_iconst (pc := 109) C 1 dX7_feed_109 (by decide) ?_
    refine g_iadd (pc := 110) C dX7_feed_110 (fun z35 ez35 => ?_)
    have hz35 : zI 11 991 z35 := zi_add hz32 (zi_c 1 (a := 1) (b := 1) (by decide)) ez35 (by decide)
    refine pr_0_25 (pc := 111) C wk_718 dX7_feed_111 ?_
    refine g_iinc (pc := 114) C 11 ([(6, .int 11), (7, .int p2), (0, .ref (ad 0)), (1, .int p0), (2, .int p1), (3, .int p2), (4, .int p3), (5, .int p4)]) dX7_feed_114 1 rfl (by decide) (Nat.le_of_ble_eq_true rfl) rfl ?_
    refine g_goto (pc := 117) C 23 dX7_feed_117 (by decide) ?_
    refine g_iload (pc := 23) C dX7_feed_23 0 rfl ?_
    refine g_bipush (pc := 25) C 20 dX7_feed_25 (by decide) ?_
    refine g_icmp_ge (pc := 27) C 120 dX7_feed_27 (by decide) (fun h => absurd h (by decide)) (fun _ => ?_)
    refine g_iload (pc := 30) C dX7_feed_30 0 rfl ?_
    refine g_iconst (pc := 32) C 4 dX7_feed_32 (by decide) ?_
    refine g_icmp_ge (pc := 33) C 40 dX7_feed_33 (by decide) (fun _ => ?_) (fun h => absurd (by decide) h)
    refine g_iload (pc := 40) C dX7_feed_40 0 rfl ?_
    refine g_bipush (pc := 42) C 8 dX7_feed_42 (by decide) ?_
    refine g_icmp_ge (pc := 44) C 51 dX7_feed_44 (by decide) (fun _ => ?_) (fun h => absurd (by decide) h)
    refine g_iload (pc := 51) C dX7_feed_51 0 rfl ?_
    refine g_bipush (pc := 53) C 12 dX7_feed_53 (by decide) ?_
    refine g_icmp_ge (pc := 55) C 62 dX7_feed_55 (by decide) (fun h => absurd h (by decide)) (fun _ => ?_)
    refine g_iload_n (pc := 58) C dX7_feed_58 rfl 5 rfl ?_
    refine g_goto (pc := 59) C 76 dX7_feed_59 (by decide) ?_
    refine g_istore (pc := 76) C ([(7, .int p2), (6, .int 11), (0, .ref (ad 0)), (1, .int p0), (2, .int p1), (3, .int p2), (4, .int p3), (5, .int p4)]) dX7_feed_76 (Nat.le_of_ble_eq_true rfl) rfl ?_
    refine g_aload_n (pc := 78) C dX7_feed_78 rfl 2 rfl ?_
    refine gr_0_24 (pc := 79) C wk_717 dX7_feed_79 ?_
    refine g_aload_n (pc := 82) C dX7_feed_82 rfl 2 rfl ?_
    refine gr_0_25 (pc := 83) C wk_718 dX7_feed_83 ?_
    refine g_iload (pc := 86) C dX7_feed_86 0 rfl ?_
    refine g_bipush (pc := 88) C 24 dX7_feed_88 (by decide) ?_
    refine g_bipush (pc := 90) C 8 dX7_feed_90 (by decide) ?_
    refine g_iload (pc := 92) C dX7_feed_92 1 rfl ?_
    refine g_iconst (pc := 94) C 4 dX7_feed_94 (by decide) ?_
    refine g_iremc (pc := 95) C 3 dX7_feed_95 (by decide) (by decide) ?_
    refine g_imulc (pc := 96) C 24 dX7_feed_96 (by decide) ?_
    refine g_isubc (pc := 97) C 0 dX7_feed_97 (by decide) ?_
    refine g_ishr (pc := 98) C dX7_feed_98 (fun z36 ez36 => ?_)
    refine g_sipush (pc := 99) C 255 dX7_feed_99 (by decide) ?_
    refine g_iand (pc := 102) C dX7_feed_102 (fun z37 ez37 => ?_)
    have hz37 : zI 0 255 z37 := zi_and1 (zi_c 255 (a := 0) (b := 255) (by decide)) ez37
    refine sr_9 (pc := 103) C (zi_in hz35 (by decide)) hz37 dX7_feed_103 ?_
    refine g_aload_n (pc := 104) C dX7_feed_104 rfl 2 rfl ?_
    refine g_dup (pc := 105) C dX7_feed_105 rfl ?_
    refine gr_0_25 (pc := 106) C wk_718 dX7_feed_106 ?_
    refine g_iconst (pc := 109) C 1 dX7_feed_109 (by decide) ?_
    refine g_iadd (pc := 110) C dX7_feed_110 (fun z38 ez38 => ?_)
    have hz38 : zI 12 992 z38 := zi_add hz35 (zi_c 1 (a := 1) (b := 1) (by decide)) ez38 (by decide)
    refine pr_0_25 (pc := 111) C wk_718 dX7_feed_111 ?_
    refine g_iinc (pc := 114) C 12 ([(6, .int 12), (7, .int p2), (0, .ref (ad 0)), (1, .int p0), (2, .int p1), (3, .int p2), (4, .int p3), (5, .int p4)]) dX7_feed_114 1 rfl (by decide) (Nat.le_of_ble_eq_true rfl) rfl ?_
    refine g_goto (pc := 117) C 23 dX7_feed_117 (by decide) ?_
    refine g_iload (pc := 23) C dX7_feed_23 0 rfl ?_
    refine g_bipush (pc := 25) C 20 dX7_feed_25 (by decide) ?_
    refine g_icmp_ge (pc := 27) C 120 dX7_feed_27 (by decide) (fun h => absurd h (by decide)) (fun _ => ?_)
    refine g_iload (pc := 30) C dX7_feed_30 0 rfl ?_
    refine g_iconst (pc := 32) C 4 dX7_feed_32 (by decide) ?_
    refine g_icmp_ge (pc := 33) C 40 dX7_feed_33 (by decide) (fun _ => ?_) (fun h => absurd (by decide) h)
    refine g_iload (pc := 40) C dX7_feed_40 0 rfl ?_
    refine g_bipush (pc := 42) C 8 dX7_feed_42 (by decide) ?_
    refine g_icmp_ge (pc := 44) C 51 dX7_feed_44 (by decide) (fun _ => ?_) (fun h => absurd (by decide) h)
    refine g_iload (pc := 51) C dX7_feed_51 0 rfl ?_
    refine g_bipush (pc := 53) C 12 dX7_feed_53 (by decide) ?_
    refine g_icmp_ge (pc := 55) C 62 dX7_feed_55 (by decide) (fun _ => ?_) (fun h => absurd (by decide) h)
    refine g_iload (pc := 62) C dX7_feed_62 0 rfl ?_
    refine g_bipush (pc := 64) C 16 dX7_feed_64 (by decide) ?_
    refine g_icmp_ge (pc := 66) C 74 dX7_feed_66 (by decide) (fun h => absurd h (by decide)) (fun _ => ?_)
    refine g_iload (pc := 69) C dX7_feed_69 6 rfl ?_
    refine g_goto (pc := 71) C 76 dX7_feed_71 (by decide) ?_
    refine g_istore (pc := 76) C ([(7, .int p3), (6, .int 12), (0, .ref (ad 0)), (1, .int p0), (2, .int p1), (3, .int p2), (4, .int p3), (5, .int p4)]) dX7_feed_76 (Nat.le_of_ble_eq_true rfl) rfl ?_
    refine g_aload_n (pc := 78) C dX7_feed_78 rfl 2 rfl ?_
    refine gr_0_24 (pc := 79) C wk_717 dX7_feed_79 ?_
    refine g_aload_n (pc := 82) C dX7_feed_82 rfl 2 rfl ?_
    refine gr_0_25 (pc := 83) C wk_718 dX7_feed_83 ?_
    refine g_iload (pc := 86) C dX7_feed_86 0 rfl ?_
    refine g_bipush (pc := 88) C 24 dX7_feed_88 (by decide) ?_
    refine g_bipush (pc := 90) C 8 dX7_feed_90 (by decide) ?_
    refine g_iload (pc := 92) C dX7_feed_92 1 rfl ?_
    refine g_iconst (pc := 94) C 4 dX7_feed_94 (by decide) ?_
    refine g_iremc (pc := 95) C 0 dX7_feed_95 (by decide) (by decide) ?_
    refine g_imulc (pc := 96) C 0 dX7_feed_96 (by decide) ?_
    refine g_isubc (pc := 97) C 24 dX7_feed_97 (by decide) ?_
    refine g_ishr (pc := 98) C dX7_feed_98 (fun z39 ez39 => ?_)
    refine g_sipush (pc := 99) C 255 dX7_feed_99 (by decide) ?_
    refine g_iand (pc := 102) C dX7_feed_102 (fun z40 ez40 => ?_)
    have hz40 : zI 0 255 z40 := zi_and1 (zi_c 255 (a := 0) (b := 255) (by decide)) ez40
    refine sr_9 (pc := 103) C (zi_in hz38 (by decide)) hz40 dX7_feed_103 ?_
    refine g_aload_n (pc := 104) C dX7_feed_104 rfl 2 rfl ?_
    refine g_dup (pc := 105) C dX7_feed_105 rfl ?_
    refine gr_0_25 (pc := 106) C wk_718 dX7_feed_106 ?_
    refine g_iconst (pc := 109) C 1 dX7_feed_109 (by decide) ?_
    refine g_iadd (pc := 110) C dX7_feed_110 (fun z41 ez41 => ?_)
    have hz41 : zI 13 993 z41 := zi_add hz38 (zi_c 1 (a := 1) (b := 1) (by decide)) ez41 (by decide)
    refine pr_0_25 (pc := 111) C wk_718 dX7_feed_111 ?_
    refine g_iinc (pc := 114) C 13 ([(6, .int 13), (7, .int p3), (0, .ref (ad 0)), (1, .int p0), (2, .int p1), (3, .int p2), (4, .int p3), (5, .int p4)]) dX7_feed_114 1 rfl (by decide) (Nat.le_of_ble_eq_true rfl) rfl ?_
    refine g_goto (pc := 117) C 23 dX7_feed_117 (by decide) ?_
    refine g_iload (pc := 23) C dX7_feed_23 0 rfl ?_
    refine g_bipush (pc := 25) C 20 dX7_feed_25 (by decide) ?_
    refine g_icmp_ge (pc := 27) C 120 dX7_feed_27 (by decide) (fun h => absurd h (by decide)) (fun _ => ?_)
    refine g_iload (pc := 30) C dX7_feed_30 0 rfl ?_
    refine g_iconst (pc := 32) C 4 dX7_feed_32 (by decide) ?_
    refine g_icmp_ge (pc := 33) C 40 dX7_feed_33 (by decide) (fun _ => ?_) (fun h => absurd (by decide) h)
    refine g_iload (pc := 40) C dX7_feed_40 0 rfl ?_
    refine g_bipush (pc := 42) C 8 dX7_feed_42 (by decide) ?_
    refine g_icmp_ge (pc := 44) C 51 dX7_feed_44 (by decide) (fun _ => ?_) (fun h => absurd (by decide) h)
    refine g_iload (pc := 51) C dX7_feed_51 0 rfl ?_
    refine g_bipush (pc := 53) C 12 dX7_feed_53 (by decide) ?_
    refine g_icmp_ge (pc := 55) C 62 dX7_feed_55 (by decide) (fun _ => ?_) (fun h => absurd (by decide) h)
    refine g_iload (pc := 62) C dX7_feed_62 0 rfl ?_
    refine g_bipush (pc := 64) C 16 dX7_feed_64 (by decide) ?_
    refine g_icmp_ge (pc := 66) C 74 dX7_feed_66 (by decide) (fun h => absurd h (by decide)) (fun _ => ?_)
    refine g_iload (pc := 69) C dX7_feed_69 6 rfl ?_
    refine g_goto (pc := 71) C 76 dX7_feed_71 (by decide) ?_
    refine g_istore (pc := 76) C ([(7, .int p3), (6, .int 13), (0, .ref (ad 0)), (1, .int p0), (2, .int p1), (3, .int p2), (4, .int p3), (5, .int p4)]) dX7_feed_76 (Nat.le_of_ble_eq_true rfl) rfl ?_
    refine g_aload_n (pc := 78) C dX7_feed_78 rfl 2 rfl ?_
    refine gr_0_24 (pc := 79) C wk_717 dX7_feed_79 ?_
    refine g_aload_n (pc := 82) C dX7_feed_82 rfl 2 rfl ?_
    refine gr_0_25 (pc := 83) C wk_718 dX7_feed_83 ?_
    refine g_iload (pc := 86) C dX7_feed_86 0 rfl ?_
    refine g_bipush (pc := 88) C 24 dX7_feed_88 (by decide) ?_
    refine g_bipush (pc := 90) C 8 dX7_feed_90 (by decide) ?_
    refine g_iload (pc := 92) C dX7_feed_92 1 rfl ?_
    refine g_iconst (pc := 94) C 4 dX7_feed_94 (by decide) ?_
    refine g_iremc (pc := 95) C 1 dX7_feed_95 (by decide) (by decide) ?_
    refine g_imulc (pc := 96) C 8 dX7_feed_96 (by decide) ?_
    refine g_isubc (pc := 97) C 16 dX7_feed_97 (by decide) ?_
    refine g_ishr (pc := 98) C dX7_feed_98 (fun z42 ez42 => ?_)
    refine g_sipush (pc := 99) C 255 dX7_feed_99 (by decide) ?_
    refine g_iand (pc := 102) C dX7_feed_102 (fun z43 ez43 => ?_)
    have hz43 : zI 0 255 z43 := zi_and1 (zi_c 255 (a := 0) (b := 255) (by decide)) ez43
    refine sr_9 (pc := 103) C (zi_in hz41 (by decide)) hz43 dX7_feed_103 ?_
    refine g_aload_n (pc := 104) C dX7_feed_104 rfl 2 rfl ?_
    refine g_dup (pc := 105) C dX7_feed_105 rfl ?_
    refine gr_0_25 (pc := 106) C wk_718 dX7_feed_106 ?_
    refine g_iconst (pc := 109) C 1 dX7_feed_109 (by decide) ?_
    refine g_iadd (pc := 110) C dX7_feed_110 (fun z44 ez44 => ?_)
    have hz44 : zI 14 994 z44 := zi_add hz41 (zi_c 1 (a := 1) (b := 1) (by decide)) ez44 (by decide)
    refine pr_0_25 (pc := 111) C wk_718 dX7_feed_111 ?_
    refine g_iinc (pc := 114) C 14 ([(6, .int 14), (7, .int p3), (0, .ref (ad 0)), (1, .int p0), (2, .int p1), (3, .int p2), (4, .int p3), (5, .int p4)]) dX7_feed_114 1 rfl (by decide) (Nat.le_of_ble_eq_true rfl) rfl ?_
    refine g_goto (pc := 117) C 23 dX7_feed_117 (by decide) ?_
    refine g_iload (pc := 23) C dX7_feed_23 0 rfl ?_
    refine g_bipush (pc := 25) C 20 dX7_feed_25 (by decide) ?_
    refine g_icmp_ge (pc := 27) C 120 dX7_feed_27 (by decide) (fun h => absurd h (by decide)) (fun _ => ?_)
    refine g_iload (pc := 30) C dX7_feed_30 0 rfl ?_
    refine g_iconst (pc := 32) C 4 dX7_feed_32 (by decide) ?_
    refine g_icmp_ge (pc := 33) C 40 dX7_feed_33 (by decide) (fun _ => ?_) (fun h => absurd (by decide) h)
    refine g_iload (pc := 40) C dX7_feed_40 0 rfl ?_
    refine g_bipush (pc := 42) C 8 dX7_feed_42 (by decide) ?_
    refine g_icmp_ge (pc := 44) C 51 dX7_feed_44 (by decide) (fun _ => ?_) (fun h => absurd (by decide) h)
    refine g_iload (pc := 51) C dX7_feed_51 0 rfl ?_
    refine g_bipush (pc := 53) C 12 dX7_feed_53 (by decide) ?_
    refine g_icmp_ge (pc := 55) C 62 dX7_feed_55 (by decide) (fun _ => ?_) (fun h => absurd (by decide) h)
    refine g_iload (pc := 62) C dX7_feed_62 0 rfl ?_
    refine g_bipush (pc := 64) C 16 dX7_feed_64 (by decide) ?_
    refine g_icmp_ge (pc := 66) C 74 dX7_feed_66 (by decide) (fun h => absurd h (by decide)) (fun _ => ?_)
    refine g_iload (pc := 69) C dX7_feed_69 6 rfl ?_
    refine g_goto (pc := 71) C 76 dX7_feed_71 (by decide) ?_
    refine g_istore (pc := 76) C ([(7, .int p3), (6, .int 14), (0, .ref (ad 0)), (1, .int p0), (2, .int p1), (3, .int p2), (4, .int p3), (5, .int p4)]) dX7_feed_76 (Nat.le_of_ble_eq_true rfl) rfl ?_
    refine g_aload_n (pc := 78) C dX7_feed_78 rfl 2 rfl ?_
    refine gr_0_24 (pc := 79) C wk_717 dX7_feed_79 ?_
    refine g_aload_n (pc := 82) C dX7_feed_82 rfl 2 rfl ?_
    refine gr_0_25 (pc := 83) C wk_718 dX7_feed_83 ?_
    refine g_iload (pc := 86) C dX7_feed_86 0 rfl ?_
    refine g_bipush (pc := 88) C 24 dX7_feed_88 (by decide) ?_
    refine g_bipush (pc := 90) C 8 dX7_feed_90 (by decide) ?_
    refine g_iload (pc := 92) C dX7_feed_92 1 rfl ?_
    refine g_iconst (pc := 94) C 4 dX7_feed_94 (by decide) ?_
    refine g_iremc (pc := 95) C 2 dX7_feed_95 (by decide) (by decide) ?_
    refine g_imulc (pc := 96) C 16 dX7_feed_96 (by decide) ?_
    refine g_isubc (pc := 97) C 8 dX7_feed_97 (by decide) ?_
    refine g_ishr (pc := 98) C dX7_feed_98 (fun z45 ez45 => ?_)
    refine g_sipush (pc := 99) C 255 dX7_feed_99 (by decide) ?_
    refine g_iand (pc := 102) C dX7_feed_102 (fun z46 ez46 => ?_)
    have hz46 : zI 0 255 z46 := zi_and1 (zi_c 255 (a := 0) (b := 255) (by decide)) ez46
    refine sr_9 (pc := 103) C (zi_in hz44 (by decide)) hz46 dX7_feed_103 ?_
    refine g_aload_n (pc := 104) C dX7_feed_104 rfl 2 rfl ?_
    refine g_dup (pc := 105) C dX7_feed_105 rfl ?_
    refine gr_0_25 (pc := 106) C wk_718 dX7_feed_106 ?_
    refine g_iconst (pc := 109) C 1 dX7_feed_109 (by decide) ?_
    refine g_iadd (pc := 110) C dX7_feed_110 (fun z47 ez47 => ?_)
    have hz47 : zI 15 995 z47 := zi_add hz44 (zi_c 1 (a := 1) (b := 1) (by decide)) ez47 (by decide)
    refine pr_0_25 (pc := 111) C wk_718 dX7_feed_111 ?_
    refine g_iinc (pc := 114) C 15 ([(6, .int 15), (7, .int p3), (0, .ref (ad 0)), (1, .int p0), (2, .int p1), (3, .int p2), (4, .int p3), (5, .int p4)]) dX7_feed_114 1 rfl (by decide) (Nat.le_of_ble_eq_true rfl) rfl ?_
    refine g_goto (pc := 117) C 23 dX7_feed_117 (by decide) ?_
    refine g_iload (pc := 23) C dX7_feed_23 0 rfl ?_
    refine g_bipush (pc := 25) C 20 dX7_feed_25 (by decide) ?_
    refine g_icmp_ge (pc := 27) C 120 dX7_feed_27 (by decide) (fun h => absurd h (by decide)) (fun _ => ?_)
    refine g_iload (pc := 30) C dX7_feed_30 0 rfl ?_
    refine g_iconst (pc := 32) C 4 dX7_feed_32 (by decide) ?_
    refine g_icmp_ge (pc := 33) C 40 dX7_feed_33 (by decide) (fun _ => ?_) (fun h => absurd (by decide) h)
    refine g_iload (pc := 40) C dX7_feed_40 0 rfl ?_
    refine g_bipush (pc := 42) C 8 dX7_feed_42 (by decide) ?_
    refine g_icmp_ge (pc := 44) C 51 dX7_feed_44 (by decide) (fun _ => ?_) (fun h => absurd (by decide) h)
    refine g_iload (pc := 51) C dX7_feed_51 0 rfl ?_
    refine g_bipush (pc := 53) C 12 dX7_feed_53 (by decide) ?_
    refine g_icmp_ge (pc := 55) C 62 dX7_feed_55 (by decide) (fun _ => ?_) (fun h => absurd (by decide) h)
    refine g_iload (pc := 62) C dX7_feed_62 0 rfl ?_
    refine g_bipush (pc := 64) C 16 dX7_feed_64 (by decide) ?_
    refine g_icmp_ge (pc := 66) C 74 dX7_feed_66 (by decide) (fun h => absurd h (by decide)) (fun _ => ?_)
    refine g_iload (pc := 69) C dX7_feed_69 6 rfl ?_
    refine g_goto (pc := 71) C 76 dX7_feed_71 (by decide) ?_
    refine g_istore (pc := 76) C ([(7, .int p3), (6, .int 15), (0, .ref (ad 0)), (1, .int p0), (2, .int p1), (3, .int p2), (4, .int p3), (5, .int p4)]) dX7_feed_76 (Nat.le_of_ble_eq_true rfl) rfl ?_
    refine g_aload_n (pc := 78) C dX7_feed_78 rfl 2 rfl ?_
    refine gr_0_24 (pc := 79) C wk_717 dX7_feed_79 ?_
    refine g_aload_n (pc := 82) C dX7_feed_82 rfl 2 rfl ?_
    refine gr_0_25 (pc := 83) C wk_718 dX7_feed_83 ?_
    refine g_iload (pc := 86) C dX7_feed_86 0 rfl ?_
    refine g_bipush (pc := 88) C 24 dX7_feed_88 (by decide) ?_
    refine g_bipush (pc := 90) C 8 dX7_feed_90 (by decide) ?_
    refine g_iload (pc := 92) C dX7_feed_92 1 rfl ?_
    refine g_iconst (pc := 94) C 4 dX7_feed_94 (by decide) ?_
    refine g_iremc (pc := 95) C 3 dX7_feed_95 (by decide) (by decide) ?_
    refine g_imulc (pc := 96) C 24 dX7_feed_96 (by decide) ?_
    refine g_isubc (pc := 97) C 0 dX7_feed_97 (by decide) ?_
    refine g_ishr (pc := 98) C dX7_feed_98 (fun z48 ez48 => ?_)
    refine g_sipush (pc := 99) C 255 dX7_feed_99 (by decide) ?_
    refine g_iand (pc := 102) C dX7_feed_102 (fun z49 ez49 => ?_)
    have hz49 : zI 0 255 z49 := zi_and1 (zi_c 255 (a := 0) (b := 255) (by decide)) ez49
    refine sr_9 (pc := 103) C (zi_in hz47 (by decide)) hz49 dX7_feed_103 ?_
    refine g_aload_n (pc := 104) C dX7_feed_104 rfl 2 rfl ?_
    refine g_dup (pc := 105) C dX7_feed_105 rfl ?_
    refine gr_0_25 (pc := 106) C wk_718 dX7_feed_106 ?_
    refine g_iconst (pc := 109) C 1 dX7_feed_109 (by decide) ?_
    refine g_iadd (pc := 110) C dX7_feed_110 (fun z50 ez50 => ?_)
    have hz50 : zI 16 996 z50 := zi_add hz47 (zi_c 1 (a := 1) (b := 1) (by decide)) ez50 (by decide)
    refine pr_0_25 (pc := 111) C wk_718 dX7_feed_111 ?_
    refine g_iinc (pc := 114) C 16 ([(6, .int 16), (7, .int p3), (0, .ref (ad 0)), (1, .int p0), (2, .int p1), (3, .int p2), (4, .int p3), (5, .int p4)]) dX7_feed_114 1 rfl (by decide) (Nat.le_of_ble_eq_true rfl) rfl ?_
    refine g_goto (pc := 117) C 23 dX7_feed_117 (by decide) ?_
    refine g_iload (pc := 23) C dX7_feed_23 0 rfl ?_
    refine g_bipush (pc := 25) C 20 dX7_feed_25 (by decide) ?_
    refine g_icmp_ge (pc := 27) C 120 dX7_feed_27 (by decide) (fun h => absurd h (by decide)) (fun _ => ?_)
    refine g_iload (pc := 30) C dX7_feed_30 0 rfl ?_
    refine g_iconst (pc := 32) C 4 dX7_feed_32 (by decide) ?_
    refine g_icmp_ge (pc := 33) C 40 dX7_feed_33 (by decide) (fun _ => ?_) (fun h => absurd (by decide) h)
    refine g_iload (pc := 40) C dX7_feed_40 0 rfl ?_
    refine g_bipush (pc := 42) C 8 dX7_feed_42 (by decide) ?_
    refine g_icmp_ge (pc := 44) C 51 dX7_feed_44 (by decide) (fun _ => ?_) (fun h => absurd (by decide) h)
    refine g_iload (pc := 51) C dX7_feed_51 0 rfl ?_
    refine g_bipush (pc := 53) C 12 dX7_feed_53 (by decide) ?_
    refine g_icmp_ge (pc := 55) C 62 dX7_feed_55 (by decide) (fun _ => ?_) (fun h => absurd (by decide) h)
    refine g_iload (pc := 62) C dX7_feed_62 0 rfl ?_
    refine g_bipush (pc := 64) C 16 dX7_feed_64 (by decide) ?_
    refine g_icmp_ge (pc := 66) C 74 dX7_feed_66 (by decide) (fun _ => ?_) (fun h => absurd (by decide) h)
    refine g_iload (pc := 74) C dX7_feed_74 7 rfl ?_
    refine g_istore (pc := 76) C ([(7, .int p4), (6, .int 16), (0, .ref (ad 0)), (1, .int p0), (2, .int p1), (3, .int p2), (4, .int p3), (5, .int p4)]) dX7_feed_76 (Nat.le_of_ble_eq_true rfl) rfl ?_
    refine g_aload_n (pc := 78) C dX7_feed_78 rfl 2 rfl ?_
    refine gr_0_24 (pc := 79) C wk_717 dX7_feed_79 ?_
    refine g_aload_n (pc := 82) C dX7_feed_82 rfl 2 rfl ?_
    refine gr_0_25 (pc := 83) C wk_718 dX7_feed_83 ?_
    refine g_iload (pc := 86) C dX7_feed_86 0 rfl ?_
    refine g_bipush (pc := 88) C 24 dX7_feed_88 (by decide) ?_
    refine g_bipush (pc := 90) C 8 dX7_feed_90 (by decide) ?_
    refine g_iload (pc := 92) C dX7_feed_92 1 rfl ?_
    refine g_iconst (pc := 94) C 4 dX7_feed_94 (by decide) ?_
    refine g_iremc (pc := 95) C 0 dX7_feed_95 (by decide) (by decide) ?_
    refine g_imulc (pc := 96) C 0 dX7_feed_96 (by decide) ?_
    refine g_isubc (pc := 97) C 24 dX7_feed_97 (by decide) ?_
    refine g_ishr (pc := 98) C dX7_feed_98 (fun z51 ez51 => ?_)
    refine g_sipush (pc := 99) C 255 dX7_feed_99 (by decide) ?_
    refine g_iand (pc := 102) C dX7_feed_102 (fun z52 ez52 => ?_)
    have hz52 : zI 0 255 z52 := zi_and1 (zi_c 255 (a := 0) (b := 255) (by decide)) ez52
    refine sr_9 (pc := 103) C (zi_in hz50 (by decide)) hz52 dX7_feed_103 ?_
    refine g_aload_n (pc := 104) C dX7_feed_104 rfl 2 rfl ?_
    refine g_dup (pc := 105) C dX7_feed_105 rfl ?_
    refine gr_0_25 (pc := 106) C wk_718 dX7_feed_106 ?_
    refine g_iconst (pc := 109) C 1 dX7_feed_109 (by decide) ?_
    refine g_iadd (pc := 110) C dX7_feed_110 (fun z53 ez53 => ?_)
    have hz53 : zI 17 997 z53 := zi_add hz50 (zi_c 1 (a := 1) (b := 1) (by decide)) ez53 (by decide)
    refine pr_0_25 (pc := 111) C wk_718 dX7_feed_111 ?_
    refine g_iinc (pc := 114) C 17 ([(6, .int 17), (7, .int p4), (0, .ref (ad 0)), (1, .int p0), (2, .int p1), (3, .int p2), (4, .int p3), (5, .int p4)]) dX7_feed_114 1 rfl (by decide) (Nat.le_of_ble_eq_true rfl) rfl ?_
    refine g_goto (pc := 117) C 23 dX7_feed_117 (by decide) ?_
    refine g_iload (pc := 23) C dX7_feed_23 0 rfl ?_
    refine g_bipush (pc := 25) C 20 dX7_feed_25 (by decide) ?_
    refine g_icmp_ge (pc := 27) C 120 dX7_feed_27 (by decide) (fun h => absurd h (by decide)) (fun _ => ?_)
    refine g_iload (pc := 30) C dX7_feed_30 0 rfl ?_
    refine g_iconst (pc := 32) C 4 dX7_feed_32 (by decide) ?_
    refine g_icmp_ge (pc := 33) C 40 dX7_feed_33 (by decide) (fun _ => ?_) (fun h => absurd (by decide) h)
    refine g_iload (pc := 40) C dX7_feed_40 0 rfl ?_
    refine g_bipush (pc := 42) C 8 dX7_feed_42 (by decide) ?_
    refine g_icmp_ge (pc := 44) C 51 dX7_feed_44 (by decide) (fun _ => ?_) (fun h => absurd (by decide) h)
    refine g_iload (pc := 51) C dX7_feed_51 0 rfl ?_
    refine g_bipush (pc := 53) C 12 dX7_feed_53 (by decide) ?_
    refine g_icmp_ge (pc := 55) C 62 dX7_feed_55 (by decide) (fun _ => ?_) (fun h => absurd (by decide) h)
    refine g_iload (pc := 62) C dX7_feed_62 0 rfl ?_
    refine g_bipush (pc := 64) C 16 dX7_feed_64 (by decide) ?_
    refine g_icmp_ge (pc := 66) C 74 dX7_feed_66 (by decide) (fun _ => ?_) (fun h => absurd (by decide) h)
    refine g_iload (pc := 74) C dX7_feed_74 7 rfl ?_
    refine g_istore (pc := 76) C ([(7, .int p4), (6, .int 17), (0, .ref (ad 0)), (1, .int p0), (2, .int p1), (3, .int p2), (4, .int p3), (5, .int p4)]) dX7_feed_76 (Nat.le_of_ble_eq_true rfl) rfl ?_
    refine g_aload_n (pc := 78) C dX7_feed_78 rfl 2 rfl ?_
    refine gr_0_24 (pc := 79) C wk_717 dX7_feed_79 ?_
    refine g_aload_n (pc := 82) C dX7_feed_82 rfl 2 rfl ?_
    refine gr_0_25 (pc := 83) C wk_718 dX7_feed_83 ?_
    refine g_iload (pc := 86) C dX7_feed_86 0 rfl ?_
    refine g_bipush (pc := 88) C 24 dX7_feed_88 (by decide) ?_
    refine g_bipush (pc := 90) C 8 dX7_feed_90 (by decide) ?_
    refine g_iload (pc := 92) C dX7_feed_92 1 rfl ?_
    refine g_iconst (pc := 94) C 4 dX7_feed_94 (by decide) ?_
    refine g_iremc (pc := 95) C 1 dX7_feed_95 (by decide) (by decide) ?_
    refine g_imulc (pc := 96) C 8 dX7_feed_96 (by decide) ?_
    refine g_isubc (pc := 97) C 16 dX7_feed_97 (by decide) ?_
    refine g_ishr (pc := 98) C dX7_feed_98 (fun z54 ez54 => ?_)
    refine g_sipush (pc := 99) C 255 dX7_feed_99 (by decide) ?_
    refine g_iand (pc := 102) C dX7_feed_102 (fun z55 ez55 => ?_)
    have hz55 : zI 0 255 z55 := zi_and1 (zi_c 255 (a := 0) (b := 255) (by decide)) ez55
    refine sr_9 (pc := 103) C (zi_in hz53 (by decide)) hz55 dX7_feed_103 ?_
    refine g_aload_n (pc := 104) C dX7_feed_104 rfl 2 rfl ?_
    refine g_dup (pc := 105) C dX7_feed_105 rfl ?_
    refine gr_0_25 (pc := 106) C wk_718 dX7_feed_106 ?_
    refine g_iconst (pc := 109) C 1 dX7_feed_109 (by decide) ?_
    refine g_iadd (pc := 110) C dX7_feed_110 (fun z56 ez56 => ?_)
    have hz56 : zI 18 998 z56 := zi_add hz53 (zi_c 1 (a := 1) (b := 1) (by decide)) ez56 (by decide)
    refine pr_0_25 (pc := 111) C wk_718 dX7_feed_111 ?_
    refine g_iinc (pc := 114) C 18 ([(6, .int 18), (7, .int p4), (0, .ref (ad 0)), (1, .int p0), (2, .int p1), (3, .int p2), (4, .int p3), (5, .int p4)]) dX7_feed_114 1 rfl (by decide) (Nat.le_of_ble_eq_true rfl) rfl ?_
    refine g_goto (pc := 117) C 23 dX7_feed_117 (by decide) ?_
    refine g_iload (pc := 23) C dX7_feed_23 0 rfl ?_
    refine g_bipush (pc := 25) C 20 dX7_feed_25 (by decide) ?_
    refine g_icmp_ge (pc := 27) C 120 dX7_feed_27 (by decide) (fun h => absurd h (by decide)) (fun _ => ?_)
    refine g_iload (pc := 30) C dX7_feed_30 0 rfl ?_
    refine g_iconst (pc := 32) C 4 dX7_feed_32 (by decide) ?_
    refine g_icmp_ge (pc := 33) C 40 dX7_feed_33 (by decide) (fun _ => ?_) (fun h => absurd (by decide) h)
    refine g_iload (pc := 40) C dX7_feed_40 0 rfl ?_
    refine g_bipush (pc := 42) C 8 dX7_feed_42 (by decide) ?_
    refine g_icmp_ge (pc := 44) C 51 dX7_feed_44 (by decide) (fun _ => ?_) (fun h => absurd (by decide) h)
    refine g_iload (pc := 51) C dX7_feed_51 0 rfl ?_
    refine g_bipush (pc := 53) C 12 dX7_feed_53 (by decide) ?_
    refine g_icmp_ge (pc := 55) C 62 dX7_feed_55 (by decide) (fun _ => ?_) (fun h => absurd (by decide) h)
    refine g_iload (pc := 62) C dX7_feed_62 0 rfl ?_
    refine g_bipush (pc := 64) C 16 dX7_feed_64 (by decide) ?_
    refine g_icmp_ge (pc := 66) C 74 dX7_feed_66 (by decide) (fun _ => ?_) (fun h => absurd (by decide) h)
    refine g_iload (pc := 74) C dX7_feed_74 7 rfl ?_
    refine g_istore (pc := 76) C ([(7, .int p4), (6, .int 18), (0, .ref (ad 0)), (1, .int p0), (2, .int p1), (3, .int p2), (4, .int p3), (5, .int p4)]) dX7_feed_76 (Nat.le_of_ble_eq_true rfl) rfl ?_
    refine g_aload_n (pc := 78) C dX7_feed_78 rfl 2 rfl ?_
    refine gr_0_24 (pc := 79) C wk_717 dX7_feed_79 ?_
    refine g_aload_n (pc := 82) C dX7_feed_82 rfl 2 rfl ?_
    refine gr_0_25 (pc := 83) C wk_718 dX7_feed_83 ?_
    refine g_iload (pc := 86) C dX7_feed_86 0 rfl ?_
    refine g_bipush (pc := 88) C 24 dX7_feed_88 (by decide) ?_
    refine g_bipush (pc := 90) C 8 dX7_feed_90 (by decide) ?_
    refine g_iload (pc := 92) C dX7_feed_92 1 rfl ?_
    refine g_iconst (pc := 94) C 4 dX7_feed_94 (by decide) ?_
    refine g_iremc (pc := 95) C 2 dX7_feed_95 (by decide) (by decide) ?_
    refine g_imulc (pc := 96) C 16 dX7_feed_96 (by decide) ?_
    refine g_isubc (pc := 97) C 8 dX7_feed_97 (by decide) ?_
    refine g_ishr (pc := 98) C dX7_feed_98 (fun z57 ez57 => ?_)
    refine g_sipush (pc := 99) C 255 dX7_feed_99 (by decide) ?_
    refine g_iand (pc := 102) C dX7_feed_102 (fun z58 ez58 => ?_)
    have hz58 : zI 0 255 z58 := zi_and1 (zi_c 255 (a := 0) (b := 255) (by decide)) ez58
    refine sr_9 (pc := 103) C (zi_in hz56 (by decide)) hz58 dX7_feed_103 ?_
    refine g_aload_n (pc := 104) C dX7_feed_104 rfl 2 rfl ?_
    refine g_dup (pc := 105) C dX7_feed_105 rfl ?_
    refine gr_0_25 (pc := 106) C wk_718 dX7_feed_106 ?_
    refine g_iconst (pc := 109) C 1 dX7_feed_109 (by decide) ?_
    refine g_iadd (pc := 110) C dX7_feed_110 (fun z59 ez59 => ?_)
    have hz59 : zI 19 999 z59 := zi_add hz56 (zi_c 1 (a := 1) (b := 1) (by decide)) ez59 (by decide)
    refine pr_0_25 (pc := 111) C wk_718 dX7_feed_111 ?_
    refine g_iinc (pc := 114) C 19 ([(6, .int 19), (7, .int p4), (0, .ref (ad 0)), (1, .int p0), (2, .int p1), (3, .int p2), (4, .int p3), (5, .int p4)]) dX7_feed_114 1 rfl (by decide) (Nat.le_of_ble_eq_true rfl) rfl ?_
    refine g_goto (pc := 117) C 23 dX7_feed_117 (by decide) ?_
    refine g_iload (pc := 23) C dX7_feed_23 0 rfl ?_
    refine g_bipush (pc := 25) C 20 dX7_feed_25 (by decide) ?_
    refine g_icmp_ge (pc := 27) C 120 dX7_feed_27 (by decide) (fun h => absurd h (by decide)) (fun _ => ?_)
    refine g_iload (pc := 30) C dX7_feed_30 0 rfl ?_
    refine g_iconst (pc := 32) C 4 dX7_feed_32 (by decide) ?_
    refine g_icmp_ge (pc := 33) C 40 dX7_feed_33 (by decide) (fun _ => ?_) (fun h => absurd (by decide) h)
    refine g_iload (pc := 40) C dX7_feed_40 0 rfl ?_
    refine g_bipush (pc := 42) C 8 dX7_feed_42 (by decide) ?_
    refine g_icmp_ge (pc := 44) C 51 dX7_feed_44 (by decide) (fun _ => ?_) (fun h => absurd (by decide) h)
    refine g_iload (pc := 51) C dX7_feed_51 0 rfl ?_
    refine g_bipush (pc := 53) C 12 dX7_feed_53 (by decide) ?_
    refine g_icmp_ge (pc := 55) C 62 dX7_feed_55 (by decide) (fun _ => ?_) (fun h => absurd (by decide) h)
    refine g_iload (pc := 62) C dX7_feed_62 0 rfl ?_
    refine g_bipush (pc := 64) C 16 dX7_feed_64 (by decide) ?_
    refine g_icmp_ge (pc := 66) C 74 dX7_feed_66 (by decide) (fun _ => ?_) (fun h => absurd (by decide) h)
    refine g_iload (pc := 74) C dX7_feed_74 7 rfl ?_
    refine g_istore (pc := 76) C ([(7, .int p4), (6, .int 19), (0, .ref (ad 0)), (1, .int p0), (2, .int p1), (3, .int p2), (4, .int p3), (5, .int p4)]) dX7_feed_76 (Nat.le_of_ble_eq_true rfl) rfl ?_
    refine g_aload_n (pc := 78) C dX7_feed_78 rfl 2 rfl ?_
    refine gr_0_24 (pc := 79) C wk_717 dX7_feed_79 ?_
    refine g_aload_n (pc := 82) C dX7_feed_82 rfl 2 rfl ?_
    refine gr_0_25 (pc := 83) C wk_718 dX7_feed_83 ?_
    refine g_iload (pc := 86) C dX7_feed_86 0 rfl ?_
    refine g_bipush (pc := 88) C 24 dX7_feed_88 (by decide) ?_
    refine g_bipush (pc := 90) C 8 dX7_feed_90 (by decide) ?_
    refine g_iload (pc := 92) C dX7_feed_92 1 rfl ?_
    refine g_iconst (pc := 94) C 4 dX7_feed_94 (by decide) ?_
    refine g_iremc (pc := 95) C 3 dX7_feed_95 (by decide) (by decide) ?_
    refine g_imulc (pc := 96) C 24 dX7_feed_96 (by decide) ?_
    refine g_isubc (pc := 97) C 0 dX7_feed_97 (by decide) ?_
    refine g_ishr (pc := 98) C dX7_feed_98 (fun z60 ez60 => ?_)
    refine g_sipush (pc := 99) C 255 dX7_feed_99 (by decide) ?_
    refine g_iand (pc := 102) C dX7_feed_102 (fun z61 ez61 => ?_)
    have hz61 : zI 0 255 z61 := zi_and1 (zi_c 255 (a := 0) (b := 255) (by decide)) ez61
    refine sr_9 (pc := 103) C (zi_in hz59 (by decide)) hz61 dX7_feed_103 ?_
    refine g_aload_n (pc := 104) C dX7_feed_104 rfl 2 rfl ?_
    refine g_dup (pc := 105) C dX7_feed_105 rfl ?_
    refine gr_0_25 (pc := 106) C wk_718 dX7_feed_106 ?_
    refine g_iconst (pc := 109) C 1 dX7_feed_109 (by decide) ?_
    refine g_iadd (pc := 110) C dX7_feed_110 (fun z62 ez62 => ?_)
    have hz62 : zI 20 1000 z62 := zi_add hz59 (zi_c 1 (a := 1) (b := 1) (by decide)) ez62 (by decide)
    refine pr_0_25 (pc := 111) C wk_718 dX7_feed_111 ?_
    refine g_iinc (pc := 114) C 20 ([(6, .int 20), (7, .int p4), (0, .ref (ad 0)), (1, .int p0), (2, .int p1), (3, .int p2), (4, .int p3), (5, .int p4)]) dX7_feed_114 1 rfl (by decide) (Nat.le_of_ble_eq_true rfl) rfl ?_
    refine g_goto (pc := 117) C 23 dX7_feed_117 (by decide) ?_
    refine g_iload (pc := 23) C dX7_feed_23 0 rfl ?_
    refine g_bipush (pc := 25) C 20 dX7_feed_25 (by decide) ?_
    refine g_icmp_ge (pc := 27) C 120 dX7_feed_27 (by decide) (fun _ => ?_) (fun h => absurd (by decide) h)
    refine g_aload_n (pc := 120) C dX7_feed_120 rfl 2 rfl ?_
    refine gr_0_25 (pc := 121) C wk_718 dX7_feed_121 ?_
    exact g_ireturn r dX7_feed_124 rfl (fun _ h => by subst ez5 ez8 ez11 ez14 ez17 ez20 ez23 ez26 ez29 ez32 ez35 ez38 ez41 ez44 ez47 ez50 ez53 ez56 ez59 ez62; exact ⟨_, Or.inr ⟨htl.2, rfl, rfl⟩, h⟩)
  · have h63 : zI 1001 1000 z1 := zr_lt2 (zc_nle c2) (zi_c 1000 (a := 1000) (b := 1000) (by decide)) hz1 (by decide)
    exact zi_no h63 (by decide)

set_option maxHeartbeats 2000000 in
set_option maxRecDepth 100000 in
theorem n_X7_feedB (l : Launch) (D : va_G) (ad : Nat → Nat) (cy : Nat → ClassId) (tl : Int32) (A : Nat → Prop) (p0 : Int32) (p1 : Int32) (p2 : Int32) (p3 : Int32) (p4 : Int32) (htl : zI 981 1000 tl) : zMi l yX7_feed wz_X7_feed ({ frames := 0, cells := 0, slots := 0, locals := 0 }) [.ref (ad 0), .int p0, .int p1, .int p2, .int p3, .int p4] D (zTr cy) A (zMr D A ad cy tl) (fun r H => ∃ t, zfeed tl r t ∧ zMr D A ad cy t H) := by
  refine zstart_i (cc := cX7_feed) (maxL := 8) (ty := .int) (own := RX7) (by decide) rfl rfl (Nat.le_of_ble_eq_true rfl) (fun p e s m args below meth c Q C r => ?_)
  refine g_sub (lv' := [(0, .ref (ad 0)), (1, .int p0), (2, .int p1), (3, .int p2), (4, .int p3), (5, .int p4)]) [0, 1, 2, 3, 4, 5] rfl ?_
  refine g_aload_n (pc := 0) C dX7_feed_0 rfl 0 rfl ?_
  refine g_iconst (pc := 1) C 0 dX7_feed_1 (by decide) ?_
  refine pr_0_0 (pc := 2) C wk_693 dX7_feed_2 ?_
  refine g_aload_n (pc := 5) C dX7_feed_5 rfl 0 rfl ?_
  refine gr_0_25 (pc := 6) C wk_718 dX7_feed_6 ?_
  refine g_bipush (pc := 9) C 20 dX7_feed_9 (by decide) ?_
  refine g_iadd (pc := 11) C dX7_feed_11 (fun z1 ez1 => ?_)
  have hz1 : zI 1001 1020 z1 := zi_add htl (zi_c 20 (a := 20) (b := 20) (by decide)) ez1 (by decide)
  refine g_sipush (pc := 12) C 1000 dX7_feed_12 (by decide) ?_
  refine g_icmp_le (pc := 15) C 20 dX7_feed_15 (by decide) (fun c2 => ?_) (fun c2 => ?_)
  · have h3 : zI 1001 1000 z1 := zr_le1 (zc_le c2) hz1 (zi_c 1000 (a := 1000) (b := 1000) (by decide)) (by decide)
    exact zi_no h3 (by decide)
  · refine g_iconst (pc := 18) C (-1) dX7_feed_18 (by decide) ?_
    exact g_ireturn r dX7_feed_19 rfl (fun _ h => ⟨_, Or.inl ⟨Int.lt_of_lt_of_le (by decide) htl.1, rfl, rfl⟩, h⟩)

theorem n_X7_feed (l : Launch) (D : va_G) (ad : Nat → Nat) (cy : Nat → ClassId) (tl : Int32) (A : Nat → Prop) (p0 p1 p2 p3 p4 : Int32) (htl : zI 0 1000 tl) : zMi l yX7_feed wz_X7_feed ({ frames := 0, cells := 0, slots := 0, locals := 0 }) [.ref (ad 0), .int p0, .int p1, .int p2, .int p3, .int p4] D (zTr cy) A (zMr D A ad cy tl) (fun r H => ∃ t, zfeed tl r t ∧ zMr D A ad cy t H) := by
  by_cases h : tl.toInt ≤ 980
  · exact n_X7_feedA l D ad cy tl A p0 p1 p2 p3 p4 ⟨htl.1, h⟩
  · exact n_X7_feedB l D ad cy tl A p0 p1 p2 p3 p4 ⟨by omega, htl.2⟩

set_option maxHeartbeats 2000000 in
set_option maxRecDepth 100000 in
theorem n_X7_end (l : Launch) (D : va_G) (ad : Nat → Nat) (cy : Nat → ClassId) (tl : Int32) (A : Nat → Prop) (p0 : Int32) (htl : zI 0 1000 tl) : zMi l yX7_end wz_X7_end ({ frames := 1, cells := 0, slots := 0, locals := 22 }) [.ref (ad 0), .int p0] D (zTr cy) A (zMr D A ad cy tl) (fun r H => ∃ t, zend tl p0 r t ∧ zMr D A ad cy t H) := by
  refine zstart_i (cc := cX7_end) (maxL := 2) (ty := .int) (own := RX7) (by decide) rfl rfl (Nat.le_of_ble_eq_true rfl) (fun p e s m args below meth c Q C r => ?_)
  refine g_sub (lv' := [(0, .ref (ad 0)), (1, .int p0)]) [0, 1] rfl ?_
  refine g_aload_n (pc := 0) C dX7_end_0 rfl 0 rfl ?_
  refine g_iconst (pc := 1) C 0 dX7_end_1 (by decide) ?_
  refine pr_0_0 (pc := 2) C wk_693 dX7_end_2 ?_
  refine g_iload_n (pc := 5) C dX7_end_5 rfl 1 rfl ?_
  refine g_iconst (pc := 6) C 0 dX7_end_6 (by decide) ?_
  refine g_aload_n (pc := 7) C dX7_end_7 rfl 0 rfl ?_
  refine gr_0_25 (pc := 8) C wk_718 dX7_end_8 ?_
  refine zcallSi (pc := 11) (st := []) C C.2.2.2.2.2 (n_X7_in l D ad cy tl A p0 0 tl 0 (tl : Int32).toInt (by decide) rfl) (va_cwS 3 C.2.2.2.2.1 gw_RX7_47 rfl rfl rfl cs_X7_in ⟨Nat.le_of_ble_eq_true rfl, Nat.le_of_ble_eq_true rfl⟩) rfl rfl (Nat.le_of_ble_eq_true rfl) ⟨Nat.le_of_ble_eq_true rfl, Nat.le_of_ble_eq_true rfl⟩ dX7_end_11 (fun r1 => ?_)
  refine g_and (M2 := (zMr D A ad cy tl)) (fun hr1 => ?_)
  have kr1 := zin_01 hr1
  refine g_if_ne (pc := 14) C 19 dX7_end_14 (by decide) (fun c2 => ?_) (fun c2 => ?_)
  · have h3 : zI 1 1 r1 := zr_neL c2 kr1 (zi_c 0 (a := 0) (b := 0) (by decide)) (by decide)
    refine g_aload_n (pc := 19) C dX7_end_19 rfl 0 rfl ?_
    refine g_iload_n (pc := 20) C dX7_end_20 rfl 1 rfl ?_
    refine pr_0_25 (pc := 21) C wk_718 dX7_end_21 ?_
    refine g_iload_n (pc := 24) C dX7_end_24 rfl 1 rfl ?_
    exact g_ireturn r dX7_end_25 rfl (fun _ h => ⟨_, Or.inl ⟨zin_1 hr1 c2, rfl, rfl⟩, h⟩)
  · have h4 : zI 0 0 r1 := zr_eq c2 kr1 (zi_c 0 (a := 0) (b := 0) (by decide)) (by decide)
    refine g_iconst (pc := 17) C (-1) dX7_end_17 (by decide) ?_
    exact g_ireturn r dX7_end_18 rfl (fun _ h => ⟨_, Or.inr ⟨zin_0 hr1 c2, rfl, rfl⟩, h⟩)

set_option maxHeartbeats 2000000 in
set_option maxRecDepth 100000 in
theorem n_X7_plainWord (l : Launch) (D : va_G) (ad : Nat → Nat) (cy : Nat → ClassId) (tl : Int32) (A : Nat → Prop) (p0 : Int32) (hp0 : zI 0 65534 p0) : zMi l yX7_plainWord wz_X7_plainWord ({ frames := 2, cells := 0, slots := 0, locals := 43 }) [.ref (ad 0), .int p0] D (zTr cy) A (zMr D A ad cy tl) (fun _ => (zMr D A ad cy tl)) := by
  refine zstart_i (cc := cX7_plainWord) (maxL := 2) (ty := .int) (own := RX7) (by decide) rfl rfl (Nat.le_of_ble_eq_true rfl) (fun p e s m args below meth c Q C r => ?_)
  have J28 : ∀ (b0_28 : Int32) (_ : zI 0 65535 b0_28), zG p l e ({ frames := 2, cells := 0, slots := 0, locals := 43 }) s m args below meth c 2 0 0 A Q (zMr D A ad cy tl) 28 [(0, .ref (ad 0)), (1, .int p0)] [.int b0_28] := by
    intro b0_28 hb0_28
    exact g_ireturn r dX7_plainWord_28 rfl (fun _ h => h)
  refine g_sub (lv' := [(0, .ref (ad 0)), (1, .int p0)]) [0, 1] rfl ?_
  refine g_iload_n (pc := 0) C dX7_plainWord_0 rfl 1 rfl ?_
  refine zcallSi (pc := 1) (st := []) C C.2.2.2.2.2 (n_X7_isPort l D ad cy tl A p0) (va_cwS 1 C.2.2.2.2.1 gw_RX7_56 rfl rfl rfl cs_X7_isPort ⟨Nat.le_of_ble_eq_true rfl, Nat.le_of_ble_eq_true rfl⟩) rfl rfl (Nat.le_of_ble_eq_true rfl) ⟨Nat.le_of_ble_eq_true rfl, Nat.le_of_ble_eq_true rfl⟩ dX7_plainWord_1 (fun r1 => ?_)
  refine g_and (M2 := (zMr D A ad cy tl)) (fun hr1 => ?_)
  refine g_if_eq (pc := 4) C 11 dX7_plainWord_4 (by decide) (fun c2 => ?_) (fun c2 => ?_)
  · have h3 : zI 0 0 r1 := zr_eq c2 hr1 (zi_c 0 (a := 0) (b := 0) (by decide)) (by decide)
    refine g_sipush (pc := 11) C 256 dX7_plainWord_11 (by decide) ?_
    refine g_aload_n (pc := 14) C dX7_plainWord_14 rfl 0 rfl ?_
    refine g_iload_n (pc := 15) C dX7_plainWord_15 rfl 1 rfl ?_
    refine zcallVi (pc := 16) (st := [.int 256]) C C.2.2.2.2.2 (n_X7_plain l D ad cy tl A p0 (zi_w hp0 (a' := 0) (b' := 65535) (by decide))) (cwV 1 C.2.2.2.2.1 gw_RX7_64 rfl rfl rfl cd_X7_plain ⟨Nat.le_of_ble_eq_true rfl, Nat.le_of_ble_eq_true rfl⟩) (hr_0 C) rfl rfl (Nat.le_of_ble_eq_true rfl) ⟨Nat.le_of_ble_eq_true rfl, Nat.le_of_ble_eq_true rfl⟩ dX7_plainWord_16 (fun r4 => ?_)
    refine g_and (M2 := (zMr D A ad cy tl)) (fun hr4 => ?_)
    refine g_imul (pc := 19) C dX7_plainWord_19 (fun z5 ez5 => ?_)
    have hz5 : zI 0 65280 z5 := zi_mul (zi_c 256 (a := 256) (b := 256) (by decide)) hr4 ez5 (by decide)
    refine g_aload_n (pc := 20) C dX7_plainWord_20 rfl 0 rfl ?_
    refine g_iload_n (pc := 21) C dX7_plainWord_21 rfl 1 rfl ?_
    refine g_iconst (pc := 22) C 1 dX7_plainWord_22 (by decide) ?_
    refine g_iadd (pc := 23) C dX7_plainWord_23 (fun z6 ez6 => ?_)
    have hz6 : zI 1 65535 z6 := zi_add hp0 (zi_c 1 (a := 1) (b := 1) (by decide)) ez6 (by decide)
    refine zcallVi (pc := 24) (st := [.int z5]) C C.2.2.2.2.2 (n_X7_plain l D ad cy tl A z6 (zi_w hz6 (a' := 0) (b' := 65535) (by decide))) (cwV 1 C.2.2.2.2.1 gw_RX7_64 rfl rfl rfl cd_X7_plain ⟨Nat.le_of_ble_eq_true rfl, Nat.le_of_ble_eq_true rfl⟩) (hr_0 C) rfl rfl (Nat.le_of_ble_eq_true rfl) ⟨Nat.le_of_ble_eq_true rfl, Nat.le_of_ble_eq_true rfl⟩ dX7_plainWord_24 (fun r7 => ?_)
    refine g_and (M2 := (zMr D A ad cy tl)) (fun hr7 => ?_)
    refine g_iadd (pc := 27) C dX7_plainWord_27 (fun z8 ez8 => ?_)
    have hz8 : zI 0 65535 z8 := zi_add hz5 hr7 ez8 (by decide)
    exact g_sub [0, 1] rfl (J28 z8 hz8)
  · have h9 : zI 1 1 r1 := zr_neL c2 hr1 (zi_c 0 (a := 0) (b := 0) (by decide)) (by decide)
    refine g_iconst (pc := 7) C 0 dX7_plainWord_7 (by decide) ?_
    refine g_goto (pc := 8) C 28 dX7_plainWord_8 (by decide) ?_
    exact g_sub [0, 1] rfl (J28 0 (zi_c 0 (a := 0) (b := 65535) (by decide)))

set_option maxHeartbeats 2000000 in
set_option maxRecDepth 100000 in
theorem n_X7_reset (l : Launch) (D : va_G) (ad : Nat → Nat) (cy : Nat → ClassId) (tl : Int32) (A : Nat → Prop) : zMv l yX7_reset wz_X7_reset ({ frames := 3, cells := 0, slots := 0, locals := 64 }) [.ref (ad 0)] D (zTr cy) A (zMr D A ad cy tl) (zMr D A ad cy tl) := by
  refine zstart_v (cc := cX7_reset) (maxL := 2) (own := RX7) (by decide) rfl rfl (Nat.le_of_ble_eq_true rfl) (fun p e s m args below meth c Q C r => ?_)
  have J46 : ∀ (n : Nat) (a1_46 : Int32) (_ : zI 0 16 a1_46) (_ : (16 - (a1_46 : Int32).toInt).toNat = n), zG p l e ({ frames := 3, cells := 0, slots := 0, locals := 64 }) s m args below meth c 2 0 0 A Q (zMr D A ad cy tl) 46 [(0, .ref (ad 0)), (1, .int a1_46)] [] := by
    intro n
    induction n using Nat.strongRecOn with
    | ind n ih =>
      intro a1_46 ha1_46 hn
      refine g_iload_n (pc := 46) C dX7_reset_46 rfl 1 rfl ?_
      refine g_bipush (pc := 47) C 16 dX7_reset_47 (by decide) ?_
      refine g_icmp_ge (pc := 49) C 65 dX7_reset_49 (by decide) (fun c1 => ?_) (fun c1 => ?_)
      · have h2 : zI 16 16 a1_46 := zr_le2 (zc_le c1) (zi_c 16 (a := 16) (b := 16) (by decide)) ha1_46 (by decide)
        exact g_return r dX7_reset_65 (fun _ h => h)
      · have h3 : zI 0 15 a1_46 := zr_lt1 (zc_nle c1) ha1_46 (zi_c 16 (a := 16) (b := 16) (by decide)) (by decide)
        refine g_aload_n (pc := 52) C dX7_reset_52 rfl 0 rfl ?_
        refine gr_0_22 (pc := 53) C wk_715 dX7_reset_53 ?_
        refine g_iload_n (pc := 56) C dX7_reset_56 rfl 1 rfl ?_
        refine g_iconst (pc := 57) C 0 dX7_reset_57 (by decide) ?_
        refine sr_8 (pc := 58) C (zi_in h3 (by decide)) dX7_reset_58 ?_
        obtain ⟨z4, ez4⟩ : ∃ z : Int32, z = a1_46 + 1 := ⟨_, rfl⟩
        have hz4 : zI 1 16 z4 := zi_add h3 (zi_c 1 (a := 1) (b := 1) (by decide)) ez4 (by decide)
        refine g_iinc (pc := 59) C z4 ([(1, .int z4), (0, .ref (ad 0))]) dX7_reset_59 1 rfl (by rw [ez4]; rfl) (Nat.le_of_ble_eq_true rfl) rfl ?_
        refine g_goto (pc := 62) C 46 dX7_reset_62 (by decide) ?_
        exact g_sub [1, 0] rfl (ih (16 - (z4 : Int32).toInt).toNat (by rw [← hn]; exact zdec ez4 h3 (by decide) (zi_w hz4 (a' := 0) (b' := 16) (by decide))) z4 (zi_w hz4 (a' := 0) (b' := 16) (by decide)) rfl)
  refine g_sub (lv' := [(0, .ref (ad 0))]) [0] rfl ?_
  refine g_aload_n (pc := 0) C dX7_reset_0 rfl 0 rfl ?_
  refine g_iconst (pc := 1) C 0 dX7_reset_1 (by decide) ?_
  refine pr_0_0 (pc := 2) C wk_693 dX7_reset_2 ?_
  refine g_aload_n (pc := 5) C dX7_reset_5 rfl 0 rfl ?_
  refine g_aload_n (pc := 6) C dX7_reset_6 rfl 0 rfl ?_
  refine g_iconst (pc := 7) C 0 dX7_reset_7 (by decide) ?_
  refine zcallVi (pc := 8) (st := [.ref (ad 0)]) C C.2.2.2.2.2 (n_X7_plainWord l D ad cy tl A 0 (zi_c 0 (a := 0) (b := 65534) (by decide))) (cwV 1 C.2.2.2.2.1 gw_RX7_248 rfl rfl rfl cd_X7_plainWord ⟨Nat.le_of_ble_eq_true rfl, Nat.le_of_ble_eq_true rfl⟩) (hr_0 C) rfl rfl (Nat.le_of_ble_eq_true rfl) ⟨Nat.le_of_ble_eq_true rfl, Nat.le_of_ble_eq_true rfl⟩ dX7_reset_8 (fun r5 => ?_)
  refine g_ldc (pc := 11) C dX7_reset_11 (C.wd wk_792) ?_
  refine g_iand (pc := 13) C dX7_reset_13 (fun z6 ez6 => ?_)
  have vz6 : zEv z6 := zev_and ez6
  have hz6 : zI 0 65534 z6 := zi_and1 (zi_c 65534 (a := 0) (b := 65534) (by decide)) ez6
  refine pr_0_17 (pc := 14) C wk_710 vz6 dX7_reset_14 ?_
  refine g_aload_n (pc := 17) C dX7_reset_17 rfl 0 rfl ?_
  refine g_aload_n (pc := 18) C dX7_reset_18 rfl 0 rfl ?_
  refine g_iconst (pc := 19) C 2 dX7_reset_19 (by decide) ?_
  refine zcallVi (pc := 20) (st := [.ref (ad 0)]) C C.2.2.2.2.2 (n_X7_plainWord l D ad cy tl A 2 (zi_c 2 (a := 0) (b := 65534) (by decide))) (cwV 1 C.2.2.2.2.1 gw_RX7_248 rfl rfl rfl cd_X7_plainWord ⟨Nat.le_of_ble_eq_true rfl, Nat.le_of_ble_eq_true rfl⟩) (hr_0 C) rfl rfl (Nat.le_of_ble_eq_true rfl) ⟨Nat.le_of_ble_eq_true rfl, Nat.le_of_ble_eq_true rfl⟩ dX7_reset_20 (fun r7 => ?_)
  refine g_ldc (pc := 23) C dX7_reset_23 (C.wd wk_792) ?_
  refine g_iand (pc := 25) C dX7_reset_25 (fun z8 ez8 => ?_)
  have vz8 : zEv z8 := zev_and ez8
  have hz8 : zI 0 65534 z8 := zi_and1 (zi_c 65534 (a := 0) (b := 65534) (by decide)) ez8
  refine pr_0_16 (pc := 26) C wk_709 dX7_reset_26 ?_
  refine g_aload_n (pc := 29) C dX7_reset_29 rfl 0 rfl ?_
  refine g_iconst (pc := 30) C 0 dX7_reset_30 (by decide) ?_
  refine pr_0_18 (pc := 31) C wk_711 dX7_reset_31 ?_
  refine g_aload_n (pc := 34) C dX7_reset_34 rfl 0 rfl ?_
  refine g_iconst (pc := 35) C 0 dX7_reset_35 (by decide) ?_
  refine pr_0_19 (pc := 36) C wk_712 dX7_reset_36 ?_
  refine g_aload_n (pc := 39) C dX7_reset_39 rfl 0 rfl ?_
  refine g_iconst (pc := 40) C 0 dX7_reset_40 (by decide) ?_
  refine pr_0_23 (pc := 41) C wk_716 (zi_c 0 (a := 0) (b := 1) (by decide)) dX7_reset_41 ?_
  refine g_iconst (pc := 44) C 0 dX7_reset_44 (by decide) ?_
  refine g_istore_n (pc := 45) C ([(1, .int 0), (0, .ref (ad 0))]) dX7_reset_45 rfl (Nat.le_of_ble_eq_true rfl) rfl ?_
  exact g_sub [1, 0] rfl (J46 (16 - (0 : Int32).toInt).toNat 0 (zi_c 0 (a := 0) (b := 16) (by decide)) rfl)

set_option maxHeartbeats 2000000 in
set_option maxRecDepth 100000 in
theorem n_X7_state (l : Launch) (D : va_G) (ad : Nat → Nat) (cy : Nat → ClassId) (tl : Int32) (A : Nat → Prop) (p0 : Int32) : zMi l yX7_state wz_X7_state ({ frames := 3, cells := 0, slots := 0, locals := 64 }) [.ref (ad 0), .int p0] D (zTr cy) A (zMr D A ad cy tl) (fun _ => (zMr D A ad cy tl)) := by
  refine zstart_i (cc := cX7_state) (maxL := 2) (ty := .int) (own := RX7) (by decide) rfl rfl (Nat.le_of_ble_eq_true rfl) (fun p e s m args below meth c Q C r => ?_)
  refine g_sub (lv' := [(0, .ref (ad 0)), (1, .int p0)]) [0, 1] rfl ?_
  refine g_aload_n (pc := 0) C dX7_state_0 rfl 0 rfl ?_
  refine g_iconst (pc := 1) C 0 dX7_state_1 (by decide) ?_
  refine pr_0_0 (pc := 2) C wk_693 dX7_state_2 ?_
  refine g_iload_n (pc := 5) C dX7_state_5 rfl 1 rfl ?_
  refine g_bipush (pc := 6) C 16 dX7_state_6 (by decide) ?_
  refine g_bipush (pc := 8) C 31 dX7_state_8 (by decide) ?_
  refine zcallSi (pc := 10) (st := []) C C.2.2.2.2.2 (n_X7_in l D ad cy tl A p0 16 31 16 31 (by decide) (by decide)) (va_cwS 3 C.2.2.2.2.1 gw_RX7_47 rfl rfl rfl cs_X7_in ⟨Nat.le_of_ble_eq_true rfl, Nat.le_of_ble_eq_true rfl⟩) rfl rfl (Nat.le_of_ble_eq_true rfl) ⟨Nat.le_of_ble_eq_true rfl, Nat.le_of_ble_eq_true rfl⟩ dX7_state_10 (fun r1 => ?_)
  refine g_and (M2 := (zMr D A ad cy tl)) (fun hr1 => ?_)
  have kr1 := zin_01 hr1
  refine g_if_eq (pc := 13) C 29 dX7_state_13 (by decide) (fun c2 => ?_) (fun c2 => ?_)
  · have h3 : zI 0 0 r1 := zr_eq c2 kr1 (zi_c 0 (a := 0) (b := 0) (by decide)) (by decide)
    refine g_iload_n (pc := 29) C dX7_state_29 rfl 1 rfl ?_
    refine g_table (pc := 30) C [98, 68, 73, 78, 83, 88, 93] dX7_state_30 (by decide) (by decide) (by decide) (List.forall_mem_cons.mpr ⟨?_, (List.forall_mem_cons.mpr ⟨?_, (List.forall_mem_cons.mpr ⟨?_, (List.forall_mem_cons.mpr ⟨?_, (List.forall_mem_cons.mpr ⟨?_, (List.forall_mem_cons.mpr ⟨?_, (List.forall_mem_cons.mpr ⟨?_, fun _ h => absurd h List.not_mem_nil⟩)⟩)⟩)⟩)⟩)⟩)⟩)
    · refine g_iconst (pc := 98) C (-1) dX7_state_98 (by decide) ?_
      exact g_ireturn r dX7_state_99 rfl (fun _ h => h)
    · refine g_aload_n (pc := 68) C dX7_state_68 rfl 0 rfl ?_
      refine gr_0_16 (pc := 69) C wk_709 dX7_state_69 (fun z4 => ?_)
      exact g_ireturn r dX7_state_72 rfl (fun _ h => h)
    · refine g_aload_n (pc := 73) C dX7_state_73 rfl 0 rfl ?_
      refine gr_0_17 (pc := 74) C wk_710 dX7_state_74 (fun z5 vz5 => ?_)
      exact g_ireturn r dX7_state_77 rfl (fun _ h => h)
    · refine g_aload_n (pc := 78) C dX7_state_78 rfl 0 rfl ?_
      refine gr_0_18 (pc := 79) C wk_711 dX7_state_79 (fun z6 => ?_)
      exact g_ireturn r dX7_state_82 rfl (fun _ h => h)
    · refine g_aload_n (pc := 83) C dX7_state_83 rfl 0 rfl ?_
      refine gr_0_19 (pc := 84) C wk_712 dX7_state_84 (fun z7 => ?_)
      exact g_ireturn r dX7_state_87 rfl (fun _ h => h)
    · refine g_aload_n (pc := 88) C dX7_state_88 rfl 0 rfl ?_
      refine gr_0_20 (pc := 89) C wk_713 dX7_state_89 (fun z8 => ?_)
      exact g_ireturn r dX7_state_92 rfl (fun _ h => h)
    · refine g_aload_n (pc := 93) C dX7_state_93 rfl 0 rfl ?_
      refine gr_0_21 (pc := 94) C wk_714 dX7_state_94 (fun z9 => ?_)
      exact g_ireturn r dX7_state_97 rfl (fun _ h => h)
  · have h10 : zI 16 31 p0 := zin_1 hr1 c2
    have h11 : zI 1 1 r1 := zr_neL c2 kr1 (zi_c 0 (a := 0) (b := 0) (by decide)) (by decide)
    refine g_aload_n (pc := 16) C dX7_state_16 rfl 0 rfl ?_
    refine g_aload_n (pc := 17) C dX7_state_17 rfl 0 rfl ?_
    refine g_iload_n (pc := 18) C dX7_state_18 rfl 1 rfl ?_
    refine g_bipush (pc := 19) C 16 dX7_state_19 (by decide) ?_
    refine g_isub (pc := 21) C dX7_state_21 (fun z12 ez12 => ?_)
    have hz12 : zI 0 15 z12 := zi_sub h10 (zi_c 16 (a := 16) (b := 16) (by decide)) ez12 (by decide)
    refine zcallVi (pc := 22) (st := [.ref (ad 0)]) C C.2.2.2.2.2 (n_X7_registerAt l D ad cy tl A z12) (cwV 1 C.2.2.2.2.1 gw_RX7_119 rfl rfl rfl cd_X7_registerAt ⟨Nat.le_of_ble_eq_true rfl, Nat.le_of_ble_eq_true rfl⟩) (hr_0 C) rfl rfl (Nat.le_of_ble_eq_true rfl) ⟨Nat.le_of_ble_eq_true rfl, Nat.le_of_ble_eq_true rfl⟩ dX7_state_22 (fun r13 => ?_)
    refine g_and (M2 := (zMr D A ad cy tl)) (fun hr13 => ?_)
    refine zcallVi (pc := 25) (st := []) C C.2.2.2.2.2 (n_X7_plainWord l D ad cy tl A r13 hr13) (cwV 1 C.2.2.2.2.1 gw_RX7_248 rfl rfl rfl cd_X7_plainWord ⟨Nat.le_of_ble_eq_true rfl, Nat.le_of_ble_eq_true rfl⟩) (hr_0 C) rfl rfl (Nat.le_of_ble_eq_true rfl) ⟨Nat.le_of_ble_eq_true rfl, Nat.le_of_ble_eq_true rfl⟩ dX7_state_25 (fun r14 => ?_)
    exact g_ireturn r dX7_state_28 rfl (fun _ h => h)

set_option maxHeartbeats 2000000 in
set_option maxRecDepth 100000 in
theorem n_X7_peek (l : Launch) (D : va_G) (ad : Nat → Nat) (cy : Nat → ClassId) (tl : Int32) (A : Nat → Prop) (p0 : Int32) : zMi l yX7_peek wz_X7_peek ({ frames := 2, cells := 0, slots := 0, locals := 43 }) [.ref (ad 0), .int p0] D (zTr cy) A (zMr D A ad cy tl) (fun _ => (zMr D A ad cy tl)) := by
  refine zstart_i (cc := cX7_peek) (maxL := 2) (ty := .int) (own := RX7) (by decide) rfl rfl (Nat.le_of_ble_eq_true rfl) (fun p e s m args below meth c Q C r => ?_)
  have J24 : ∀ (b0_24 : Int32) (_ : zI (-1) 255 b0_24), zG p l e ({ frames := 2, cells := 0, slots := 0, locals := 43 }) s m args below meth c 2 0 0 A Q (zMr D A ad cy tl) 24 [(0, .ref (ad 0)), (1, .int p0)] [.int b0_24] := by
    intro b0_24 hb0_24
    exact g_ireturn r dX7_peek_24 rfl (fun _ h => h)
  refine g_sub (lv' := [(0, .ref (ad 0)), (1, .int p0)]) [0, 1] rfl ?_
  refine g_aload_n (pc := 0) C dX7_peek_0 rfl 0 rfl ?_
  refine g_iconst (pc := 1) C 0 dX7_peek_1 (by decide) ?_
  refine pr_0_0 (pc := 2) C wk_693 dX7_peek_2 ?_
  refine g_iload_n (pc := 5) C dX7_peek_5 rfl 1 rfl ?_
  refine g_iconst (pc := 6) C 0 dX7_peek_6 (by decide) ?_
  refine g_ldc (pc := 7) C dX7_peek_7 (C.wd wk_816) ?_
  refine zcallSi (pc := 9) (st := []) C C.2.2.2.2.2 (n_X7_in l D ad cy tl A p0 0 65535 0 65535 (by decide) (by decide)) (va_cwS 3 C.2.2.2.2.1 gw_RX7_47 rfl rfl rfl cs_X7_in ⟨Nat.le_of_ble_eq_true rfl, Nat.le_of_ble_eq_true rfl⟩) rfl rfl (Nat.le_of_ble_eq_true rfl) ⟨Nat.le_of_ble_eq_true rfl, Nat.le_of_ble_eq_true rfl⟩ dX7_peek_9 (fun r1 => ?_)
  refine g_and (M2 := (zMr D A ad cy tl)) (fun hr1 => ?_)
  have kr1 := zin_01 hr1
  refine g_if_eq (pc := 12) C 23 dX7_peek_12 (by decide) (fun c2 => ?_) (fun c2 => ?_)
  · have h3 : zI 0 0 r1 := zr_eq c2 kr1 (zi_c 0 (a := 0) (b := 0) (by decide)) (by decide)
    refine g_iconst (pc := 23) C (-1) dX7_peek_23 (by decide) ?_
    exact g_sub [0, 1] rfl (J24 (-1) (zi_c (-1) (a := (-1)) (b := 255) (by decide)))
  · have h4 : zI 0 65535 p0 := zin_1 hr1 c2
    have h5 : zI 1 1 r1 := zr_neL c2 kr1 (zi_c 0 (a := 0) (b := 0) (by decide)) (by decide)
    refine g_aload_n (pc := 15) C dX7_peek_15 rfl 0 rfl ?_
    refine g_iload_n (pc := 16) C dX7_peek_16 rfl 1 rfl ?_
    refine zcallVi (pc := 17) (st := []) C C.2.2.2.2.2 (n_X7_plain l D ad cy tl A p0 h4) (cwV 1 C.2.2.2.2.1 gw_RX7_64 rfl rfl rfl cd_X7_plain ⟨Nat.le_of_ble_eq_true rfl, Nat.le_of_ble_eq_true rfl⟩) (hr_0 C) rfl rfl (Nat.le_of_ble_eq_true rfl) ⟨Nat.le_of_ble_eq_true rfl, Nat.le_of_ble_eq_true rfl⟩ dX7_peek_17 (fun r6 => ?_)
    refine g_and (M2 := (zMr D A ad cy tl)) (fun hr6 => ?_)
    refine g_goto (pc := 20) C 24 dX7_peek_20 (by decide) ?_
    exact g_sub [0, 1] rfl (J24 r6 (zi_w hr6 (a' := (-1)) (b' := 255) (by decide)))

set_option maxHeartbeats 2000000 in
set_option maxRecDepth 100000 in
theorem n_X7_setL (l : Launch) (D : va_G) (ad : Nat → Nat) (cy : Nat → ClassId) (tl : Int32) (A : Nat → Prop) (p0 : Int32) (p1 : Int32) (hp0 : zI (-2147483648) (-1) p0) : zMi l yX7_set wz_X7_set ({ frames := 1, cells := 0, slots := 0, locals := 22 }) [.ref (ad 0), .int p0, .int p1] D (zTr cy) A (zMr D A ad cy tl) (fun r H => zin 0 2 p0 r ∧ (zMr D A ad cy tl) H) := by
  refine zstart_i (cc := cX7_set) (maxL := 3) (ty := .boolean) (own := RX7) (by decide) rfl rfl (Nat.le_of_ble_eq_true rfl) (fun p e s m args below meth c Q C r => ?_)
  refine g_sub (lv' := [(0, .ref (ad 0)), (1, .int p0), (2, .int p1)]) [0, 1, 2] rfl ?_
  refine g_aload_n (pc := 0) C dX7_set_0 rfl 0 rfl ?_
  refine g_iconst (pc := 1) C 0 dX7_set_1 (by decide) ?_
  refine pr_0_0 (pc := 2) C wk_693 dX7_set_2 ?_
  refine g_iload_n (pc := 5) C dX7_set_5 rfl 1 rfl ?_
  refine g_iconst (pc := 6) C 0 dX7_set_6 (by decide) ?_
  refine g_iconst (pc := 7) C 2 dX7_set_7 (by decide) ?_
  refine zcallSi (pc := 8) (st := []) C C.2.2.2.2.2 (n_X7_in l D ad cy tl A p0 0 2 0 2 (by decide) (by decide)) (va_cwS 3 C.2.2.2.2.1 gw_RX7_47 rfl rfl rfl cs_X7_in ⟨Nat.le_of_ble_eq_true rfl, Nat.le_of_ble_eq_true rfl⟩) rfl rfl (Nat.le_of_ble_eq_true rfl) ⟨Nat.le_of_ble_eq_true rfl, Nat.le_of_ble_eq_true rfl⟩ dX7_set_8 (fun r1 => ?_)
  refine g_and (M2 := (zMr D A ad cy tl)) (fun hr1 => ?_)
  have kr1 := zin_01 hr1
  refine g_if_ne (pc := 11) C 16 dX7_set_11 (by decide) (fun c2 => ?_) (fun c2 => ?_)
  · exact zi_dis (zin_1 hr1 c2) hp0 (by decide)
  · have h3 : zI 0 0 r1 := zr_eq c2 kr1 (zi_c 0 (a := 0) (b := 0) (by decide)) (by decide)
    refine g_iconst (pc := 14) C 0 dX7_set_14 (by decide) ?_
    exact g_ireturn r dX7_set_15 rfl (fun _ h => ⟨Or.inr ⟨fun q => by have q1 := q.1; have q2 := hp0.2; omega, rfl⟩, h⟩)

set_option maxHeartbeats 2000000 in
set_option maxRecDepth 100000 in
theorem n_X7_setM (l : Launch) (D : va_G) (ad : Nat → Nat) (cy : Nat → ClassId) (tl : Int32) (A : Nat → Prop) (p0 : Int32) (p1 : Int32) (hp0 : zI 0 2 p0) : zMi l yX7_set wz_X7_set ({ frames := 1, cells := 0, slots := 0, locals := 22 }) [.ref (ad 0), .int p0, .int p1] D (zTr cy) A (zMr D A ad cy tl) (fun r H => zin 0 2 p0 r ∧ (zMr D A ad cy tl) H) := by
  refine zstart_i (cc := cX7_set) (maxL := 3) (ty := .boolean) (own := RX7) (by decide) rfl rfl (Nat.le_of_ble_eq_true rfl) (fun p e s m args below meth c Q C r => ?_)
  have J55 : zG p l e ({ frames := 1, cells := 0, slots := 0, locals := 22 }) s m args below meth c 3 0 0 A Q (zMr D A ad cy tl) 55 [(0, .ref (ad 0)), (1, .int p0), (2, .int p1)] [] := by
    refine g_aload_n (pc := 55) C dX7_set_55 rfl 0 rfl ?_
    refine g_iconst (pc := 56) C 0 dX7_set_56 (by decide) ?_
    refine pr_0_19 (pc := 57) C wk_712 dX7_set_57 ?_
    refine g_iconst (pc := 60) C 1 dX7_set_60 (by decide) ?_
    exact g_ireturn r dX7_set_61 rfl (fun _ h => ⟨Or.inl ⟨hp0, rfl⟩, h⟩)
  refine g_sub (lv' := [(0, .ref (ad 0)), (1, .int p0), (2, .int p1)]) [0, 1, 2] rfl ?_
  refine g_aload_n (pc := 0) C dX7_set_0 rfl 0 rfl ?_
  refine g_iconst (pc := 1) C 0 dX7_set_1 (by decide) ?_
  refine pr_0_0 (pc := 2) C wk_693 dX7_set_2 ?_
  refine g_iload_n (pc := 5) C dX7_set_5 rfl 1 rfl ?_
  refine g_iconst (pc := 6) C 0 dX7_set_6 (by decide) ?_
  refine g_iconst (pc := 7) C 2 dX7_set_7 (by decide) ?_
  refine zcallSi (pc := 8) (st := []) C C.2.2.2.2.2 (n_X7_in l D ad cy tl A p0 0 2 0 2 (by decide) (by decide)) (va_cwS 3 C.2.2.2.2.1 gw_RX7_47 rfl rfl rfl cs_X7_in ⟨Nat.le_of_ble_eq_true rfl, Nat.le_of_ble_eq_true rfl⟩) rfl rfl (Nat.le_of_ble_eq_true rfl) ⟨Nat.le_of_ble_eq_true rfl, Nat.le_of_ble_eq_true rfl⟩ dX7_set_8 (fun r1 => ?_)
  refine g_and (M2 := (zMr D A ad cy tl)) (fun hr1 => ?_)
  have kr1 := zin_01 hr1
  refine g_if_ne (pc := 11) C 16 dX7_set_11 (by decide) (fun c2 => ?_) (fun c2 => ?_)
  · have h3 : zI 1 1 r1 := zr_neL c2 kr1 (zi_c 0 (a := 0) (b := 0) (by decide)) (by decide)
    refine g_iload_n (pc := 16) C dX7_set_16 rfl 1 rfl ?_
    refine g_if_ne (pc := 17) C 31 dX7_set_17 (by decide) (fun c4 => ?_) (fun c4 => ?_)
    · have h5 : zI 1 2 p0 := zr_neL c4 hp0 (zi_c 0 (a := 0) (b := 0) (by decide)) (by decide)
      refine g_iload_n (pc := 31) C dX7_set_31 rfl 1 rfl ?_
      refine g_iconst (pc := 32) C 1 dX7_set_32 (by decide) ?_
      refine g_icmp_ne (pc := 33) C 47 dX7_set_33 (by decide) (fun c6 => ?_) (fun c6 => ?_)
      · have h7 : zI 2 2 p0 := zr_neL c6 h5 (zi_c 1 (a := 1) (b := 1) (by decide)) (by decide)
        refine g_aload_n (pc := 47) C dX7_set_47 rfl 0 rfl ?_
        refine g_iload_n (pc := 48) C dX7_set_48 rfl 2 rfl ?_
        refine g_ldc (pc := 49) C dX7_set_49 (C.wd wk_918) ?_
        refine g_iand (pc := 51) C dX7_set_51 (fun z8 ez8 => ?_)
        have hz8 : zI 0 65039 z8 := zi_and1 (zi_c 65039 (a := 0) (b := 65039) (by decide)) ez8
        refine pr_0_18 (pc := 52) C wk_711 dX7_set_52 ?_
        exact g_sub [0, 1, 2] rfl (J55 )
      · have h9 : zI 1 1 p0 := zr_eq c6 h5 (zi_c 1 (a := 1) (b := 1) (by decide)) (by decide)
        refine g_aload_n (pc := 36) C dX7_set_36 rfl 0 rfl ?_
        refine g_iload_n (pc := 37) C dX7_set_37 rfl 2 rfl ?_
        refine g_ldc (pc := 38) C dX7_set_38 (C.wd wk_792) ?_
        refine g_iand (pc := 40) C dX7_set_40 (fun z10 ez10 => ?_)
        have vz10 : zEv z10 := zev_and ez10
        have hz10 : zI 0 65534 z10 := zi_and1 (zi_c 65534 (a := 0) (b := 65534) (by decide)) ez10
        refine pr_0_17 (pc := 41) C wk_710 vz10 dX7_set_41 ?_
        refine g_goto (pc := 44) C 55 dX7_set_44 (by decide) ?_
        exact g_sub [0, 1, 2] rfl (J55 )
    · have h11 : zI 0 0 p0 := zr_eq c4 hp0 (zi_c 0 (a := 0) (b := 0) (by decide)) (by decide)
      refine g_aload_n (pc := 20) C dX7_set_20 rfl 0 rfl ?_
      refine g_iload_n (pc := 21) C dX7_set_21 rfl 2 rfl ?_
      refine g_ldc (pc := 22) C dX7_set_22 (C.wd wk_792) ?_
      refine g_iand (pc := 24) C dX7_set_24 (fun z12 ez12 => ?_)
      have vz12 : zEv z12 := zev_and ez12
      have hz12 : zI 0 65534 z12 := zi_and1 (zi_c 65534 (a := 0) (b := 65534) (by decide)) ez12
      refine pr_0_16 (pc := 25) C wk_709 dX7_set_25 ?_
      refine g_goto (pc := 28) C 55 dX7_set_28 (by decide) ?_
      exact g_sub [0, 1, 2] rfl (J55 )
  · exact absurd hp0 (zin_0 hr1 c2)

set_option maxHeartbeats 2000000 in
set_option maxRecDepth 100000 in
theorem n_X7_setH (l : Launch) (D : va_G) (ad : Nat → Nat) (cy : Nat → ClassId) (tl : Int32) (A : Nat → Prop) (p0 : Int32) (p1 : Int32) (hp0 : zI 3 2147483647 p0) : zMi l yX7_set wz_X7_set ({ frames := 1, cells := 0, slots := 0, locals := 22 }) [.ref (ad 0), .int p0, .int p1] D (zTr cy) A (zMr D A ad cy tl) (fun r H => zin 0 2 p0 r ∧ (zMr D A ad cy tl) H) := by
  refine zstart_i (cc := cX7_set) (maxL := 3) (ty := .boolean) (own := RX7) (by decide) rfl rfl (Nat.le_of_ble_eq_true rfl) (fun p e s m args below meth c Q C r => ?_)
  refine g_sub (lv' := [(0, .ref (ad 0)), (1, .int p0), (2, .int p1)]) [0, 1, 2] rfl ?_
  refine g_aload_n (pc := 0) C dX7_set_0 rfl 0 rfl ?_
  refine g_iconst (pc := 1) C 0 dX7_set_1 (by decide) ?_
  refine pr_0_0 (pc := 2) C wk_693 dX7_set_2 ?_
  refine g_iload_n (pc := 5) C dX7_set_5 rfl 1 rfl ?_
  refine g_iconst (pc := 6) C 0 dX7_set_6 (by decide) ?_
  refine g_iconst (pc := 7) C 2 dX7_set_7 (by decide) ?_
  refine zcallSi (pc := 8) (st := []) C C.2.2.2.2.2 (n_X7_in l D ad cy tl A p0 0 2 0 2 (by decide) (by decide)) (va_cwS 3 C.2.2.2.2.1 gw_RX7_47 rfl rfl rfl cs_X7_in ⟨Nat.le_of_ble_eq_true rfl, Nat.le_of_ble_eq_true rfl⟩) rfl rfl (Nat.le_of_ble_eq_true rfl) ⟨Nat.le_of_ble_eq_true rfl, Nat.le_of_ble_eq_true rfl⟩ dX7_set_8 (fun r1 => ?_)
  refine g_and (M2 := (zMr D A ad cy tl)) (fun hr1 => ?_)
  have kr1 := zin_01 hr1
  refine g_if_ne (pc := 11) C 16 dX7_set_11 (by decide) (fun c2 => ?_) (fun c2 => ?_)
  · exact zi_dis (zin_1 hr1 c2) hp0 (by decide)
  · have h3 : zI 0 0 r1 := zr_eq c2 kr1 (zi_c 0 (a := 0) (b := 0) (by decide)) (by decide)
    refine g_iconst (pc := 14) C 0 dX7_set_14 (by decide) ?_
    exact g_ireturn r dX7_set_15 rfl (fun _ h => ⟨Or.inr ⟨fun q => by have q1 := q.2; have q2 := hp0.1; omega, rfl⟩, h⟩)

theorem n_X7_set (l : Launch) (D : va_G) (ad : Nat → Nat) (cy : Nat → ClassId) (tl : Int32) (A : Nat → Prop) (p0 p1 : Int32)  : zMi l yX7_set wz_X7_set ({ frames := 1, cells := 0, slots := 0, locals := 22 }) [.ref (ad 0), .int p0, .int p1] D (zTr cy) A (zMr D A ad cy tl) (fun r H => zin 0 2 p0 r ∧ zMr D A ad cy tl H) := by
  rcases ztri 0 2 p0 with h | h | h
  · exact n_X7_setL l D ad cy tl A p0 p1 h
  · exact n_X7_setM l D ad cy tl A p0 p1 h
  · exact n_X7_setH l D ad cy tl A p0 p1 h

set_option maxHeartbeats 2000000 in
set_option maxRecDepth 100000 in
theorem n_X7_picture (l : Launch) (D : va_G) (ad : Nat → Nat) (cy : Nat → ClassId) (tl : Int32) (A : Nat → Prop) (p0 : Int32) : zMi l yX7_picture wz_X7_picture ({ frames := 1, cells := 0, slots := 0, locals := 22 }) [.ref (ad 0), .int p0] D (zTr cy) A (zMr D A ad cy tl) (fun _ => (zMr D A ad cy tl)) := by
  refine zstart_i (cc := cX7_picture) (maxL := 2) (ty := .int) (own := RX7) (by decide) rfl rfl (Nat.le_of_ble_eq_true rfl) (fun p e s m args below meth c Q C r => ?_)
  have J78 : ∀ (b0_78 : Int32) (_ : zI 0 1 b0_78), zG p l e ({ frames := 1, cells := 0, slots := 0, locals := 22 }) s m args below meth c 2 0 0 A Q (zMr D A ad cy tl) 78 [(0, .ref (ad 0)), (1, .int p0)] [.int b0_78] := by
    intro b0_78 hb0_78
    exact g_ireturn r dX7_picture_78 rfl (fun _ h => h)
  have J91 : ∀ (b0_91 : Int32) (_ : zI 0 1 b0_91), zG p l e ({ frames := 1, cells := 0, slots := 0, locals := 22 }) s m args below meth c 2 0 0 A Q (zMr D A ad cy tl) 91 [(0, .ref (ad 0)), (1, .int p0)] [.int b0_91] := by
    intro b0_91 hb0_91
    exact g_ireturn r dX7_picture_91 rfl (fun _ h => h)
  refine g_sub (lv' := [(0, .ref (ad 0)), (1, .int p0)]) [0, 1] rfl ?_
  refine g_aload_n (pc := 0) C dX7_picture_0 rfl 0 rfl ?_
  refine g_iconst (pc := 1) C 0 dX7_picture_1 (by decide) ?_
  refine pr_0_0 (pc := 2) C wk_693 dX7_picture_2 ?_
  refine g_iload_n (pc := 5) C dX7_picture_5 rfl 1 rfl ?_
  refine g_bipush (pc := 6) C 8 dX7_picture_6 (by decide) ?_
  refine g_bipush (pc := 8) C 15 dX7_picture_8 (by decide) ?_
  refine zcallSi (pc := 10) (st := []) C C.2.2.2.2.2 (n_X7_in l D ad cy tl A p0 8 15 8 15 (by decide) (by decide)) (va_cwS 3 C.2.2.2.2.1 gw_RX7_47 rfl rfl rfl cs_X7_in ⟨Nat.le_of_ble_eq_true rfl, Nat.le_of_ble_eq_true rfl⟩) rfl rfl (Nat.le_of_ble_eq_true rfl) ⟨Nat.le_of_ble_eq_true rfl, Nat.le_of_ble_eq_true rfl⟩ dX7_picture_10 (fun r1 => ?_)
  refine g_and (M2 := (zMr D A ad cy tl)) (fun hr1 => ?_)
  have kr1 := zin_01 hr1
  refine g_if_eq (pc := 13) C 26 dX7_picture_13 (by decide) (fun c2 => ?_) (fun c2 => ?_)
  · have h3 : zI 0 0 r1 := zr_eq c2 kr1 (zi_c 0 (a := 0) (b := 0) (by decide)) (by decide)
    refine g_iload_n (pc := 26) C dX7_picture_26 rfl 1 rfl ?_
    refine g_table (pc := 27) C [92, 56, 61, 66, 79] dX7_picture_27 (by decide) (by decide) (by decide) (List.forall_mem_cons.mpr ⟨?_, (List.forall_mem_cons.mpr ⟨?_, (List.forall_mem_cons.mpr ⟨?_, (List.forall_mem_cons.mpr ⟨?_, (List.forall_mem_cons.mpr ⟨?_, fun _ h => absurd h List.not_mem_nil⟩)⟩)⟩)⟩)⟩)
    · refine g_iconst (pc := 92) C (-1) dX7_picture_92 (by decide) ?_
      exact g_ireturn r dX7_picture_93 rfl (fun _ h => h)
    · refine g_aload_n (pc := 56) C dX7_picture_56 rfl 0 rfl ?_
      refine gr_0_5 (pc := 57) C wk_698 dX7_picture_57 (fun z4 hz4 => ?_)
      exact g_ireturn r dX7_picture_60 rfl (fun _ h => h)
    · refine g_aload_n (pc := 61) C dX7_picture_61 rfl 0 rfl ?_
      refine gr_0_6 (pc := 62) C wk_699 dX7_picture_62 (fun z5 hz5 => ?_)
      exact g_ireturn r dX7_picture_65 rfl (fun _ h => h)
    · refine g_aload_n (pc := 66) C dX7_picture_66 rfl 0 rfl ?_
      refine gr_0_8 (pc := 67) C wk_701 dX7_picture_67 (fun z6 => ?_)
      refine g_if_eq (pc := 70) C 77 dX7_picture_70 (by decide) (fun c7 => ?_) (fun c7 => ?_)
      · have h8 : zI 0 0 z6 := zr_eq c7 (zi_full z6) (zi_c 0 (a := 0) (b := 0) (by decide)) (by decide)
        refine g_iconst (pc := 77) C 0 dX7_picture_77 (by decide) ?_
        exact g_sub [0, 1] rfl (J78 0 (zi_c 0 (a := 0) (b := 1) (by decide)))
      · refine g_iconst (pc := 73) C 1 dX7_picture_73 (by decide) ?_
        refine g_goto (pc := 74) C 78 dX7_picture_74 (by decide) ?_
        exact g_sub [0, 1] rfl (J78 1 (zi_c 1 (a := 0) (b := 1) (by decide)))
    · refine g_aload_n (pc := 79) C dX7_picture_79 rfl 0 rfl ?_
      refine gr_0_9 (pc := 80) C wk_702 dX7_picture_80 (fun z9 => ?_)
      refine g_if_eq (pc := 83) C 90 dX7_picture_83 (by decide) (fun c10 => ?_) (fun c10 => ?_)
      · have h11 : zI 0 0 z9 := zr_eq c10 (zi_full z9) (zi_c 0 (a := 0) (b := 0) (by decide)) (by decide)
        refine g_iconst (pc := 90) C 0 dX7_picture_90 (by decide) ?_
        exact g_sub [0, 1] rfl (J91 0 (zi_c 0 (a := 0) (b := 1) (by decide)))
      · refine g_iconst (pc := 86) C 1 dX7_picture_86 (by decide) ?_
        refine g_goto (pc := 87) C 91 dX7_picture_87 (by decide) ?_
        exact g_sub [0, 1] rfl (J91 1 (zi_c 1 (a := 0) (b := 1) (by decide)))
  · have h12 : zI 8 15 p0 := zin_1 hr1 c2
    have h13 : zI 1 1 r1 := zr_neL c2 kr1 (zi_c 0 (a := 0) (b := 0) (by decide)) (by decide)
    refine g_aload_n (pc := 16) C dX7_picture_16 rfl 0 rfl ?_
    refine gr_0_10 (pc := 17) C wk_703 dX7_picture_17 ?_
    refine g_iload_n (pc := 20) C dX7_picture_20 rfl 1 rfl ?_
    refine g_bipush (pc := 21) C 8 dX7_picture_21 (by decide) ?_
    refine g_isub (pc := 23) C dX7_picture_23 (fun z14 ez14 => ?_)
    have hz14 : zI 0 7 z14 := zi_sub h12 (zi_c 8 (a := 8) (b := 8) (by decide)) ez14 (by decide)
    refine lr_5 (pc := 24) C (zi_in hz14 (by decide)) dX7_picture_24 (fun z15 hz15 => ?_)
    exact g_ireturn r dX7_picture_25 rfl (fun _ h => h)

set_option maxHeartbeats 2000000 in
set_option maxRecDepth 100000 in
theorem n_X7_grom (l : Launch) (D : va_G) (ad : Nat → Nat) (cy : Nat → ClassId) (tl : Int32) (A : Nat → Prop) (p0 : Int32) : zMi l yX7_grom wz_X7_grom ({ frames := 0, cells := 0, slots := 0, locals := 0 }) [.ref (ad 0), .int p0] D (zTr cy) A (zMr D A ad cy tl) (fun _ => (zMr D A ad cy tl)) := by
  refine zstart_i (cc := cX7_grom) (maxL := 2) (ty := .int) (own := RX7) (by decide) rfl rfl (Nat.le_of_ble_eq_true rfl) (fun p e s m args below meth c Q C r => ?_)
  have J49 : ∀ (b0_49 : Int32) (_ : zI (-1) 65535 b0_49), zG p l e ({ frames := 0, cells := 0, slots := 0, locals := 0 }) s m args below meth c 2 0 0 A Q (zMr D A ad cy tl) 49 [(0, .ref (ad 0)), (1, .int p0)] [.int b0_49] := by
    intro b0_49 hb0_49
    exact g_ireturn r dX7_grom_49 rfl (fun _ h => h)
  refine g_sub (lv' := [(0, .ref (ad 0)), (1, .int p0)]) [0, 1] rfl ?_
  refine g_aload_n (pc := 0) C dX7_grom_0 rfl 0 rfl ?_
  refine g_iconst (pc := 1) C 0 dX7_grom_1 (by decide) ?_
  refine pr_0_0 (pc := 2) C wk_693 dX7_grom_2 ?_
  refine g_iload_n (pc := 5) C dX7_grom_5 rfl 1 rfl ?_
  refine g_if_ne (pc := 6) C 16 dX7_grom_6 (by decide) (fun c1 => ?_) (fun c1 => ?_)
  · refine g_iload_n (pc := 16) C dX7_grom_16 rfl 1 rfl ?_
    refine g_iconst (pc := 17) C 1 dX7_grom_17 (by decide) ?_
    refine g_icmp_ne (pc := 18) C 28 dX7_grom_18 (by decide) (fun c2 => ?_) (fun c2 => ?_)
    · refine g_iload_n (pc := 28) C dX7_grom_28 rfl 1 rfl ?_
      refine g_iconst (pc := 29) C 2 dX7_grom_29 (by decide) ?_
      refine g_icmp_ne (pc := 30) C 48 dX7_grom_30 (by decide) (fun c3 => ?_) (fun c3 => ?_)
      · refine g_iconst (pc := 48) C (-1) dX7_grom_48 (by decide) ?_
        exact g_sub [0, 1] rfl (J49 (-1) (zi_c (-1) (a := (-1)) (b := 65535) (by decide)))
      · have h4 : zI 2 2 p0 := zr_eq c3 (zi_full p0) (zi_c 2 (a := 2) (b := 2) (by decide)) (by decide)
        refine g_aload_n (pc := 33) C dX7_grom_33 rfl 0 rfl ?_
        refine gr_0_13 (pc := 34) C wk_706 dX7_grom_34 (fun z5 => ?_)
        refine g_if_eq (pc := 37) C 44 dX7_grom_37 (by decide) (fun c6 => ?_) (fun c6 => ?_)
        · have h7 : zI 0 0 z5 := zr_eq c6 (zi_full z5) (zi_c 0 (a := 0) (b := 0) (by decide)) (by decide)
          refine g_iconst (pc := 44) C 0 dX7_grom_44 (by decide) ?_
          refine g_goto (pc := 45) C 49 dX7_grom_45 (by decide) ?_
          exact g_sub [0, 1] rfl (J49 0 (zi_c 0 (a := (-1)) (b := 65535) (by decide)))
        · refine g_iconst (pc := 40) C 1 dX7_grom_40 (by decide) ?_
          refine g_goto (pc := 41) C 49 dX7_grom_41 (by decide) ?_
          exact g_sub [0, 1] rfl (J49 1 (zi_c 1 (a := (-1)) (b := 65535) (by decide)))
    · have h8 : zI 1 1 p0 := zr_eq c2 (zi_full p0) (zi_c 1 (a := 1) (b := 1) (by decide)) (by decide)
      refine g_aload_n (pc := 21) C dX7_grom_21 rfl 0 rfl ?_
      refine gr_0_12 (pc := 22) C wk_705 dX7_grom_22 (fun z9 hz9 => ?_)
      refine g_goto (pc := 25) C 49 dX7_grom_25 (by decide) ?_
      exact g_sub [0, 1] rfl (J49 z9 (zi_w hz9 (a' := (-1)) (b' := 65535) (by decide)))
  · have h10 : zI 0 0 p0 := zr_eq c1 (zi_full p0) (zi_c 0 (a := 0) (b := 0) (by decide)) (by decide)
    refine g_aload_n (pc := 9) C dX7_grom_9 rfl 0 rfl ?_
    refine gr_0_11 (pc := 10) C wk_704 dX7_grom_10 (fun z11 hz11 => ?_)
    refine g_goto (pc := 13) C 49 dX7_grom_13 (by decide) ?_
    exact g_sub [0, 1] rfl (J49 z11 (zi_w hz11 (a' := (-1)) (b' := 65535) (by decide)))

set_option maxHeartbeats 2000000 in
set_option maxRecDepth 100000 in
theorem n_X7_frame (l : Launch) (D : va_G) (ad : Nat → Nat) (cy : Nat → ClassId) (tl : Int32) (A : Nat → Prop) : zMv l yX7_frame wz_X7_frame ({ frames := 0, cells := 0, slots := 0, locals := 0 }) [.ref (ad 0)] D (zTr cy) A (zMr D A ad cy tl) (zMr D A ad cy tl) := by
  refine zstart_v (cc := cX7_frame) (maxL := 1) (own := RX7) (by decide) rfl rfl (Nat.le_of_ble_eq_true rfl) (fun p e s m args below meth c Q C r => ?_)
  refine g_sub (lv' := [(0, .ref (ad 0))]) [0] rfl ?_
  refine g_aload_n (pc := 0) C dX7_frame_0 rfl 0 rfl ?_
  refine g_iconst (pc := 1) C 0 dX7_frame_1 (by decide) ?_
  refine pr_0_0 (pc := 2) C wk_693 dX7_frame_2 ?_
  refine g_aload_n (pc := 5) C dX7_frame_5 rfl 0 rfl ?_
  refine g_iconst (pc := 6) C 1 dX7_frame_6 (by decide) ?_
  refine pr_0_9 (pc := 7) C wk_702 (zi_c 1 (a := 0) (b := 1) (by decide)) dX7_frame_7 ?_
  exact g_return r dX7_frame_10 (fun _ h => h)

set_option maxHeartbeats 2000000 in
set_option maxRecDepth 100000 in
theorem n_X7_interruptL (l : Launch) (D : va_G) (ad : Nat → Nat) (cy : Nat → ClassId) (tl : Int32) (A : Nat → Prop) (p0 : Int32) (hp0 : zI (-2147483648) 1 p0) : zMi l yX7_interrupt wz_X7_interrupt ({ frames := 1, cells := 0, slots := 0, locals := 22 }) [.ref (ad 0), .int p0] D (zTr cy) A (zMr D A ad cy tl) (fun r H => zin 2 15 p0 r ∧ (zMr D A ad cy tl) H) := by
  refine zstart_i (cc := cX7_interrupt) (maxL := 2) (ty := .boolean) (own := RX7) (by decide) rfl rfl (Nat.le_of_ble_eq_true rfl) (fun p e s m args below meth c Q C r => ?_)
  refine g_sub (lv' := [(0, .ref (ad 0)), (1, .int p0)]) [0, 1] rfl ?_
  refine g_aload_n (pc := 0) C dX7_interrupt_0 rfl 0 rfl ?_
  refine g_iconst (pc := 1) C 0 dX7_interrupt_1 (by decide) ?_
  refine pr_0_0 (pc := 2) C wk_693 dX7_interrupt_2 ?_
  refine g_iload_n (pc := 5) C dX7_interrupt_5 rfl 1 rfl ?_
  refine g_iconst (pc := 6) C 2 dX7_interrupt_6 (by decide) ?_
  refine g_bipush (pc := 7) C 15 dX7_interrupt_7 (by decide) ?_
  refine zcallSi (pc := 9) (st := []) C C.2.2.2.2.2 (n_X7_in l D ad cy tl A p0 2 15 2 15 (by decide) (by decide)) (va_cwS 3 C.2.2.2.2.1 gw_RX7_47 rfl rfl rfl cs_X7_in ⟨Nat.le_of_ble_eq_true rfl, Nat.le_of_ble_eq_true rfl⟩) rfl rfl (Nat.le_of_ble_eq_true rfl) ⟨Nat.le_of_ble_eq_true rfl, Nat.le_of_ble_eq_true rfl⟩ dX7_interrupt_9 (fun r1 => ?_)
  refine g_and (M2 := (zMr D A ad cy tl)) (fun hr1 => ?_)
  have kr1 := zin_01 hr1
  refine g_if_ne (pc := 12) C 17 dX7_interrupt_12 (by decide) (fun c2 => ?_) (fun c2 => ?_)
  · exact zi_dis (zin_1 hr1 c2) hp0 (by decide)
  · have h3 : zI 0 0 r1 := zr_eq c2 kr1 (zi_c 0 (a := 0) (b := 0) (by decide)) (by decide)
    refine g_iconst (pc := 15) C 0 dX7_interrupt_15 (by decide) ?_
    exact g_ireturn r dX7_interrupt_16 rfl (fun _ h => ⟨Or.inr ⟨fun q => by have q1 := q.1; have q2 := hp0.2; omega, rfl⟩, h⟩)

set_option maxHeartbeats 2000000 in
set_option maxRecDepth 100000 in
theorem n_X7_interruptM (l : Launch) (D : va_G) (ad : Nat → Nat) (cy : Nat → ClassId) (tl : Int32) (A : Nat → Prop) (p0 : Int32) (hp0 : zI 2 15 p0) : zMi l yX7_interrupt wz_X7_interrupt ({ frames := 1, cells := 0, slots := 0, locals := 22 }) [.ref (ad 0), .int p0] D (zTr cy) A (zMr D A ad cy tl) (fun r H => zin 2 15 p0 r ∧ (zMr D A ad cy tl) H) := by
  refine zstart_i (cc := cX7_interrupt) (maxL := 2) (ty := .boolean) (own := RX7) (by decide) rfl rfl (Nat.le_of_ble_eq_true rfl) (fun p e s m args below meth c Q C r => ?_)
  refine g_sub (lv' := [(0, .ref (ad 0)), (1, .int p0)]) [0, 1] rfl ?_
  refine g_aload_n (pc := 0) C dX7_interrupt_0 rfl 0 rfl ?_
  refine g_iconst (pc := 1) C 0 dX7_interrupt_1 (by decide) ?_
  refine pr_0_0 (pc := 2) C wk_693 dX7_interrupt_2 ?_
  refine g_iload_n (pc := 5) C dX7_interrupt_5 rfl 1 rfl ?_
  refine g_iconst (pc := 6) C 2 dX7_interrupt_6 (by decide) ?_
  refine g_bipush (pc := 7) C 15 dX7_interrupt_7 (by decide) ?_
  refine zcallSi (pc := 9) (st := []) C C.2.2.2.2.2 (n_X7_in l D ad cy tl A p0 2 15 2 15 (by decide) (by decide)) (va_cwS 3 C.2.2.2.2.1 gw_RX7_47 rfl rfl rfl cs_X7_in ⟨Nat.le_of_ble_eq_true rfl, Nat.le_of_ble_eq_true rfl⟩) rfl rfl (Nat.le_of_ble_eq_true rfl) ⟨Nat.le_of_ble_eq_true rfl, Nat.le_of_ble_eq_true rfl⟩ dX7_interrupt_9 (fun r1 => ?_)
  refine g_and (M2 := (zMr D A ad cy tl)) (fun hr1 => ?_)
  have kr1 := zin_01 hr1
  refine g_if_ne (pc := 12) C 17 dX7_interrupt_12 (by decide) (fun c2 => ?_) (fun c2 => ?_)
  · have h3 : zI 1 1 r1 := zr_neL c2 kr1 (zi_c 0 (a := 0) (b := 0) (by decide)) (by decide)
    refine g_aload_n (pc := 17) C dX7_interrupt_17 rfl 0 rfl ?_
    refine gr_0_22 (pc := 18) C wk_715 dX7_interrupt_18 ?_
    refine g_iload_n (pc := 21) C dX7_interrupt_21 rfl 1 rfl ?_
    refine g_iconst (pc := 22) C 1 dX7_interrupt_22 (by decide) ?_
    refine sr_8 (pc := 23) C (zi_in hp0 (by decide)) dX7_interrupt_23 ?_
    refine g_iconst (pc := 24) C 1 dX7_interrupt_24 (by decide) ?_
    exact g_ireturn r dX7_interrupt_25 rfl (fun _ h => ⟨Or.inl ⟨hp0, rfl⟩, h⟩)
  · exact absurd hp0 (zin_0 hr1 c2)

set_option maxHeartbeats 2000000 in
set_option maxRecDepth 100000 in
theorem n_X7_interruptH (l : Launch) (D : va_G) (ad : Nat → Nat) (cy : Nat → ClassId) (tl : Int32) (A : Nat → Prop) (p0 : Int32) (hp0 : zI 16 2147483647 p0) : zMi l yX7_interrupt wz_X7_interrupt ({ frames := 1, cells := 0, slots := 0, locals := 22 }) [.ref (ad 0), .int p0] D (zTr cy) A (zMr D A ad cy tl) (fun r H => zin 2 15 p0 r ∧ (zMr D A ad cy tl) H) := by
  refine zstart_i (cc := cX7_interrupt) (maxL := 2) (ty := .boolean) (own := RX7) (by decide) rfl rfl (Nat.le_of_ble_eq_true rfl) (fun p e s m args below meth c Q C r => ?_)
  refine g_sub (lv' := [(0, .ref (ad 0)), (1, .int p0)]) [0, 1] rfl ?_
  refine g_aload_n (pc := 0) C dX7_interrupt_0 rfl 0 rfl ?_
  refine g_iconst (pc := 1) C 0 dX7_interrupt_1 (by decide) ?_
  refine pr_0_0 (pc := 2) C wk_693 dX7_interrupt_2 ?_
  refine g_iload_n (pc := 5) C dX7_interrupt_5 rfl 1 rfl ?_
  refine g_iconst (pc := 6) C 2 dX7_interrupt_6 (by decide) ?_
  refine g_bipush (pc := 7) C 15 dX7_interrupt_7 (by decide) ?_
  refine zcallSi (pc := 9) (st := []) C C.2.2.2.2.2 (n_X7_in l D ad cy tl A p0 2 15 2 15 (by decide) (by decide)) (va_cwS 3 C.2.2.2.2.1 gw_RX7_47 rfl rfl rfl cs_X7_in ⟨Nat.le_of_ble_eq_true rfl, Nat.le_of_ble_eq_true rfl⟩) rfl rfl (Nat.le_of_ble_eq_true rfl) ⟨Nat.le_of_ble_eq_true rfl, Nat.le_of_ble_eq_true rfl⟩ dX7_interrupt_9 (fun r1 => ?_)
  refine g_and (M2 := (zMr D A ad cy tl)) (fun hr1 => ?_)
  have kr1 := zin_01 hr1
  refine g_if_ne (pc := 12) C 17 dX7_interrupt_12 (by decide) (fun c2 => ?_) (fun c2 => ?_)
  · exact zi_dis (zin_1 hr1 c2) hp0 (by decide)
  · have h3 : zI 0 0 r1 := zr_eq c2 kr1 (zi_c 0 (a := 0) (b := 0) (by decide)) (by decide)
    refine g_iconst (pc := 15) C 0 dX7_interrupt_15 (by decide) ?_
    exact g_ireturn r dX7_interrupt_16 rfl (fun _ h => ⟨Or.inr ⟨fun q => by have q1 := q.2; have q2 := hp0.1; omega, rfl⟩, h⟩)

theorem n_X7_interrupt (l : Launch) (D : va_G) (ad : Nat → Nat) (cy : Nat → ClassId) (tl : Int32) (A : Nat → Prop) (p0 : Int32)  : zMi l yX7_interrupt wz_X7_interrupt ({ frames := 1, cells := 0, slots := 0, locals := 22 }) [.ref (ad 0), .int p0] D (zTr cy) A (zMr D A ad cy tl) (fun r H => zin 2 15 p0 r ∧ zMr D A ad cy tl H) := by
  rcases ztri 2 15 p0 with h | h | h
  · exact n_X7_interruptL l D ad cy tl A p0 h
  · exact n_X7_interruptM l D ad cy tl A p0 h
  · exact n_X7_interruptH l D ad cy tl A p0 h

set_option maxHeartbeats 2000000 in
set_option maxRecDepth 100000 in
theorem n_X7_keyA (l : Launch) (D : va_G) (ad : Nat → Nat) (cy : Nat → ClassId) (tl : Int32) (A : Nat → Prop) (p0 : Int32) (p1 : Int32) (p2 : Int32) (hp0 : zI (-2147483648) (-1) p0) : zMi l yX7_key wz_X7_key ({ frames := 1, cells := 0, slots := 0, locals := 22 }) [.ref (ad 0), .int p0, .int p1, .int p2] D (zTr cy) A (zMr D A ad cy tl) (fun r H => zkey p0 p1 r ∧ zMr D A ad cy tl H) := by
  refine zstart_i (cc := cX7_key) (maxL := 4) (ty := .boolean) (own := RX7) (by decide) rfl rfl (Nat.le_of_ble_eq_true rfl) (fun p e s m args below meth c Q C r => ?_)
  have J25 : zG p l e ({ frames := 1, cells := 0, slots := 0, locals := 22 }) s m args below meth c 4 0 0 A Q (zMr D A ad cy tl) 25 [(0, .ref (ad 0)), (1, .int p0), (2, .int p1), (3, .int p2)] [] := by
    refine g_iconst (pc := 25) C 0 dX7_key_25 (by decide) ?_
    exact g_ireturn r dX7_key_26 rfl (fun _ h => ⟨Or.inr ⟨fun q => by have q1 := q.1.1; have q2 := hp0.2; omega, rfl⟩, h⟩)
  refine g_sub (lv' := [(0, .ref (ad 0)), (1, .int p0), (2, .int p1), (3, .int p2)]) [0, 1, 2, 3] rfl ?_
  refine g_aload_n (pc := 0) C dX7_key_0 rfl 0 rfl ?_
  refine g_iconst (pc := 1) C 0 dX7_key_1 (by decide) ?_
  refine pr_0_0 (pc := 2) C wk_693 dX7_key_2 ?_
  refine g_iload_n (pc := 5) C dX7_key_5 rfl 1 rfl ?_
  refine g_iconst (pc := 6) C 0 dX7_key_6 (by decide) ?_
  refine g_bipush (pc := 7) C 7 dX7_key_7 (by decide) ?_
  refine zcallSi (pc := 9) (st := []) C C.2.2.2.2.2 (n_X7_in l D ad cy tl A p0 0 7 0 7 (by decide) (by decide)) (va_cwS 3 C.2.2.2.2.1 gw_RX7_47 rfl rfl rfl cs_X7_in ⟨Nat.le_of_ble_eq_true rfl, Nat.le_of_ble_eq_true rfl⟩) rfl rfl (Nat.le_of_ble_eq_true rfl) ⟨Nat.le_of_ble_eq_true rfl, Nat.le_of_ble_eq_true rfl⟩ dX7_key_9 (fun r1 => ?_)
  refine g_and (M2 := (zMr D A ad cy tl)) (fun hr1 => ?_)
  have kr1 := zin_01 hr1
  refine g_if_eq (pc := 12) C 25 dX7_key_12 (by decide) (fun c2 => ?_) (fun c2 => ?_)
  · have h3 : zI 0 0 r1 := zr_eq c2 kr1 (zi_c 0 (a := 0) (b := 0) (by decide)) (by decide)
    exact g_sub [0, 1, 2, 3] rfl (J25 )
  · exact zi_dis (zin_1 hr1 c2) hp0 (by decide)

set_option maxHeartbeats 2000000 in
set_option maxRecDepth 100000 in
theorem n_X7_keyB (l : Launch) (D : va_G) (ad : Nat → Nat) (cy : Nat → ClassId) (tl : Int32) (A : Nat → Prop) (p0 : Int32) (p1 : Int32) (p2 : Int32) (hp0 : zI 8 2147483647 p0) : zMi l yX7_key wz_X7_key ({ frames := 1, cells := 0, slots := 0, locals := 22 }) [.ref (ad 0), .int p0, .int p1, .int p2] D (zTr cy) A (zMr D A ad cy tl) (fun r H => zkey p0 p1 r ∧ zMr D A ad cy tl H) := by
  refine zstart_i (cc := cX7_key) (maxL := 4) (ty := .boolean) (own := RX7) (by decide) rfl rfl (Nat.le_of_ble_eq_true rfl) (fun p e s m args below meth c Q C r => ?_)
  have J25 : zG p l e ({ frames := 1, cells := 0, slots := 0, locals := 22 }) s m args below meth c 4 0 0 A Q (zMr D A ad cy tl) 25 [(0, .ref (ad 0)), (1, .int p0), (2, .int p1), (3, .int p2)] [] := by
    refine g_iconst (pc := 25) C 0 dX7_key_25 (by decide) ?_
    exact g_ireturn r dX7_key_26 rfl (fun _ h => ⟨Or.inr ⟨fun q => by have q1 := q.1.2; have q2 := hp0.1; omega, rfl⟩, h⟩)
  refine g_sub (lv' := [(0, .ref (ad 0)), (1, .int p0), (2, .int p1), (3, .int p2)]) [0, 1, 2, 3] rfl ?_
  refine g_aload_n (pc := 0) C dX7_key_0 rfl 0 rfl ?_
  refine g_iconst (pc := 1) C 0 dX7_key_1 (by decide) ?_
  refine pr_0_0 (pc := 2) C wk_693 dX7_key_2 ?_
  refine g_iload_n (pc := 5) C dX7_key_5 rfl 1 rfl ?_
  refine g_iconst (pc := 6) C 0 dX7_key_6 (by decide) ?_
  refine g_bipush (pc := 7) C 7 dX7_key_7 (by decide) ?_
  refine zcallSi (pc := 9) (st := []) C C.2.2.2.2.2 (n_X7_in l D ad cy tl A p0 0 7 0 7 (by decide) (by decide)) (va_cwS 3 C.2.2.2.2.1 gw_RX7_47 rfl rfl rfl cs_X7_in ⟨Nat.le_of_ble_eq_true rfl, Nat.le_of_ble_eq_true rfl⟩) rfl rfl (Nat.le_of_ble_eq_true rfl) ⟨Nat.le_of_ble_eq_true rfl, Nat.le_of_ble_eq_true rfl⟩ dX7_key_9 (fun r1 => ?_)
  refine g_and (M2 := (zMr D A ad cy tl)) (fun hr1 => ?_)
  have kr1 := zin_01 hr1
  refine g_if_eq (pc := 12) C 25 dX7_key_12 (by decide) (fun c2 => ?_) (fun c2 => ?_)
  · have h3 : zI 0 0 r1 := zr_eq c2 kr1 (zi_c 0 (a := 0) (b := 0) (by decide)) (by decide)
    exact g_sub [0, 1, 2, 3] rfl (J25 )
  · exact zi_dis (zin_1 hr1 c2) hp0 (by decide)

set_option maxHeartbeats 2000000 in
set_option maxRecDepth 100000 in
theorem n_X7_keyC (l : Launch) (D : va_G) (ad : Nat → Nat) (cy : Nat → ClassId) (tl : Int32) (A : Nat → Prop) (p0 : Int32) (p1 : Int32) (p2 : Int32) (hp0 : zI 0 7 p0) (hp1 : zI (-2147483648) (-1) p1) : zMi l yX7_key wz_X7_key ({ frames := 1, cells := 0, slots := 0, locals := 22 }) [.ref (ad 0), .int p0, .int p1, .int p2] D (zTr cy) A (zMr D A ad cy tl) (fun r H => zkey p0 p1 r ∧ zMr D A ad cy tl H) := by
  refine zstart_i (cc := cX7_key) (maxL := 4) (ty := .boolean) (own := RX7) (by decide) rfl rfl (Nat.le_of_ble_eq_true rfl) (fun p e s m args below meth c Q C r => ?_)
  have J25 : zG p l e ({ frames := 1, cells := 0, slots := 0, locals := 22 }) s m args below meth c 4 0 0 A Q (zMr D A ad cy tl) 25 [(0, .ref (ad 0)), (1, .int p0), (2, .int p1), (3, .int p2)] [] := by
    refine g_iconst (pc := 25) C 0 dX7_key_25 (by decide) ?_
    exact g_ireturn r dX7_key_26 rfl (fun _ h => ⟨Or.inr ⟨fun q => by have q1 := q.2.1; have q2 := hp1.2; omega, rfl⟩, h⟩)
  refine g_sub (lv' := [(0, .ref (ad 0)), (1, .int p0), (2, .int p1), (3, .int p2)]) [0, 1, 2, 3] rfl ?_
  refine g_aload_n (pc := 0) C dX7_key_0 rfl 0 rfl ?_
  refine g_iconst (pc := 1) C 0 dX7_key_1 (by decide) ?_
  refine pr_0_0 (pc := 2) C wk_693 dX7_key_2 ?_
  refine g_iload_n (pc := 5) C dX7_key_5 rfl 1 rfl ?_
  refine g_iconst (pc := 6) C 0 dX7_key_6 (by decide) ?_
  refine g_bipush (pc := 7) C 7 dX7_key_7 (by decide) ?_
  refine zcallSi (pc := 9) (st := []) C C.2.2.2.2.2 (n_X7_in l D ad cy tl A p0 0 7 0 7 (by decide) (by decide)) (va_cwS 3 C.2.2.2.2.1 gw_RX7_47 rfl rfl rfl cs_X7_in ⟨Nat.le_of_ble_eq_true rfl, Nat.le_of_ble_eq_true rfl⟩) rfl rfl (Nat.le_of_ble_eq_true rfl) ⟨Nat.le_of_ble_eq_true rfl, Nat.le_of_ble_eq_true rfl⟩ dX7_key_9 (fun r1 => ?_)
  refine g_and (M2 := (zMr D A ad cy tl)) (fun hr1 => ?_)
  have kr1 := zin_01 hr1
  refine g_if_eq (pc := 12) C 25 dX7_key_12 (by decide) (fun c2 => ?_) (fun c2 => ?_)
  · exact absurd hp0 (zin_0 hr1 c2)
  · have h3 : zI 1 1 r1 := zr_neL c2 kr1 (zi_c 0 (a := 0) (b := 0) (by decide)) (by decide)
    refine g_iload_n (pc := 15) C dX7_key_15 rfl 2 rfl ?_
    refine g_iconst (pc := 16) C 0 dX7_key_16 (by decide) ?_
    refine g_bipush (pc := 17) C 7 dX7_key_17 (by decide) ?_
    refine zcallSi (pc := 19) (st := []) C C.2.2.2.2.2 (n_X7_in l D ad cy tl A p1 0 7 0 7 (by decide) (by decide)) (va_cwS 3 C.2.2.2.2.1 gw_RX7_47 rfl rfl rfl cs_X7_in ⟨Nat.le_of_ble_eq_true rfl, Nat.le_of_ble_eq_true rfl⟩) rfl rfl (Nat.le_of_ble_eq_true rfl) ⟨Nat.le_of_ble_eq_true rfl, Nat.le_of_ble_eq_true rfl⟩ dX7_key_19 (fun r4 => ?_)
    refine g_and (M2 := (zMr D A ad cy tl)) (fun hr4 => ?_)
    have kr4 := zin_01 hr4
    refine g_if_ne (pc := 22) C 27 dX7_key_22 (by decide) (fun c5 => ?_) (fun c5 => ?_)
    · exact zi_dis (zin_1 hr4 c5) hp1 (by decide)
    · have h6 : zI 0 0 r4 := zr_eq c5 kr4 (zi_c 0 (a := 0) (b := 0) (by decide)) (by decide)
      exact g_sub [0, 1, 2, 3] rfl (J25 )

set_option maxHeartbeats 2000000 in
set_option maxRecDepth 100000 in
theorem n_X7_keyD (l : Launch) (D : va_G) (ad : Nat → Nat) (cy : Nat → ClassId) (tl : Int32) (A : Nat → Prop) (p0 : Int32) (p1 : Int32) (p2 : Int32) (hp0 : zI 0 7 p0) (hp1 : zI 8 2147483647 p1) : zMi l yX7_key wz_X7_key ({ frames := 1, cells := 0, slots := 0, locals := 22 }) [.ref (ad 0), .int p0, .int p1, .int p2] D (zTr cy) A (zMr D A ad cy tl) (fun r H => zkey p0 p1 r ∧ zMr D A ad cy tl H) := by
  refine zstart_i (cc := cX7_key) (maxL := 4) (ty := .boolean) (own := RX7) (by decide) rfl rfl (Nat.le_of_ble_eq_true rfl) (fun p e s m args below meth c Q C r => ?_)
  have J25 : zG p l e ({ frames := 1, cells := 0, slots := 0, locals := 22 }) s m args below meth c 4 0 0 A Q (zMr D A ad cy tl) 25 [(0, .ref (ad 0)), (1, .int p0), (2, .int p1), (3, .int p2)] [] := by
    refine g_iconst (pc := 25) C 0 dX7_key_25 (by decide) ?_
    exact g_ireturn r dX7_key_26 rfl (fun _ h => ⟨Or.inr ⟨fun q => by have q1 := q.2.2; have q2 := hp1.1; omega, rfl⟩, h⟩)
  refine g_sub (lv' := [(0, .ref (ad 0)), (1, .int p0), (2, .int p1), (3, .int p2)]) [0, 1, 2, 3] rfl ?_
  refine g_aload_n (pc := 0) C dX7_key_0 rfl 0 rfl ?_
  refine g_iconst (pc := 1) C 0 dX7_key_1 (by decide) ?_
  refine pr_0_0 (pc := 2) C wk_693 dX7_key_2 ?_
  refine g_iload_n (pc := 5) C dX7_key_5 rfl 1 rfl ?_
  refine g_iconst (pc := 6) C 0 dX7_key_6 (by decide) ?_
  refine g_bipush (pc := 7) C 7 dX7_key_7 (by decide) ?_
  refine zcallSi (pc := 9) (st := []) C C.2.2.2.2.2 (n_X7_in l D ad cy tl A p0 0 7 0 7 (by decide) (by decide)) (va_cwS 3 C.2.2.2.2.1 gw_RX7_47 rfl rfl rfl cs_X7_in ⟨Nat.le_of_ble_eq_true rfl, Nat.le_of_ble_eq_true rfl⟩) rfl rfl (Nat.le_of_ble_eq_true rfl) ⟨Nat.le_of_ble_eq_true rfl, Nat.le_of_ble_eq_true rfl⟩ dX7_key_9 (fun r1 => ?_)
  refine g_and (M2 := (zMr D A ad cy tl)) (fun hr1 => ?_)
  have kr1 := zin_01 hr1
  refine g_if_eq (pc := 12) C 25 dX7_key_12 (by decide) (fun c2 => ?_) (fun c2 => ?_)
  · exact absurd hp0 (zin_0 hr1 c2)
  · have h3 : zI 1 1 r1 := zr_neL c2 kr1 (zi_c 0 (a := 0) (b := 0) (by decide)) (by decide)
    refine g_iload_n (pc := 15) C dX7_key_15 rfl 2 rfl ?_
    refine g_iconst (pc := 16) C 0 dX7_key_16 (by decide) ?_
    refine g_bipush (pc := 17) C 7 dX7_key_17 (by decide) ?_
    refine zcallSi (pc := 19) (st := []) C C.2.2.2.2.2 (n_X7_in l D ad cy tl A p1 0 7 0 7 (by decide) (by decide)) (va_cwS 3 C.2.2.2.2.1 gw_RX7_47 rfl rfl rfl cs_X7_in ⟨Nat.le_of_ble_eq_true rfl, Nat.le_of_ble_eq_true rfl⟩) rfl rfl (Nat.le_of_ble_eq_true rfl) ⟨Nat.le_of_ble_eq_true rfl, Nat.le_of_ble_eq_true rfl⟩ dX7_key_19 (fun r4 => ?_)
    refine g_and (M2 := (zMr D A ad cy tl)) (fun hr4 => ?_)
    have kr4 := zin_01 hr4
    refine g_if_ne (pc := 22) C 27 dX7_key_22 (by decide) (fun c5 => ?_) (fun c5 => ?_)
    · exact zi_dis (zin_1 hr4 c5) hp1 (by decide)
    · have h6 : zI 0 0 r4 := zr_eq c5 kr4 (zi_c 0 (a := 0) (b := 0) (by decide)) (by decide)
      exact g_sub [0, 1, 2, 3] rfl (J25 )

set_option maxHeartbeats 2000000 in
set_option maxRecDepth 100000 in
theorem n_X7_keyE (l : Launch) (D : va_G) (ad : Nat → Nat) (cy : Nat → ClassId) (tl : Int32) (A : Nat → Prop) (p0 : Int32) (p1 : Int32) (p2 : Int32) (hp0 : zI 0 7 p0) (hp1 : zI 0 7 p1) : zMi l yX7_key wz_X7_key ({ frames := 1, cells := 0, slots := 0, locals := 22 }) [.ref (ad 0), .int p0, .int p1, .int p2] D (zTr cy) A (zMr D A ad cy tl) (fun r H => zkey p0 p1 r ∧ zMr D A ad cy tl H) := by
  refine zstart_i (cc := cX7_key) (maxL := 4) (ty := .boolean) (own := RX7) (by decide) rfl rfl (Nat.le_of_ble_eq_true rfl) (fun p e s m args below meth c Q C r => ?_)
  refine g_sub (lv' := [(0, .ref (ad 0)), (1, .int p0), (2, .int p1), (3, .int p2)]) [0, 1, 2, 3] rfl ?_
  refine g_aload_n (pc := 0) C dX7_key_0 rfl 0 rfl ?_
  refine g_iconst (pc := 1) C 0 dX7_key_1 (by decide) ?_
  refine pr_0_0 (pc := 2) C wk_693 dX7_key_2 ?_
  refine g_iload_n (pc := 5) C dX7_key_5 rfl 1 rfl ?_
  refine g_iconst (pc := 6) C 0 dX7_key_6 (by decide) ?_
  refine g_bipush (pc := 7) C 7 dX7_key_7 (by decide) ?_
  refine zcallSi (pc := 9) (st := []) C C.2.2.2.2.2 (n_X7_in l D ad cy tl A p0 0 7 0 7 (by decide) (by decide)) (va_cwS 3 C.2.2.2.2.1 gw_RX7_47 rfl rfl rfl cs_X7_in ⟨Nat.le_of_ble_eq_true rfl, Nat.le_of_ble_eq_true rfl⟩) rfl rfl (Nat.le_of_ble_eq_true rfl) ⟨Nat.le_of_ble_eq_true rfl, Nat.le_of_ble_eq_true rfl⟩ dX7_key_9 (fun r1 => ?_)
  refine g_and (M2 := (zMr D A ad cy tl)) (fun hr1 => ?_)
  have kr1 := zin_01 hr1
  refine g_if_eq (pc := 12) C 25 dX7_key_12 (by decide) (fun c2 => ?_) (fun c2 => ?_)
  · exact absurd hp0 (zin_0 hr1 c2)
  · have h3 : zI 1 1 r1 := zr_neL c2 kr1 (zi_c 0 (a := 0) (b := 0) (by decide)) (by decide)
    refine g_iload_n (pc := 15) C dX7_key_15 rfl 2 rfl ?_
    refine g_iconst (pc := 16) C 0 dX7_key_16 (by decide) ?_
    refine g_bipush (pc := 17) C 7 dX7_key_17 (by decide) ?_
    refine zcallSi (pc := 19) (st := []) C C.2.2.2.2.2 (n_X7_in l D ad cy tl A p1 0 7 0 7 (by decide) (by decide)) (va_cwS 3 C.2.2.2.2.1 gw_RX7_47 rfl rfl rfl cs_X7_in ⟨Nat.le_of_ble_eq_true rfl, Nat.le_of_ble_eq_true rfl⟩) rfl rfl (Nat.le_of_ble_eq_true rfl) ⟨Nat.le_of_ble_eq_true rfl, Nat.le_of_ble_eq_true rfl⟩ dX7_key_19 (fun r4 => ?_)
    refine g_and (M2 := (zMr D A ad cy tl)) (fun hr4 => ?_)
    have kr4 := zin_01 hr4
    refine g_if_ne (pc := 22) C 27 dX7_key_22 (by decide) (fun c5 => ?_) (fun c5 => ?_)
    · have h6 : zI 1 1 r4 := zr_neL c5 kr4 (zi_c 0 (a := 0) (b := 0) (by decide)) (by decide)
      refine g_aload_n (pc := 27) C dX7_key_27 rfl 0 rfl ?_
      refine gr_0_15 (pc := 28) C wk_708 dX7_key_28 ?_
      refine g_bipush (pc := 31) C 8 dX7_key_31 (by decide) ?_
      refine g_iload_n (pc := 33) C dX7_key_33 rfl 1 rfl ?_
      refine g_imul (pc := 34) C dX7_key_34 (fun z7 ez7 => ?_)
      have hz7 : zI 0 56 z7 := zi_mul (zi_c 8 (a := 8) (b := 8) (by decide)) hp0 ez7 (by decide)
      refine g_iload_n (pc := 35) C dX7_key_35 rfl 2 rfl ?_
      refine g_iadd (pc := 36) C dX7_key_36 (fun z8 ez8 => ?_)
      have hz8 : zI 0 63 z8 := zi_add hz7 hp1 ez8 (by decide)
      refine g_iload_n (pc := 37) C dX7_key_37 rfl 3 rfl ?_
      refine sr_7 (pc := 38) C (zi_in hz8 (by decide)) dX7_key_38 ?_
      refine g_iconst (pc := 39) C 1 dX7_key_39 (by decide) ?_
      exact g_ireturn r dX7_key_40 rfl (fun _ h => ⟨Or.inl ⟨⟨hp0, hp1⟩, rfl⟩, h⟩)
    · exact absurd hp1 (zin_0 hr4 c5)

theorem n_X7_key (l : Launch) (D : va_G) (ad : Nat → Nat) (cy : Nat → ClassId) (tl : Int32) (A : Nat → Prop) (p0 p1 p2 : Int32)  : zMi l yX7_key wz_X7_key ({ frames := 1, cells := 0, slots := 0, locals := 22 }) [.ref (ad 0), .int p0, .int p1, .int p2] D (zTr cy) A (zMr D A ad cy tl) (fun r H => zkey p0 p1 r ∧ zMr D A ad cy tl H) := by
  rcases ztri 0 7 p0 with h | h | h
  · exact n_X7_keyA l D ad cy tl A p0 p1 p2 h
  · rcases ztri 0 7 p1 with g | g | g
    · exact n_X7_keyC l D ad cy tl A p0 p1 p2 h g
    · exact n_X7_keyE l D ad cy tl A p0 p1 p2 h g
    · exact n_X7_keyD l D ad cy tl A p0 p1 p2 h g
  · exact n_X7_keyB l D ad cy tl A p0 p1 p2 h

set_option maxHeartbeats 2000000 in
set_option maxRecDepth 100000 in
theorem n_X7_out (l : Launch) (D : va_G) (ad : Nat → Nat) (cy : Nat → ClassId) (tl : Int32) (A : Nat → Prop) (p0 : Int32) : zMi l yX7_out wz_X7_out ({ frames := 1, cells := 0, slots := 0, locals := 22 }) [.ref (ad 0), .int p0] D (zTr cy) A (zMr D A ad cy tl) (fun _ => (zMr D A ad cy tl)) := by
  refine zstart_i (cc := cX7_out) (maxL := 2) (ty := .int) (own := RX7) (by decide) rfl rfl (Nat.le_of_ble_eq_true rfl) (fun p e s m args below meth c Q C r => ?_)
  have J34 : ∀ (b0_34 : Int32) (_ : zI (-1) 1 b0_34), zG p l e ({ frames := 1, cells := 0, slots := 0, locals := 22 }) s m args below meth c 2 0 0 A Q (zMr D A ad cy tl) 34 [(0, .ref (ad 0)), (1, .int p0)] [.int b0_34] := by
    intro b0_34 hb0_34
    exact g_ireturn r dX7_out_34 rfl (fun _ h => h)
  refine g_sub (lv' := [(0, .ref (ad 0)), (1, .int p0)]) [0, 1] rfl ?_
  refine g_aload_n (pc := 0) C dX7_out_0 rfl 0 rfl ?_
  refine g_iconst (pc := 1) C 0 dX7_out_1 (by decide) ?_
  refine pr_0_0 (pc := 2) C wk_693 dX7_out_2 ?_
  refine g_iload_n (pc := 5) C dX7_out_5 rfl 1 rfl ?_
  refine g_iconst (pc := 6) C 0 dX7_out_6 (by decide) ?_
  refine g_sipush (pc := 7) C 4095 dX7_out_7 (by decide) ?_
  refine zcallSi (pc := 10) (st := []) C C.2.2.2.2.2 (n_X7_in l D ad cy tl A p0 0 4095 0 4095 (by decide) (by decide)) (va_cwS 3 C.2.2.2.2.1 gw_RX7_47 rfl rfl rfl cs_X7_in ⟨Nat.le_of_ble_eq_true rfl, Nat.le_of_ble_eq_true rfl⟩) rfl rfl (Nat.le_of_ble_eq_true rfl) ⟨Nat.le_of_ble_eq_true rfl, Nat.le_of_ble_eq_true rfl⟩ dX7_out_10 (fun r1 => ?_)
  refine g_and (M2 := (zMr D A ad cy tl)) (fun hr1 => ?_)
  have kr1 := zin_01 hr1
  refine g_if_eq (pc := 13) C 33 dX7_out_13 (by decide) (fun c2 => ?_) (fun c2 => ?_)
  · have h3 : zI 0 0 r1 := zr_eq c2 kr1 (zi_c 0 (a := 0) (b := 0) (by decide)) (by decide)
    refine g_iconst (pc := 33) C (-1) dX7_out_33 (by decide) ?_
    exact g_sub [0, 1] rfl (J34 (-1) (zi_c (-1) (a := (-1)) (b := 1) (by decide)))
  · have h4 : zI 0 4095 p0 := zin_1 hr1 c2
    have h5 : zI 1 1 r1 := zr_neL c2 kr1 (zi_c 0 (a := 0) (b := 0) (by decide)) (by decide)
    refine g_aload_n (pc := 16) C dX7_out_16 rfl 0 rfl ?_
    refine gr_0_14 (pc := 17) C wk_707 dX7_out_17 ?_
    refine g_iload_n (pc := 20) C dX7_out_20 rfl 1 rfl ?_
    refine lr_6 (pc := 21) C (zi_in h4 (by decide)) dX7_out_21 (fun z6 => ?_)
    refine g_if_eq (pc := 22) C 29 dX7_out_22 (by decide) (fun c7 => ?_) (fun c7 => ?_)
    · have h8 : zI 0 0 z6 := zr_eq c7 (zi_full z6) (zi_c 0 (a := 0) (b := 0) (by decide)) (by decide)
      refine g_iconst (pc := 29) C 0 dX7_out_29 (by decide) ?_
      refine g_goto (pc := 30) C 34 dX7_out_30 (by decide) ?_
      exact g_sub [0, 1] rfl (J34 0 (zi_c 0 (a := (-1)) (b := 1) (by decide)))
    · refine g_iconst (pc := 25) C 1 dX7_out_25 (by decide) ?_
      refine g_goto (pc := 26) C 34 dX7_out_26 (by decide) ?_
      exact g_sub [0, 1] rfl (J34 1 (zi_c 1 (a := (-1)) (b := 1) (by decide)))

set_option maxHeartbeats 2000000 in
set_option maxRecDepth 100000 in
theorem n_X7_in_ (l : Launch) (D : va_G) (ad : Nat → Nat) (cy : Nat → ClassId) (tl : Int32) (A : Nat → Prop) (p0 : Int32) : zMi l yX7_in_ wz_X7_in_ ({ frames := 2, cells := 0, slots := 0, locals := 44 }) [.ref (ad 0), .int p0] D (zTr cy) A (zMr D A ad cy tl) (fun _ => (zMr D A ad cy tl)) := by
  refine zstart_i (cc := cX7_in_) (maxL := 2) (ty := .int) (own := RX7) (by decide) rfl rfl (Nat.le_of_ble_eq_true rfl) (fun p e s m args below meth c Q C r => ?_)
  have J25 : ∀ (b0_25 : Int32) (_ : zI (-1) 1 b0_25), zG p l e ({ frames := 2, cells := 0, slots := 0, locals := 44 }) s m args below meth c 2 0 0 A Q (zMr D A ad cy tl) 25 [(0, .ref (ad 0)), (1, .int p0)] [.int b0_25] := by
    intro b0_25 hb0_25
    exact g_ireturn r dX7_in__25 rfl (fun _ h => h)
  refine g_sub (lv' := [(0, .ref (ad 0)), (1, .int p0)]) [0, 1] rfl ?_
  refine g_aload_n (pc := 0) C dX7_in__0 rfl 0 rfl ?_
  refine g_iconst (pc := 1) C 0 dX7_in__1 (by decide) ?_
  refine pr_0_0 (pc := 2) C wk_693 dX7_in__2 ?_
  refine g_iload_n (pc := 5) C dX7_in__5 rfl 1 rfl ?_
  refine g_iconst (pc := 6) C 0 dX7_in__6 (by decide) ?_
  refine g_sipush (pc := 7) C 4095 dX7_in__7 (by decide) ?_
  refine zcallSi (pc := 10) (st := []) C C.2.2.2.2.2 (n_X7_in l D ad cy tl A p0 0 4095 0 4095 (by decide) (by decide)) (va_cwS 3 C.2.2.2.2.1 gw_RX7_47 rfl rfl rfl cs_X7_in ⟨Nat.le_of_ble_eq_true rfl, Nat.le_of_ble_eq_true rfl⟩) rfl rfl (Nat.le_of_ble_eq_true rfl) ⟨Nat.le_of_ble_eq_true rfl, Nat.le_of_ble_eq_true rfl⟩ dX7_in__10 (fun r1 => ?_)
  refine g_and (M2 := (zMr D A ad cy tl)) (fun hr1 => ?_)
  have kr1 := zin_01 hr1
  refine g_if_eq (pc := 13) C 24 dX7_in__13 (by decide) (fun c2 => ?_) (fun c2 => ?_)
  · have h3 : zI 0 0 r1 := zr_eq c2 kr1 (zi_c 0 (a := 0) (b := 0) (by decide)) (by decide)
    refine g_iconst (pc := 24) C (-1) dX7_in__24 (by decide) ?_
    exact g_sub [0, 1] rfl (J25 (-1) (zi_c (-1) (a := (-1)) (b := 1) (by decide)))
  · have h4 : zI 0 4095 p0 := zin_1 hr1 c2
    have h5 : zI 1 1 r1 := zr_neL c2 kr1 (zi_c 0 (a := 0) (b := 0) (by decide)) (by decide)
    refine g_aload_n (pc := 16) C dX7_in__16 rfl 0 rfl ?_
    refine g_iload_n (pc := 17) C dX7_in__17 rfl 1 rfl ?_
    refine zcallVi (pc := 18) (st := []) C C.2.2.2.2.2 (n_X7_inOf l D ad cy tl A p0 h4) (cwV 1 C.2.2.2.2.1 gw_RX7_193 rfl rfl rfl cd_X7_inOf ⟨Nat.le_of_ble_eq_true rfl, Nat.le_of_ble_eq_true rfl⟩) (hr_0 C) rfl rfl (Nat.le_of_ble_eq_true rfl) ⟨Nat.le_of_ble_eq_true rfl, Nat.le_of_ble_eq_true rfl⟩ dX7_in__18 (fun r6 => ?_)
    refine g_and (M2 := (zMr D A ad cy tl)) (fun hr6 => ?_)
    refine g_goto (pc := 21) C 25 dX7_in__21 (by decide) ?_
    exact g_sub [0, 1] rfl (J25 r6 (zi_w hr6 (a' := (-1)) (b' := 1) (by decide)))

set_option maxHeartbeats 2000000 in
set_option maxRecDepth 100000 in
theorem n_X7_pixel (l : Launch) (D : va_G) (ad : Nat → Nat) (cy : Nat → ClassId) (tl : Int32) (A : Nat → Prop) (p0 : Int32) (p1 : Int32) : zMi l yX7_pixel wz_X7_pixel ({ frames := 1, cells := 0, slots := 0, locals := 22 }) [.ref (ad 0), .int p0, .int p1] D (zTr cy) A (zMr D A ad cy tl) (fun _ => (zMr D A ad cy tl)) := by
  refine zstart_i (cc := cX7_pixel) (maxL := 8) (ty := .int) (own := RX7) (by decide) rfl rfl (Nat.le_of_ble_eq_true rfl) (fun p e s m args below meth c Q C r => ?_)
  have J27 : zG p l e ({ frames := 1, cells := 0, slots := 0, locals := 22 }) s m args below meth c 8 0 0 A Q (zMr D A ad cy tl) 27 [(0, .ref (ad 0)), (1, .int p0), (2, .int p1)] [] := by
    refine g_iconst (pc := 27) C (-1) dX7_pixel_27 (by decide) ?_
    exact g_ireturn r dX7_pixel_28 rfl (fun _ h => h)
  have J198 : ∀ (a3_198 : Int32) (a4_198 : Int32) (a5_198 : Int32) (a6_198 : Int32) (a7_198 : Int32) (b0_198 : Int32) (_ : zI 0 255 p0) (_ : zI 0 191 p1) (_ : zI 0 15 a3_198) (_ : zI 0 255 a4_198) (_ : zI 0 255 a5_198) (_ : zI 0 255 a6_198) (_ : zI 0 15 a7_198) (_ : zI 0 15 b0_198), zG p l e ({ frames := 1, cells := 0, slots := 0, locals := 22 }) s m args below meth c 8 0 0 A Q (zMr D A ad cy tl) 198 [(0, .ref (ad 0)), (1, .int p0), (2, .int p1), (3, .int a3_198), (4, .int a4_198), (5, .int a5_198), (6, .int a6_198), (7, .int a7_198)] [.int b0_198] := by
    intro a3_198 a4_198 a5_198 a6_198 a7_198 b0_198 hc_a1_198 hc_a2_198 ha3_198 ha4_198 ha5_198 ha6_198 ha7_198 hb0_198
    exact g_ireturn r dX7_pixel_198 rfl (fun _ h => h)
  have J185 : ∀ (a3_185 : Int32) (a4_185 : Int32) (a5_185 : Int32) (a6_185 : Int32) (b0_185 : Int32) (_ : zI 0 255 p0) (_ : zI 0 191 p1) (_ : zI 0 15 a3_185) (_ : zI 0 255 a4_185) (_ : zI 0 255 a5_185) (_ : zI 0 255 a6_185) (_ : zI 0 15 b0_185), zG p l e ({ frames := 1, cells := 0, slots := 0, locals := 22 }) s m args below meth c 8 0 0 A Q (zMr D A ad cy tl) 185 [(0, .ref (ad 0)), (1, .int p0), (2, .int p1), (3, .int a3_185), (4, .int a4_185), (5, .int a5_185), (6, .int a6_185)] [.int b0_185] := by
    intro a3_185 a4_185 a5_185 a6_185 b0_185 hc_a1_185 hc_a2_185 ha3_185 ha4_185 ha5_185 ha6_185 hb0_185
    refine g_istore (pc := 185) C ([(7, .int b0_185), (0, .ref (ad 0)), (1, .int p0), (2, .int p1), (3, .int a3_185), (4, .int a4_185), (5, .int a5_185), (6, .int a6_185)]) dX7_pixel_185 (Nat.le_of_ble_eq_true rfl) rfl ?_
    refine g_iload (pc := 187) C dX7_pixel_187 0 rfl ?_
    refine g_if_ne (pc := 189) C 196 dX7_pixel_189 (by decide) (fun c1 => ?_) (fun c1 => ?_)
    · have h2 : zI 1 15 b0_185 := zr_neL c1 hb0_185 (zi_c 0 (a := 0) (b := 0) (by decide)) (by decide)
      refine g_iload (pc := 196) C dX7_pixel_196 0 rfl ?_
      exact g_sub [1, 2, 3, 4, 5, 6, 7, 0] rfl (J198 a3_185 a4_185 a5_185 a6_185 b0_185 b0_185 hc_a1_185 hc_a2_185 ha3_185 ha4_185 ha5_185 ha6_185 (zi_w h2 (a' := 0) (b' := 15) (by decide)) (zi_w h2 (a' := 0) (b' := 15) (by decide)))
    · have h3 : zI 0 0 b0_185 := zr_eq c1 hb0_185 (zi_c 0 (a := 0) (b := 0) (by decide)) (by decide)
      refine g_iload_n (pc := 192) C dX7_pixel_192 rfl 4 rfl ?_
      refine g_goto (pc := 193) C 198 dX7_pixel_193 (by decide) ?_
      exact g_sub [1, 2, 3, 4, 5, 6, 7, 0] rfl (J198 a3_185 a4_185 a5_185 a6_185 b0_185 a3_185 hc_a1_185 hc_a2_185 ha3_185 ha4_185 ha5_185 ha6_185 (zi_w h3 (a' := 0) (b' := 15) (by decide)) ha3_185)
  refine g_sub (lv' := [(0, .ref (ad 0)), (1, .int p0), (2, .int p1)]) [0, 1, 2] rfl ?_
  refine g_aload_n (pc := 0) C dX7_pixel_0 rfl 0 rfl ?_
  refine g_iconst (pc := 1) C 0 dX7_pixel_1 (by decide) ?_
  refine pr_0_0 (pc := 2) C wk_693 dX7_pixel_2 ?_
  refine g_iload_n (pc := 5) C dX7_pixel_5 rfl 1 rfl ?_
  refine g_iconst (pc := 6) C 0 dX7_pixel_6 (by decide) ?_
  refine g_sipush (pc := 7) C 255 dX7_pixel_7 (by decide) ?_
  refine zcallSi (pc := 10) (st := []) C C.2.2.2.2.2 (n_X7_in l D ad cy tl A p0 0 255 0 255 (by decide) (by decide)) (va_cwS 3 C.2.2.2.2.1 gw_RX7_47 rfl rfl rfl cs_X7_in ⟨Nat.le_of_ble_eq_true rfl, Nat.le_of_ble_eq_true rfl⟩) rfl rfl (Nat.le_of_ble_eq_true rfl) ⟨Nat.le_of_ble_eq_true rfl, Nat.le_of_ble_eq_true rfl⟩ dX7_pixel_10 (fun r4 => ?_)
  refine g_and (M2 := (zMr D A ad cy tl)) (fun hr4 => ?_)
  have kr4 := zin_01 hr4
  refine g_if_eq (pc := 13) C 27 dX7_pixel_13 (by decide) (fun c5 => ?_) (fun c5 => ?_)
  · have h6 : zI 0 0 r4 := zr_eq c5 kr4 (zi_c 0 (a := 0) (b := 0) (by decide)) (by decide)
    exact g_sub [0, 1, 2] rfl (J27 )
  · have h7 : zI 0 255 p0 := zin_1 hr4 c5
    have h8 : zI 1 1 r4 := zr_neL c5 kr4 (zi_c 0 (a := 0) (b := 0) (by decide)) (by decide)
    refine g_iload_n (pc := 16) C dX7_pixel_16 rfl 2 rfl ?_
    refine g_iconst (pc := 17) C 0 dX7_pixel_17 (by decide) ?_
    refine g_sipush (pc := 18) C 191 dX7_pixel_18 (by decide) ?_
    refine zcallSi (pc := 21) (st := []) C C.2.2.2.2.2 (n_X7_in l D ad cy tl A p1 0 191 0 191 (by decide) (by decide)) (va_cwS 3 C.2.2.2.2.1 gw_RX7_47 rfl rfl rfl cs_X7_in ⟨Nat.le_of_ble_eq_true rfl, Nat.le_of_ble_eq_true rfl⟩) rfl rfl (Nat.le_of_ble_eq_true rfl) ⟨Nat.le_of_ble_eq_true rfl, Nat.le_of_ble_eq_true rfl⟩ dX7_pixel_21 (fun r9 => ?_)
    refine g_and (M2 := (zMr D A ad cy tl)) (fun hr9 => ?_)
    have kr9 := zin_01 hr9
    refine g_if_ne (pc := 24) C 29 dX7_pixel_24 (by decide) (fun c10 => ?_) (fun c10 => ?_)
    · have h11 : zI 0 191 p1 := zin_1 hr9 c10
      have h12 : zI 1 1 r9 := zr_neL c10 kr9 (zi_c 0 (a := 0) (b := 0) (by decide)) (by decide)
      refine g_aload_n (pc := 29) C dX7_pixel_29 rfl 0 rfl ?_
      refine gr_0_10 (pc := 30) C wk_703 dX7_pixel_30 ?_
      refine g_bipush (pc := 33) C 7 dX7_pixel_33 (by decide) ?_
      refine lr_5 (pc := 35) C (zi_in (zi_c 7 (a := 7) (b := 7) (by decide)) (by decide)) dX7_pixel_35 (fun z13 hz13 => ?_)
      refine g_bipush (pc := 36) C 15 dX7_pixel_36 (by decide) ?_
      refine g_iand (pc := 38) C dX7_pixel_38 (fun z14 ez14 => ?_)
      have hz14 : zI 0 15 z14 := zi_and1 (zi_c 15 (a := 0) (b := 15) (by decide)) ez14
      refine g_istore_n (pc := 39) C ([(3, .int z14), (0, .ref (ad 0)), (1, .int p0), (2, .int p1)]) dX7_pixel_39 rfl (Nat.le_of_ble_eq_true rfl) rfl ?_
      refine g_aload_n (pc := 40) C dX7_pixel_40 rfl 1 rfl ?_
      refine gr_0_10 (pc := 41) C wk_703 dX7_pixel_41 ?_
      refine g_iconst (pc := 44) C 1 dX7_pixel_44 (by decide) ?_
      refine lr_5 (pc := 45) C (zi_in (zi_c 1 (a := 1) (b := 1) (by decide)) (by decide)) dX7_pixel_45 (fun z15 hz15 => ?_)
      refine g_bipush (pc := 46) C 64 dX7_pixel_46 (by decide) ?_
      refine g_iand (pc := 48) C dX7_pixel_48 (fun z16 ez16 => ?_)
      have hz16 : zI 0 64 z16 := zi_and1 (zi_c 64 (a := 0) (b := 64) (by decide)) ez16
      refine g_if_ne (pc := 49) C 54 dX7_pixel_49 (by decide) (fun c17 => ?_) (fun c17 => ?_)
      · have h18 : zI 1 64 z16 := zr_neL c17 hz16 (zi_c 0 (a := 0) (b := 0) (by decide)) (by decide)
        refine g_aload_n (pc := 54) C dX7_pixel_54 rfl 1 rfl ?_
        refine gr_0_3 (pc := 55) C wk_696 dX7_pixel_55 ?_
        refine g_aload_n (pc := 58) C dX7_pixel_58 rfl 1 rfl ?_
        refine gr_0_10 (pc := 59) C wk_703 dX7_pixel_59 ?_
        refine g_iconst (pc := 62) C 2 dX7_pixel_62 (by decide) ?_
        refine lr_5 (pc := 63) C (zi_in (zi_c 2 (a := 2) (b := 2) (by decide)) (by decide)) dX7_pixel_63 (fun z19 hz19 => ?_)
        refine g_bipush (pc := 64) C 16 dX7_pixel_64 (by decide) ?_
        refine g_irem (pc := 66) C dX7_pixel_66 (by decide) (fun z20 ez20 => ?_)
        have hz20 : zI 0 15 z20 := zi_rem hz19 (zi_c 16 (a := 16) (b := 16) (by decide)) ez20 (by decide)
        refine g_sipush (pc := 67) C 1024 dX7_pixel_67 (by decide) ?_
        refine g_imul (pc := 70) C dX7_pixel_70 (fun z21 ez21 => ?_)
        have hz21 : zI 0 15360 z21 := zi_mul hz20 (zi_c 1024 (a := 1024) (b := 1024) (by decide)) ez21 (by decide)
        refine g_bipush (pc := 71) C 32 dX7_pixel_71 (by decide) ?_
        refine g_iload_n (pc := 73) C dX7_pixel_73 rfl 3 rfl ?_
        refine g_bipush (pc := 74) C 8 dX7_pixel_74 (by decide) ?_
        refine g_idiv (pc := 76) C dX7_pixel_76 (by decide) (fun z22 ez22 => ?_)
        have hz22 : zI 0 23 z22 := zi_div h11 (zi_c 8 (a := 8) (b := 8) (by decide)) ez22 (by decide)
        refine g_imul (pc := 77) C dX7_pixel_77 (fun z23 ez23 => ?_)
        have hz23 : zI 0 736 z23 := zi_mul (zi_c 32 (a := 32) (b := 32) (by decide)) hz22 ez23 (by decide)
        refine g_iadd (pc := 78) C dX7_pixel_78 (fun z24 ez24 => ?_)
        have hz24 : zI 0 16096 z24 := zi_add hz21 hz23 ez24 (by decide)
        refine g_iload_n (pc := 79) C dX7_pixel_79 rfl 2 rfl ?_
        refine g_bipush (pc := 80) C 8 dX7_pixel_80 (by decide) ?_
        refine g_idiv (pc := 82) C dX7_pixel_82 (by decide) (fun z25 ez25 => ?_)
        have hz25 : zI 0 31 z25 := zi_div h7 (zi_c 8 (a := 8) (b := 8) (by decide)) ez25 (by decide)
        refine g_iadd (pc := 83) C dX7_pixel_83 (fun z26 ez26 => ?_)
        have hz26 : zI 0 16127 z26 := zi_add hz24 hz25 ez26 (by decide)
        refine lr_3 (pc := 84) C (zi_in hz26 (by decide)) dX7_pixel_84 (fun z27 => ?_)
        refine g_sipush (pc := 85) C 255 dX7_pixel_85 (by decide) ?_
        refine g_iand (pc := 88) C dX7_pixel_88 (fun z28 ez28 => ?_)
        have hz28 : zI 0 255 z28 := zi_and1 (zi_c 255 (a := 0) (b := 255) (by decide)) ez28
        refine g_istore (pc := 89) C ([(4, .int z28), (3, .int z14), (0, .ref (ad 0)), (1, .int p0), (2, .int p1)]) dX7_pixel_89 (Nat.le_of_ble_eq_true rfl) rfl ?_
        refine g_aload_n (pc := 91) C dX7_pixel_91 rfl 2 rfl ?_
        refine gr_0_3 (pc := 92) C wk_696 dX7_pixel_92 ?_
        refine g_aload_n (pc := 95) C dX7_pixel_95 rfl 2 rfl ?_
        refine gr_0_10 (pc := 96) C wk_703 dX7_pixel_96 ?_
        refine g_iconst (pc := 99) C 4 dX7_pixel_99 (by decide) ?_
        refine lr_5 (pc := 100) C (zi_in (zi_c 4 (a := 4) (b := 4) (by decide)) (by decide)) dX7_pixel_100 (fun z29 hz29 => ?_)
        refine g_bipush (pc := 101) C 8 dX7_pixel_101 (by decide) ?_
        refine g_irem (pc := 103) C dX7_pixel_103 (by decide) (fun z30 ez30 => ?_)
        have hz30 : zI 0 7 z30 := zi_rem hz29 (zi_c 8 (a := 8) (b := 8) (by decide)) ez30 (by decide)
        refine g_sipush (pc := 104) C 2048 dX7_pixel_104 (by decide) ?_
        refine g_imul (pc := 107) C dX7_pixel_107 (fun z31 ez31 => ?_)
        have hz31 : zI 0 14336 z31 := zi_mul hz30 (zi_c 2048 (a := 2048) (b := 2048) (by decide)) ez31 (by decide)
        refine g_bipush (pc := 108) C 8 dX7_pixel_108 (by decide) ?_
        refine g_iload (pc := 110) C dX7_pixel_110 0 rfl ?_
        refine g_imul (pc := 112) C dX7_pixel_112 (fun z32 ez32 => ?_)
        have hz32 : zI 0 2040 z32 := zi_mul (zi_c 8 (a := 8) (b := 8) (by decide)) hz28 ez32 (by decide)
        refine g_iadd (pc := 113) C dX7_pixel_113 (fun z33 ez33 => ?_)
        have hz33 : zI 0 16376 z33 := zi_add hz31 hz32 ez33 (by decide)
        refine g_iload_n (pc := 114) C dX7_pixel_114 rfl 4 rfl ?_
        refine g_bipush (pc := 115) C 8 dX7_pixel_115 (by decide) ?_
        refine g_irem (pc := 117) C dX7_pixel_117 (by decide) (fun z34 ez34 => ?_)
        have hz34 : zI 0 7 z34 := zi_rem h11 (zi_c 8 (a := 8) (b := 8) (by decide)) ez34 (by decide)
        refine g_iadd (pc := 118) C dX7_pixel_118 (fun z35 ez35 => ?_)
        have hz35 : zI 0 16383 z35 := zi_add hz33 hz34 ez35 (by decide)
        refine lr_3 (pc := 119) C (zi_in hz35 (by decide)) dX7_pixel_119 (fun z36 => ?_)
        refine g_sipush (pc := 120) C 255 dX7_pixel_120 (by decide) ?_
        refine g_iand (pc := 123) C dX7_pixel_123 (fun z37 ez37 => ?_)
        have hz37 : zI 0 255 z37 := zi_and1 (zi_c 255 (a := 0) (b := 255) (by decide)) ez37
        refine g_istore (pc := 124) C ([(5, .int z37), (4, .int z28), (3, .int z14), (0, .ref (ad 0)), (1, .int p0), (2, .int p1)]) dX7_pixel_124 (Nat.le_of_ble_eq_true rfl) rfl ?_
        refine g_aload_n (pc := 126) C dX7_pixel_126 rfl 3 rfl ?_
        refine gr_0_3 (pc := 127) C wk_696 dX7_pixel_127 ?_
        refine g_aload_n (pc := 130) C dX7_pixel_130 rfl 3 rfl ?_
        refine gr_0_10 (pc := 131) C wk_703 dX7_pixel_131 ?_
        refine g_iconst (pc := 134) C 3 dX7_pixel_134 (by decide) ?_
        refine lr_5 (pc := 135) C (zi_in (zi_c 3 (a := 3) (b := 3) (by decide)) (by decide)) dX7_pixel_135 (fun z38 hz38 => ?_)
        refine g_bipush (pc := 136) C 64 dX7_pixel_136 (by decide) ?_
        refine g_imul (pc := 138) C dX7_pixel_138 (fun z39 ez39 => ?_)
        have hz39 : zI 0 16320 z39 := zi_mul hz38 (zi_c 64 (a := 64) (b := 64) (by decide)) ez39 (by decide)
        refine g_iload (pc := 139) C dX7_pixel_139 1 rfl ?_
        refine g_bipush (pc := 141) C 8 dX7_pixel_141 (by decide) ?_
        refine g_idiv (pc := 143) C dX7_pixel_143 (by decide) (fun z40 ez40 => ?_)
        have hz40 : zI 0 31 z40 := zi_div hz28 (zi_c 8 (a := 8) (b := 8) (by decide)) ez40 (by decide)
        refine g_iadd (pc := 144) C dX7_pixel_144 (fun z41 ez41 => ?_)
        have hz41 : zI 0 16351 z41 := zi_add hz39 hz40 ez41 (by decide)
        refine g_sipush (pc := 145) C 16384 dX7_pixel_145 (by decide) ?_
        refine g_irem (pc := 148) C dX7_pixel_148 (by decide) (fun z42 ez42 => ?_)
        have hz42 : zI 0 16383 z42 := zi_rem hz41 (zi_c 16384 (a := 16384) (b := 16384) (by decide)) ez42 (by decide)
        refine lr_3 (pc := 149) C (zi_in hz42 (by decide)) dX7_pixel_149 (fun z43 => ?_)
        refine g_sipush (pc := 150) C 255 dX7_pixel_150 (by decide) ?_
        refine g_iand (pc := 153) C dX7_pixel_153 (fun z44 ez44 => ?_)
        have hz44 : zI 0 255 z44 := zi_and1 (zi_c 255 (a := 0) (b := 255) (by decide)) ez44
        refine g_istore (pc := 154) C ([(6, .int z44), (5, .int z37), (4, .int z28), (3, .int z14), (0, .ref (ad 0)), (1, .int p0), (2, .int p1)]) dX7_pixel_154 (Nat.le_of_ble_eq_true rfl) rfl ?_
        refine g_iload (pc := 156) C dX7_pixel_156 1 rfl ?_
        refine g_bipush (pc := 158) C 7 dX7_pixel_158 (by decide) ?_
        refine g_iload_n (pc := 160) C dX7_pixel_160 rfl 5 rfl ?_
        refine g_bipush (pc := 161) C 8 dX7_pixel_161 (by decide) ?_
        refine g_irem (pc := 163) C dX7_pixel_163 (by decide) (fun z45 ez45 => ?_)
        have hz45 : zI 0 7 z45 := zi_rem h7 (zi_c 8 (a := 8) (b := 8) (by decide)) ez45 (by decide)
        refine g_isub (pc := 164) C dX7_pixel_164 (fun z46 ez46 => ?_)
        have hz46 : zI 0 7 z46 := zi_sub (zi_c 7 (a := 7) (b := 7) (by decide)) hz45 ez46 (by decide)
        refine g_ishr (pc := 165) C dX7_pixel_165 (fun z47 ez47 => ?_)
        refine g_iconst (pc := 166) C 1 dX7_pixel_166 (by decide) ?_
        refine g_iand (pc := 167) C dX7_pixel_167 (fun z48 ez48 => ?_)
        have hz48 : zI 0 1 z48 := zi_and1 (zi_c 1 (a := 0) (b := 1) (by decide)) ez48
        refine g_iconst (pc := 168) C 1 dX7_pixel_168 (by decide) ?_
        refine g_icmp_ne (pc := 169) C 180 dX7_pixel_169 (by decide) (fun c49 => ?_) (fun c49 => ?_)
        · have h50 : zI 0 0 z48 := zr_neH c49 hz48 (zi_c 1 (a := 1) (b := 1) (by decide)) (by decide)
          refine g_iload (pc := 180) C dX7_pixel_180 0 rfl ?_
          refine g_bipush (pc := 182) C 16 dX7_pixel_182 (by decide) ?_
          refine g_irem (pc := 184) C dX7_pixel_184 (by decide) (fun z51 ez51 => ?_)
          have hz51 : zI 0 15 z51 := zi_rem hz44 (zi_c 16 (a := 16) (b := 16) (by decide)) ez51 (by decide)
          exact g_sub [4, 5, 6, 3, 2, 1, 0] rfl (J185 z14 z28 z37 z44 z51 h7 h11 hz14 hz28 hz37 hz44 hz51)
        · have h52 : zI 1 1 z48 := zr_eq c49 hz48 (zi_c 1 (a := 1) (b := 1) (by decide)) (by decide)
          refine g_iload (pc := 172) C dX7_pixel_172 0 rfl ?_
          refine g_bipush (pc := 174) C 16 dX7_pixel_174 (by decide) ?_
          refine g_idiv (pc := 176) C dX7_pixel_176 (by decide) (fun z53 ez53 => ?_)
          have hz53 : zI 0 15 z53 := zi_div hz44 (zi_c 16 (a := 16) (b := 16) (by decide)) ez53 (by decide)
          refine g_goto (pc := 177) C 185 dX7_pixel_177 (by decide) ?_
          exact g_sub [4, 5, 6, 3, 2, 1, 0] rfl (J185 z14 z28 z37 z44 z53 h7 h11 hz14 hz28 hz37 hz44 hz53)
      · have h54 : zI 0 0 z16 := zr_eq c17 hz16 (zi_c 0 (a := 0) (b := 0) (by decide)) (by decide)
        refine g_iload_n (pc := 52) C dX7_pixel_52 rfl 0 rfl ?_
        exact g_ireturn r dX7_pixel_53 rfl (fun _ h => h)
    · have h55 : zI 0 0 r9 := zr_eq c10 kr9 (zi_c 0 (a := 0) (b := 0) (by decide)) (by decide)
      exact g_sub [0, 1, 2] rfl (J27 )

set_option maxHeartbeats 2000000 in
set_option maxRecDepth 100000 in
theorem n_X7_vramL (l : Launch) (D : va_G) (ad : Nat → Nat) (cy : Nat → ClassId) (tl : Int32) (A : Nat → Prop) (p0 : Int32) (hp0 : zI (-2147483648) (-1) p0) : zMi l yX7_vram wz_X7_vram ({ frames := 1, cells := 0, slots := 0, locals := 22 }) [.ref (ad 0), .int p0] D (zTr cy) A (zMr D A ad cy tl) (fun _ => (zMr D A ad cy tl)) := by
  refine zstart_i (cc := cX7_vram) (maxL := 2) (ty := .int) (own := RX7) (by decide) rfl rfl (Nat.le_of_ble_eq_true rfl) (fun p e s m args below meth c Q C r => ?_)
  refine g_sub (lv' := [(0, .ref (ad 0)), (1, .int p0)]) [0, 1] rfl ?_
  refine g_aload_n (pc := 0) C dX7_vram_0 rfl 0 rfl ?_
  refine g_iload_n (pc := 1) C dX7_vram_1 rfl 1 rfl ?_
  refine g_iconst (pc := 2) C 0 dX7_vram_2 (by decide) ?_
  refine g_sipush (pc := 3) C 16383 dX7_vram_3 (by decide) ?_
  refine zcallSi (pc := 6) (st := [.ref (ad 0)]) C C.2.2.2.2.2 (n_X7_in l D ad cy tl A p0 0 16383 0 16383 (by decide) (by decide)) (va_cwS 3 C.2.2.2.2.1 gw_RX7_47 rfl rfl rfl cs_X7_in ⟨Nat.le_of_ble_eq_true rfl, Nat.le_of_ble_eq_true rfl⟩) rfl rfl (Nat.le_of_ble_eq_true rfl) ⟨Nat.le_of_ble_eq_true rfl, Nat.le_of_ble_eq_true rfl⟩ dX7_vram_6 (fun r1 => ?_)
  refine g_and (M2 := (zMr D A ad cy tl)) (fun hr1 => ?_)
  have kr1 := zin_01 hr1
  refine g_if_eq (pc := 9) C 16 dX7_vram_9 (by decide) (fun c2 => ?_) (fun c2 => ?_)
  · have h3 : zI 0 0 r1 := zr_eq c2 kr1 (zi_c 0 (a := 0) (b := 0) (by decide)) (by decide)
    refine g_iconst (pc := 16) C 1 dX7_vram_16 (by decide) ?_
    refine zput (pc := 17) C (fun w h => List.mem_cons_of_mem _ (inz_X7 w h)) tyX7 tyX7_ok nmX7 0 (fun _ => rfl) (ci := 7) rfl 0 (by decide) (C.wd wk_693) rfl (ty := .int) (by decide +kernel) rfl rfl (fun _ => Nat.le_of_ble_eq_true rfl) (w' := zWr ad cy tl) (I' := fun x => zIr x ∧ x.1 0 = 1) (fun x => (zu x.1 0 1, x.2)) (fun _ => rfl) (fun _ h => ⟨h, rfl⟩) dX7_vram_17 ?_
    refine g_aload_n (pc := 20) C dX7_vram_20 rfl 0 rfl ?_
    refine zget (pc := 21) C (fun w h => List.mem_cons_of_mem _ (inz_X7 w h)) 0 (fun _ => rfl) (ci := 7) rfl 0 (by decide) (C.wd wk_693) (fun _ => rfl) dX7_vram_21 (fun x hx => ?_)
    rw [hx.2]
    refine g_if_le (pc := 24) C 31 dX7_vram_24 (by decide) (fun h => absurd h (by decide)) (fun _ => ?_)
    refine g_iconst (pc := 27) C 0 dX7_vram_27 (by decide) ?_
    refine g_goto (pc := 28) C 41 dX7_vram_28 (by decide) ?_
    exact g_ireturn r dX7_vram_41 rfl (fun _ h => zM_mono (fun _ q => q.1) h)
  · exact zi_dis (zin_1 hr1 c2) hp0 (by decide)

set_option maxHeartbeats 2000000 in
set_option maxRecDepth 100000 in
theorem n_X7_vramM (l : Launch) (D : va_G) (ad : Nat → Nat) (cy : Nat → ClassId) (tl : Int32) (A : Nat → Prop) (p0 : Int32) (hp0 : zI 0 16383 p0) : zMi l yX7_vram wz_X7_vram ({ frames := 1, cells := 0, slots := 0, locals := 22 }) [.ref (ad 0), .int p0] D (zTr cy) A (zMr D A ad cy tl) (fun _ => (zMr D A ad cy tl)) := by
  refine zstart_i (cc := cX7_vram) (maxL := 2) (ty := .int) (own := RX7) (by decide) rfl rfl (Nat.le_of_ble_eq_true rfl) (fun p e s m args below meth c Q C r => ?_)
  refine g_sub (lv' := [(0, .ref (ad 0)), (1, .int p0)]) [0, 1] rfl ?_
  refine g_aload_n (pc := 0) C dX7_vram_0 rfl 0 rfl ?_
  refine g_iload_n (pc := 1) C dX7_vram_1 rfl 1 rfl ?_
  refine g_iconst (pc := 2) C 0 dX7_vram_2 (by decide) ?_
  refine g_sipush (pc := 3) C 16383 dX7_vram_3 (by decide) ?_
  refine zcallSi (pc := 6) (st := [.ref (ad 0)]) C C.2.2.2.2.2 (n_X7_in l D ad cy tl A p0 0 16383 0 16383 (by decide) (by decide)) (va_cwS 3 C.2.2.2.2.1 gw_RX7_47 rfl rfl rfl cs_X7_in ⟨Nat.le_of_ble_eq_true rfl, Nat.le_of_ble_eq_true rfl⟩) rfl rfl (Nat.le_of_ble_eq_true rfl) ⟨Nat.le_of_ble_eq_true rfl, Nat.le_of_ble_eq_true rfl⟩ dX7_vram_6 (fun r1 => ?_)
  refine g_and (M2 := (zMr D A ad cy tl)) (fun hr1 => ?_)
  have kr1 := zin_01 hr1
  refine g_if_eq (pc := 9) C 16 dX7_vram_9 (by decide) (fun c2 => ?_) (fun c2 => ?_)
  · exact absurd hp0 (zin_0 hr1 c2)
  · have h3 : zI 1 1 r1 := zr_neL c2 kr1 (zi_c 0 (a := 0) (b := 0) (by decide)) (by decide)
    refine g_iconst (pc := 12) C 0 dX7_vram_12 (by decide) ?_
    refine g_goto (pc := 13) C 17 dX7_vram_13 (by decide) ?_
    refine pr_0_0 (pc := 17) C wk_693 dX7_vram_17 ?_
    refine g_aload_n (pc := 20) C dX7_vram_20 rfl 0 rfl ?_
    refine gr_0_0 (pc := 21) C wk_693 dX7_vram_21 (fun z4 => ?_)
    refine g_if_le (pc := 24) C 31 dX7_vram_24 (by decide) (fun c5 => ?_) (fun c5 => ?_)
    · have h6 : zI (-2147483648) 0 z4 := zr_le1 (zc_le c5) (zi_full z4) (zi_c 0 (a := 0) (b := 0) (by decide)) (by decide)
      refine g_aload_n (pc := 31) C dX7_vram_31 rfl 0 rfl ?_
      refine gr_0_3 (pc := 32) C wk_696 dX7_vram_32 ?_
      refine g_iload_n (pc := 35) C dX7_vram_35 rfl 1 rfl ?_
      refine lr_3 (pc := 36) C (zi_in hp0 (by decide)) dX7_vram_36 (fun z7 => ?_)
      refine g_sipush (pc := 37) C 255 dX7_vram_37 (by decide) ?_
      refine g_iand (pc := 40) C dX7_vram_40 (fun z8 ez8 => ?_)
      have hz8 : zI 0 255 z8 := zi_and1 (zi_c 255 (a := 0) (b := 255) (by decide)) ez8
      exact g_ireturn r dX7_vram_41 rfl (fun _ h => h)
    · have h9 : zI 1 2147483647 z4 := zr_lt2 (zc_nle c5) (zi_c 0 (a := 0) (b := 0) (by decide)) (zi_full z4) (by decide)
      refine g_iconst (pc := 27) C 0 dX7_vram_27 (by decide) ?_
      refine g_goto (pc := 28) C 41 dX7_vram_28 (by decide) ?_
      exact g_ireturn r dX7_vram_41 rfl (fun _ h => h)

set_option maxHeartbeats 2000000 in
set_option maxRecDepth 100000 in
theorem n_X7_vramH (l : Launch) (D : va_G) (ad : Nat → Nat) (cy : Nat → ClassId) (tl : Int32) (A : Nat → Prop) (p0 : Int32) (hp0 : zI 16384 2147483647 p0) : zMi l yX7_vram wz_X7_vram ({ frames := 1, cells := 0, slots := 0, locals := 22 }) [.ref (ad 0), .int p0] D (zTr cy) A (zMr D A ad cy tl) (fun _ => (zMr D A ad cy tl)) := by
  refine zstart_i (cc := cX7_vram) (maxL := 2) (ty := .int) (own := RX7) (by decide) rfl rfl (Nat.le_of_ble_eq_true rfl) (fun p e s m args below meth c Q C r => ?_)
  refine g_sub (lv' := [(0, .ref (ad 0)), (1, .int p0)]) [0, 1] rfl ?_
  refine g_aload_n (pc := 0) C dX7_vram_0 rfl 0 rfl ?_
  refine g_iload_n (pc := 1) C dX7_vram_1 rfl 1 rfl ?_
  refine g_iconst (pc := 2) C 0 dX7_vram_2 (by decide) ?_
  refine g_sipush (pc := 3) C 16383 dX7_vram_3 (by decide) ?_
  refine zcallSi (pc := 6) (st := [.ref (ad 0)]) C C.2.2.2.2.2 (n_X7_in l D ad cy tl A p0 0 16383 0 16383 (by decide) (by decide)) (va_cwS 3 C.2.2.2.2.1 gw_RX7_47 rfl rfl rfl cs_X7_in ⟨Nat.le_of_ble_eq_true rfl, Nat.le_of_ble_eq_true rfl⟩) rfl rfl (Nat.le_of_ble_eq_true rfl) ⟨Nat.le_of_ble_eq_true rfl, Nat.le_of_ble_eq_true rfl⟩ dX7_vram_6 (fun r1 => ?_)
  refine g_and (M2 := (zMr D A ad cy tl)) (fun hr1 => ?_)
  have kr1 := zin_01 hr1
  refine g_if_eq (pc := 9) C 16 dX7_vram_9 (by decide) (fun c2 => ?_) (fun c2 => ?_)
  · have h3 : zI 0 0 r1 := zr_eq c2 kr1 (zi_c 0 (a := 0) (b := 0) (by decide)) (by decide)
    refine g_iconst (pc := 16) C 1 dX7_vram_16 (by decide) ?_
    refine zput (pc := 17) C (fun w h => List.mem_cons_of_mem _ (inz_X7 w h)) tyX7 tyX7_ok nmX7 0 (fun _ => rfl) (ci := 7) rfl 0 (by decide) (C.wd wk_693) rfl (ty := .int) (by decide +kernel) rfl rfl (fun _ => Nat.le_of_ble_eq_true rfl) (w' := zWr ad cy tl) (I' := fun x => zIr x ∧ x.1 0 = 1) (fun x => (zu x.1 0 1, x.2)) (fun _ => rfl) (fun _ h => ⟨h, rfl⟩) dX7_vram_17 ?_
    refine g_aload_n (pc := 20) C dX7_vram_20 rfl 0 rfl ?_
    refine zget (pc := 21) C (fun w h => List.mem_cons_of_mem _ (inz_X7 w h)) 0 (fun _ => rfl) (ci := 7) rfl 0 (by decide) (C.wd wk_693) (fun _ => rfl) dX7_vram_21 (fun x hx => ?_)
    rw [hx.2]
    refine g_if_le (pc := 24) C 31 dX7_vram_24 (by decide) (fun h => absurd h (by decide)) (fun _ => ?_)
    refine g_iconst (pc := 27) C 0 dX7_vram_27 (by decide) ?_
    refine g_goto (pc := 28) C 41 dX7_vram_28 (by decide) ?_
    exact g_ireturn r dX7_vram_41 rfl (fun _ h => zM_mono (fun _ q => q.1) h)
  · exact zi_dis (zin_1 hr1 c2) hp0 (by decide)

