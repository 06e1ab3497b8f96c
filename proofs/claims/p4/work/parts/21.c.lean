set_option maxHeartbeats 2000000 in
set_option maxRecDepth 100000 in
theorem n_X3_readData (l : Launch) (D : va_G) (ad : Nat → Nat) (cy : Nat → ClassId) (tl : Int32) (A : Nat → Prop) : zMi l yX3_readData wz_X3_readData ({ frames := 1, cells := 0, slots := 0, locals := 22 }) [.ref (ad 3)] D (zTc cy) A (zMc D A ad cy tl) (fun _ => (zMc D A ad cy tl)) := by
  refine zstart_i (cc := cX3_readData) (maxL := 2) (ty := .int) (own := RX3) (by decide) rfl rfl (Nat.le_of_ble_eq_true rfl) (fun p e s m args below meth c Q C r => ?_)
  refine g_sub (lv' := [(0, .ref (ad 3))]) [0] rfl ?_
  refine g_aload_n (pc := 0) C dX3_readData_0 rfl 0 rfl ?_
  refine gc_3_3 (pc := 1) C wk_126 dX3_readData_1 (fun z1 => ?_)
  refine g_istore_n (pc := 4) C ([(1, .int z1), (0, .ref (ad 3))]) dX3_readData_4 rfl (Nat.le_of_ble_eq_true rfl) rfl ?_
  refine g_aload_n (pc := 5) C dX3_readData_5 rfl 1 rfl ?_
  refine g_aload_n (pc := 6) C dX3_readData_6 rfl 1 rfl ?_
  refine gc_3_0 (pc := 7) C wk_120 dX3_readData_7 ?_
  refine g_aload_n (pc := 10) C dX3_readData_10 rfl 1 rfl ?_
  refine gc_3_2 (pc := 11) C wk_124 dX3_readData_11 (fun z2 => ?_)
  refine zcallVi (pc := 14) (st := [.ref (ad 3)]) C C.2.2.2.2.2 (n_X0_get_pb l D ad cy tl A z2) (cwV 1 C.2.2.2.2.1 gw_RX3_34 rfl rfl rfl cd_X0_get ⟨Nat.le_of_ble_eq_true rfl, Nat.le_of_ble_eq_true rfl⟩) (hc_4 C) rfl rfl (Nat.le_of_ble_eq_true rfl) ⟨Nat.le_of_ble_eq_true rfl, Nat.le_of_ble_eq_true rfl⟩ dX3_readData_14 (fun r3 => ?_)
  refine g_and (M2 := (zMc D A ad cy tl)) (fun hr3 => ?_)
  refine pc_3_3 (pc := 17) C wk_126 dX3_readData_17 ?_
  refine g_aload_n (pc := 20) C dX3_readData_20 rfl 1 rfl ?_
  refine g_aload_n (pc := 21) C dX3_readData_21 rfl 1 rfl ?_
  refine gc_3_2 (pc := 22) C wk_124 dX3_readData_22 (fun z4 => ?_)
  refine g_iconst (pc := 25) C 1 dX3_readData_25 (by decide) ?_
  refine g_iadd (pc := 26) C dX3_readData_26 (fun z5 ez5 => ?_)
  refine g_sipush (pc := 27) C 16383 dX3_readData_27 (by decide) ?_
  refine g_iand (pc := 30) C dX3_readData_30 (fun z6 ez6 => ?_)
  have hz6 : zI 0 16383 z6 := zi_and1 (zi_c 16383 (a := 0) (b := 16383) (by decide)) ez6
  refine pc_3_2 (pc := 31) C wk_124 dX3_readData_31 ?_
  refine g_aload_n (pc := 34) C dX3_readData_34 rfl 1 rfl ?_
  refine g_iconst (pc := 35) C (-1) dX3_readData_35 (by decide) ?_
  refine pc_3_4 (pc := 36) C wk_128 dX3_readData_36 ?_
  refine g_iload_n (pc := 39) C dX3_readData_39 rfl 0 rfl ?_
  exact g_ireturn r dX3_readData_40 rfl (fun _ h => h)

set_option maxHeartbeats 2000000 in
set_option maxRecDepth 100000 in
theorem n_X3_readStatus (l : Launch) (D : va_G) (ad : Nat → Nat) (cy : Nat → ClassId) (tl : Int32) (A : Nat → Prop) : zMi l yX3_readStatus wz_X3_readStatus ({ frames := 0, cells := 0, slots := 0, locals := 0 }) [.ref (ad 3)] D (zTc cy) A (zMc D A ad cy tl) (fun _ => (zMc D A ad cy tl)) := by
  refine zstart_i (cc := cX3_readStatus) (maxL := 2) (ty := .int) (own := RX3) (by decide) rfl rfl (Nat.le_of_ble_eq_true rfl) (fun p e s m args below meth c Q C r => ?_)
  have J14 : ∀ (b0_14 : Int32) (_ : zI 0 128 b0_14), zG p l e ({ frames := 0, cells := 0, slots := 0, locals := 0 }) s m args below meth c 2 0 0 A Q (zMc D A ad cy tl) 14 [(0, .ref (ad 3))] [.int b0_14] := by
    intro b0_14 hb0_14
    refine g_istore_n (pc := 14) C ([(1, .int b0_14), (0, .ref (ad 3))]) dX3_readStatus_14 rfl (Nat.le_of_ble_eq_true rfl) rfl ?_
    refine g_aload_n (pc := 15) C dX3_readStatus_15 rfl 1 rfl ?_
    refine g_iconst (pc := 16) C 0 dX3_readStatus_16 (by decide) ?_
    refine pc_3_5 (pc := 17) C wk_130 (zi_c 0 (a := 0) (b := 1) (by decide)) dX3_readStatus_17 ?_
    refine g_aload_n (pc := 20) C dX3_readStatus_20 rfl 1 rfl ?_
    refine g_iconst (pc := 21) C (-1) dX3_readStatus_21 (by decide) ?_
    refine pc_3_4 (pc := 22) C wk_128 dX3_readStatus_22 ?_
    refine g_iload_n (pc := 25) C dX3_readStatus_25 rfl 0 rfl ?_
    exact g_ireturn r dX3_readStatus_26 rfl (fun _ h => h)
  refine g_sub (lv' := [(0, .ref (ad 3))]) [0] rfl ?_
  refine g_aload_n (pc := 0) C dX3_readStatus_0 rfl 0 rfl ?_
  refine gc_3_5 (pc := 1) C wk_130 dX3_readStatus_1 (fun z1 => ?_)
  refine g_if_eq (pc := 4) C 13 dX3_readStatus_4 (by decide) (fun c2 => ?_) (fun c2 => ?_)
  · have h3 : zI 0 0 z1 := zr_eq c2 (zi_full z1) (zi_c 0 (a := 0) (b := 0) (by decide)) (by decide)
    refine g_iconst (pc := 13) C 0 dX3_readStatus_13 (by decide) ?_
    exact g_sub [0] rfl (J14 0 (zi_c 0 (a := 0) (b := 128) (by decide)))
  · refine g_sipush (pc := 7) C 128 dX3_readStatus_7 (by decide) ?_
    refine g_goto (pc := 10) C 14 dX3_readStatus_10 (by decide) ?_
    exact g_sub [0] rfl (J14 128 (zi_c 128 (a := 0) (b := 128) (by decide)))

set_option maxHeartbeats 2000000 in
set_option maxRecDepth 100000 in
theorem n_X3_writeData (l : Launch) (D : va_G) (ad : Nat → Nat) (cy : Nat → ClassId) (tl : Int32) (A : Nat → Prop) (p0 : Int32) : zMv l yX3_writeData wz_X3_writeData ({ frames := 1, cells := 0, slots := 0, locals := 26 }) [.ref (ad 3), .int p0] D (zTc cy) A (zMc D A ad cy tl) (zMc D A ad cy tl) := by
  refine zstart_v (cc := cX3_writeData) (maxL := 2) (own := RX3) (by decide) rfl rfl (Nat.le_of_ble_eq_true rfl) (fun p e s m args below meth c Q C r => ?_)
  refine g_sub (lv' := [(0, .ref (ad 3)), (1, .int p0)]) [0, 1] rfl ?_
  refine g_aload_n (pc := 0) C dX3_writeData_0 rfl 0 rfl ?_
  refine gc_3_0 (pc := 1) C wk_120 dX3_writeData_1 ?_
  refine g_aload_n (pc := 4) C dX3_writeData_4 rfl 0 rfl ?_
  refine gc_3_2 (pc := 5) C wk_124 dX3_writeData_5 (fun z1 => ?_)
  refine g_iload_n (pc := 8) C dX3_writeData_8 rfl 1 rfl ?_
  refine zcallVv (pc := 9) (st := []) C C.2.2.2.2.2 (n_X0_put_pb l D ad cy tl A z1 p0) (cwV 2 C.2.2.2.2.1 gw_RX3_42 rfl rfl rfl cd_X0_put ⟨Nat.le_of_ble_eq_true rfl, Nat.le_of_ble_eq_true rfl⟩) (hc_4 C) rfl rfl (Nat.le_of_ble_eq_true rfl) ⟨Nat.le_of_ble_eq_true rfl, Nat.le_of_ble_eq_true rfl⟩ dX3_writeData_9 ?_
  refine g_aload_n (pc := 12) C dX3_writeData_12 rfl 0 rfl ?_
  refine g_iload_n (pc := 13) C dX3_writeData_13 rfl 1 rfl ?_
  refine pc_3_3 (pc := 14) C wk_126 dX3_writeData_14 ?_
  refine g_aload_n (pc := 17) C dX3_writeData_17 rfl 0 rfl ?_
  refine g_aload_n (pc := 18) C dX3_writeData_18 rfl 0 rfl ?_
  refine gc_3_2 (pc := 19) C wk_124 dX3_writeData_19 (fun z2 => ?_)
  refine g_iconst (pc := 22) C 1 dX3_writeData_22 (by decide) ?_
  refine g_iadd (pc := 23) C dX3_writeData_23 (fun z3 ez3 => ?_)
  refine g_sipush (pc := 24) C 16383 dX3_writeData_24 (by decide) ?_
  refine g_iand (pc := 27) C dX3_writeData_27 (fun z4 ez4 => ?_)
  have hz4 : zI 0 16383 z4 := zi_and1 (zi_c 16383 (a := 0) (b := 16383) (by decide)) ez4
  refine pc_3_2 (pc := 28) C wk_124 dX3_writeData_28 ?_
  refine g_aload_n (pc := 31) C dX3_writeData_31 rfl 0 rfl ?_
  refine g_iconst (pc := 32) C (-1) dX3_writeData_32 (by decide) ?_
  refine pc_3_4 (pc := 33) C wk_128 dX3_writeData_33 ?_
  exact g_return r dX3_writeData_36 (fun _ h => h)

set_option maxHeartbeats 2000000 in
set_option maxRecDepth 100000 in
theorem n_X3_writeControl (l : Launch) (D : va_G) (ad : Nat → Nat) (cy : Nat → ClassId) (tl : Int32) (A : Nat → Prop) (p0 : Int32) : zMv l yX3_writeControl wz_X3_writeControl ({ frames := 1, cells := 0, slots := 0, locals := 22 }) [.ref (ad 3), .int p0] D (zTc cy) A (zMc D A ad cy tl) (zMc D A ad cy tl) := by
  refine zstart_v (cc := cX3_writeControl) (maxL := 4) (own := RX3) (by decide) rfl rfl (Nat.le_of_ble_eq_true rfl) (fun p e s m args below meth c Q C r => ?_)
  have J94 : ∀ (a2_94 : Int32) (a3_94 : Int32) (_ : zI 0 192 a3_94), zG p l e ({ frames := 1, cells := 0, slots := 0, locals := 22 }) s m args below meth c 4 0 0 A Q (zMc D A ad cy tl) 94 [(0, .ref (ad 3)), (1, .int p0), (2, .int a2_94), (3, .int a3_94)] [] := by
    intro a2_94 a3_94 ha3_94
    exact g_return r dX3_writeControl_94 (fun _ h => h)
  refine g_sub (lv' := [(0, .ref (ad 3)), (1, .int p0)]) [0, 1] rfl ?_
  refine g_aload_n (pc := 0) C dX3_writeControl_0 rfl 0 rfl ?_
  refine gc_3_4 (pc := 1) C wk_128 dX3_writeControl_1 (fun z1 => ?_)
  refine g_iconst (pc := 4) C (-1) dX3_writeControl_4 (by decide) ?_
  refine g_icmp_ne (pc := 5) C 14 dX3_writeControl_5 (by decide) (fun c2 => ?_) (fun c2 => ?_)
  · refine g_aload_n (pc := 14) C dX3_writeControl_14 rfl 0 rfl ?_
    refine gc_3_4 (pc := 15) C wk_128 dX3_writeControl_15 (fun z3 => ?_)
    refine g_istore_n (pc := 18) C ([(2, .int z3), (0, .ref (ad 3)), (1, .int p0)]) dX3_writeControl_18 rfl (Nat.le_of_ble_eq_true rfl) rfl ?_
    refine g_aload_n (pc := 19) C dX3_writeControl_19 rfl 1 rfl ?_
    refine g_iconst (pc := 20) C (-1) dX3_writeControl_20 (by decide) ?_
    refine pc_3_4 (pc := 21) C wk_128 dX3_writeControl_21 ?_
    refine g_iload_n (pc := 24) C dX3_writeControl_24 rfl 2 rfl ?_
    refine g_sipush (pc := 25) C 192 dX3_writeControl_25 (by decide) ?_
    refine g_iand (pc := 28) C dX3_writeControl_28 (fun z4 ez4 => ?_)
    have hz4 : zI 0 192 z4 := zi_and1 (zi_c 192 (a := 0) (b := 192) (by decide)) ez4
    refine g_istore_n (pc := 29) C ([(3, .int z4), (2, .int z3), (0, .ref (ad 3)), (1, .int p0)]) dX3_writeControl_29 rfl (Nat.le_of_ble_eq_true rfl) rfl ?_
    refine g_iload_n (pc := 30) C dX3_writeControl_30 rfl 0 rfl ?_
    refine g_sipush (pc := 31) C 128 dX3_writeControl_31 (by decide) ?_
    refine g_icmp_ne (pc := 34) C 48 dX3_writeControl_34 (by decide) (fun c5 => ?_) (fun c5 => ?_)
    · refine g_aload_n (pc := 48) C dX3_writeControl_48 rfl 2 rfl ?_
      refine g_iload_n (pc := 49) C dX3_writeControl_49 rfl 3 rfl ?_
      refine g_bipush (pc := 50) C 63 dX3_writeControl_50 (by decide) ?_
      refine g_iand (pc := 52) C dX3_writeControl_52 (fun z6 ez6 => ?_)
      have hz6 : zI 0 63 z6 := zi_and1 (zi_c 63 (a := 0) (b := 63) (by decide)) ez6
      refine g_bipush (pc := 53) C 8 dX3_writeControl_53 (by decide) ?_
      refine g_ishl (pc := 55) C dX3_writeControl_55 (fun z7 ez7 => ?_)
      refine g_iload_n (pc := 56) C dX3_writeControl_56 rfl 1 rfl ?_
      refine g_ior (pc := 57) C dX3_writeControl_57 (fun z8 ez8 => ?_)
      refine pc_3_2 (pc := 58) C wk_124 dX3_writeControl_58 ?_
      refine g_iload_n (pc := 61) C dX3_writeControl_61 rfl 0 rfl ?_
      refine g_if_ne (pc := 62) C 94 dX3_writeControl_62 (by decide) (fun c9 => ?_) (fun c9 => ?_)
      · have h10 : zI 1 192 z4 := zr_neL c9 hz4 (zi_c 0 (a := 0) (b := 0) (by decide)) (by decide)
        exact g_sub [2, 3, 1, 0] rfl (J94 z3 z4 (zi_w h10 (a' := 0) (b' := 192) (by decide)))
      · have h11 : zI 0 0 z4 := zr_eq c9 hz4 (zi_c 0 (a := 0) (b := 0) (by decide)) (by decide)
        refine g_aload_n (pc := 65) C dX3_writeControl_65 rfl 2 rfl ?_
        refine g_aload_n (pc := 66) C dX3_writeControl_66 rfl 2 rfl ?_
        refine gc_3_0 (pc := 67) C wk_120 dX3_writeControl_67 ?_
        refine g_aload_n (pc := 70) C dX3_writeControl_70 rfl 2 rfl ?_
        refine gc_3_2 (pc := 71) C wk_124 dX3_writeControl_71 (fun z12 => ?_)
        refine zcallVi (pc := 74) (st := [.ref (ad 3)]) C C.2.2.2.2.2 (n_X0_get_pb l D ad cy tl A z12) (cwV 1 C.2.2.2.2.1 gw_RX3_34 rfl rfl rfl cd_X0_get ⟨Nat.le_of_ble_eq_true rfl, Nat.le_of_ble_eq_true rfl⟩) (hc_4 C) rfl rfl (Nat.le_of_ble_eq_true rfl) ⟨Nat.le_of_ble_eq_true rfl, Nat.le_of_ble_eq_true rfl⟩ dX3_writeControl_74 (fun r13 => ?_)
        refine g_and (M2 := (zMc D A ad cy tl)) (fun hr13 => ?_)
        refine pc_3_3 (pc := 77) C wk_126 dX3_writeControl_77 ?_
        refine g_aload_n (pc := 80) C dX3_writeControl_80 rfl 2 rfl ?_
        refine g_aload_n (pc := 81) C dX3_writeControl_81 rfl 2 rfl ?_
        refine gc_3_2 (pc := 82) C wk_124 dX3_writeControl_82 (fun z14 => ?_)
        refine g_iconst (pc := 85) C 1 dX3_writeControl_85 (by decide) ?_
        refine g_iadd (pc := 86) C dX3_writeControl_86 (fun z15 ez15 => ?_)
        refine g_sipush (pc := 87) C 16383 dX3_writeControl_87 (by decide) ?_
        refine g_iand (pc := 90) C dX3_writeControl_90 (fun z16 ez16 => ?_)
        have hz16 : zI 0 16383 z16 := zi_and1 (zi_c 16383 (a := 0) (b := 16383) (by decide)) ez16
        refine pc_3_2 (pc := 91) C wk_124 dX3_writeControl_91 ?_
        exact g_sub [2, 3, 1, 0] rfl (J94 z3 z4 (zi_w h11 (a' := 0) (b' := 192) (by decide)))
    · have h17 : zI 128 128 z4 := zr_eq c5 hz4 (zi_c 128 (a := 128) (b := 128) (by decide)) (by decide)
      refine g_aload_n (pc := 37) C dX3_writeControl_37 rfl 2 rfl ?_
      refine gc_3_1 (pc := 38) C wk_122 dX3_writeControl_38 ?_
      refine g_iload_n (pc := 41) C dX3_writeControl_41 rfl 3 rfl ?_
      refine g_bipush (pc := 42) C 7 dX3_writeControl_42 (by decide) ?_
      refine g_iand (pc := 44) C dX3_writeControl_44 (fun z18 ez18 => ?_)
      have hz18 : zI 0 7 z18 := zi_and1 (zi_c 7 (a := 0) (b := 7) (by decide)) ez18
      refine g_iload_n (pc := 45) C dX3_writeControl_45 rfl 1 rfl ?_
      refine sc_6 (pc := 46) C (zi_in hz18 (by decide)) dX3_writeControl_46 ?_
      exact g_return r dX3_writeControl_47 (fun _ h => h)
  · have h19 : zI (-1) (-1) z1 := zr_eq c2 (zi_full z1) (zi_c (-1) (a := (-1)) (b := (-1)) (by decide)) (by decide)
    refine g_aload_n (pc := 8) C dX3_writeControl_8 rfl 0 rfl ?_
    refine g_iload_n (pc := 9) C dX3_writeControl_9 rfl 1 rfl ?_
    refine pc_3_4 (pc := 10) C wk_128 dX3_writeControl_10 ?_
    exact g_return r dX3_writeControl_13 (fun _ h => h)

set_option maxHeartbeats 2000000 in
set_option maxRecDepth 100000 in
theorem n_X3_asksForInterrupt (l : Launch) (D : va_G) (ad : Nat → Nat) (cy : Nat → ClassId) (tl : Int32) (A : Nat → Prop) : zMi l yX3_asksForInterrupt wz_X3_asksForInterrupt ({ frames := 0, cells := 0, slots := 0, locals := 0 }) [.ref (ad 3)] D (zTc cy) A (zMc D A ad cy tl) (fun r H => zI 0 1 r ∧ (zMc D A ad cy tl) H) := by
  refine zstart_i (cc := cX3_asksForInterrupt) (maxL := 1) (ty := .boolean) (own := RX3) (by decide) rfl rfl (Nat.le_of_ble_eq_true rfl) (fun p e s m args below meth c Q C r => ?_)
  have J24 : ∀ (b0_24 : Int32) (_ : zI 0 1 b0_24), zG p l e ({ frames := 0, cells := 0, slots := 0, locals := 0 }) s m args below meth c 1 0 0 A Q (zMc D A ad cy tl) 24 [(0, .ref (ad 3))] [.int b0_24] := by
    intro b0_24 hb0_24
    exact g_ireturn r dX3_asksForInterrupt_24 (zn_bool hb0_24) (fun _ h => ⟨hb0_24, h⟩)
  have J23 : zG p l e ({ frames := 0, cells := 0, slots := 0, locals := 0 }) s m args below meth c 1 0 0 A Q (zMc D A ad cy tl) 23 [(0, .ref (ad 3))] [] := by
    refine g_iconst (pc := 23) C 0 dX3_asksForInterrupt_23 (by decide) ?_
    exact g_sub [0] rfl (J24 0 (zi_c 0 (a := 0) (b := 1) (by decide)))
  refine g_sub (lv' := [(0, .ref (ad 3))]) [0] rfl ?_
  refine g_aload_n (pc := 0) C dX3_asksForInterrupt_0 rfl 0 rfl ?_
  refine gc_3_5 (pc := 1) C wk_130 dX3_asksForInterrupt_1 (fun z1 => ?_)
  refine g_if_eq (pc := 4) C 23 dX3_asksForInterrupt_4 (by decide) (fun c2 => ?_) (fun c2 => ?_)
  · have h3 : zI 0 0 z1 := zr_eq c2 (zi_full z1) (zi_c 0 (a := 0) (b := 0) (by decide)) (by decide)
    exact g_sub [0] rfl (J23 )
  · refine g_aload_n (pc := 7) C dX3_asksForInterrupt_7 rfl 0 rfl ?_
    refine gc_3_1 (pc := 8) C wk_122 dX3_asksForInterrupt_8 ?_
    refine g_iconst (pc := 11) C 1 dX3_asksForInterrupt_11 (by decide) ?_
    refine lc_6 (pc := 12) C (zi_in (zi_c 1 (a := 1) (b := 1) (by decide)) (by decide)) dX3_asksForInterrupt_12 (fun z4 => ?_)
    refine g_bipush (pc := 13) C 32 dX3_asksForInterrupt_13 (by decide) ?_
    refine g_iand (pc := 15) C dX3_asksForInterrupt_15 (fun z5 ez5 => ?_)
    have hz5 : zI 0 32 z5 := zi_and1 (zi_c 32 (a := 0) (b := 32) (by decide)) ez5
    refine g_if_eq (pc := 16) C 23 dX3_asksForInterrupt_16 (by decide) (fun c6 => ?_) (fun c6 => ?_)
    · have h7 : zI 0 0 z5 := zr_eq c6 hz5 (zi_c 0 (a := 0) (b := 0) (by decide)) (by decide)
      exact g_sub [0] rfl (J23 )
    · have h8 : zI 1 32 z5 := zr_neL c6 hz5 (zi_c 0 (a := 0) (b := 0) (by decide)) (by decide)
      refine g_iconst (pc := 19) C 1 dX3_asksForInterrupt_19 (by decide) ?_
      refine g_goto (pc := 20) C 24 dX3_asksForInterrupt_20 (by decide) ?_
      exact g_sub [0] rfl (J24 1 (zi_c 1 (a := 0) (b := 1) (by decide)))

set_option maxHeartbeats 2000000 in
set_option maxRecDepth 100000 in
theorem n_X3_colourAt (l : Launch) (D : va_G) (ad : Nat → Nat) (cy : Nat → ClassId) (tl : Int32) (A : Nat → Prop) (p0 : Int32) (p1 : Int32) : zMi l yX3_colourAt wz_X3_colourAt ({ frames := 1, cells := 0, slots := 0, locals := 22 }) [.ref (ad 3), .int p0, .int p1] D (zTc cy) A (zMc D A ad cy tl) (fun _ => (zMc D A ad cy tl)) := by
  refine zstart_i (cc := cX3_colourAt) (maxL := 9) (ty := .int) (own := RX3) (by decide) rfl rfl (Nat.le_of_ble_eq_true rfl) (fun p e s m args below meth c Q C r => ?_)
  have J171 : ∀ (a3_171 : Int32) (a4_171 : Int32) (a5_171 : Int32) (a6_171 : Int32) (a7_171 : Int32) (a8_171 : Int32) (b0_171 : Int32) (_ : zI 0 15 a3_171) (_ : zI 0 255 a4_171) (_ : zI 0 255 a5_171) (_ : zI 0 255 a6_171) (_ : zI 0 1 a7_171) (_ : zI 0 15 a8_171) (_ : zI 0 15 b0_171), zG p l e ({ frames := 1, cells := 0, slots := 0, locals := 22 }) s m args below meth c 9 0 0 A Q (zMc D A ad cy tl) 171 [(0, .ref (ad 3)), (1, .int p0), (2, .int p1), (3, .int a3_171), (4, .int a4_171), (5, .int a5_171), (6, .int a6_171), (7, .int a7_171), (8, .int a8_171)] [.int b0_171] := by
    intro a3_171 a4_171 a5_171 a6_171 a7_171 a8_171 b0_171 ha3_171 ha4_171 ha5_171 ha6_171 ha7_171 ha8_171 hb0_171
    exact g_ireturn r dX3_colourAt_171 rfl (fun _ h => h)
  have J158 : ∀ (a3_158 : Int32) (a4_158 : Int32) (a5_158 : Int32) (a6_158 : Int32) (a7_158 : Int32) (b0_158 : Int32) (_ : zI 0 15 a3_158) (_ : zI 0 255 a4_158) (_ : zI 0 255 a5_158) (_ : zI 0 255 a6_158) (_ : zI 0 1 a7_158) (_ : zI 0 15 b0_158), zG p l e ({ frames := 1, cells := 0, slots := 0, locals := 22 }) s m args below meth c 9 0 0 A Q (zMc D A ad cy tl) 158 [(0, .ref (ad 3)), (1, .int p0), (2, .int p1), (3, .int a3_158), (4, .int a4_158), (5, .int a5_158), (6, .int a6_158), (7, .int a7_158)] [.int b0_158] := by
    intro a3_158 a4_158 a5_158 a6_158 a7_158 b0_158 ha3_158 ha4_158 ha5_158 ha6_158 ha7_158 hb0_158
    refine g_istore (pc := 158) C ([(8, .int b0_158), (0, .ref (ad 3)), (1, .int p0), (2, .int p1), (3, .int a3_158), (4, .int a4_158), (5, .int a5_158), (6, .int a6_158), (7, .int a7_158)]) dX3_colourAt_158 (Nat.le_of_ble_eq_true rfl) rfl ?_
    refine g_iload (pc := 160) C dX3_colourAt_160 0 rfl ?_
    refine g_if_ne (pc := 162) C 169 dX3_colourAt_162 (by decide) (fun c1 => ?_) (fun c1 => ?_)
    · have h2 : zI 1 15 b0_158 := zr_neL c1 hb0_158 (zi_c 0 (a := 0) (b := 0) (by decide)) (by decide)
      refine g_iload (pc := 169) C dX3_colourAt_169 0 rfl ?_
      exact g_sub [1, 2, 3, 4, 5, 6, 7, 8, 0] rfl (J171 a3_158 a4_158 a5_158 a6_158 a7_158 b0_158 b0_158 ha3_158 ha4_158 ha5_158 ha6_158 ha7_158 (zi_w h2 (a' := 0) (b' := 15) (by decide)) (zi_w h2 (a' := 0) (b' := 15) (by decide)))
    · have h3 : zI 0 0 b0_158 := zr_eq c1 hb0_158 (zi_c 0 (a := 0) (b := 0) (by decide)) (by decide)
      refine g_iload_n (pc := 165) C dX3_colourAt_165 rfl 4 rfl ?_
      refine g_goto (pc := 166) C 171 dX3_colourAt_166 (by decide) ?_
      exact g_sub [1, 2, 3, 4, 5, 6, 7, 8, 0] rfl (J171 a3_158 a4_158 a5_158 a6_158 a7_158 b0_158 a3_158 ha3_158 ha4_158 ha5_158 ha6_158 ha7_158 (zi_w h3 (a' := 0) (b' := 15) (by decide)) ha3_158)
  have J139 : ∀ (a3_139 : Int32) (a4_139 : Int32) (a5_139 : Int32) (a6_139 : Int32) (b0_139 : Int32) (_ : zI 0 15 a3_139) (_ : zI 0 255 a4_139) (_ : zI 0 255 a5_139) (_ : zI 0 255 a6_139) (_ : zI 0 1 b0_139), zG p l e ({ frames := 1, cells := 0, slots := 0, locals := 22 }) s m args below meth c 9 0 0 A Q (zMc D A ad cy tl) 139 [(0, .ref (ad 3)), (1, .int p0), (2, .int p1), (3, .int a3_139), (4, .int a4_139), (5, .int a5_139), (6, .int a6_139)] [.int b0_139] := by
    intro a3_139 a4_139 a5_139 a6_139 b0_139 ha3_139 ha4_139 ha5_139 ha6_139 hb0_139
    refine g_istore (pc := 139) C ([(7, .int b0_139), (0, .ref (ad 3)), (1, .int p0), (2, .int p1), (3, .int a3_139), (4, .int a4_139), (5, .int a5_139), (6, .int a6_139)]) dX3_colourAt_139 (Nat.le_of_ble_eq_true rfl) rfl ?_
    refine g_iload (pc := 141) C dX3_colourAt_141 0 rfl ?_
    refine g_if_eq (pc := 143) C 153 dX3_colourAt_143 (by decide) (fun c4 => ?_) (fun c4 => ?_)
    · have h5 : zI 0 0 b0_139 := zr_eq c4 hb0_139 (zi_c 0 (a := 0) (b := 0) (by decide)) (by decide)
      refine g_iload (pc := 153) C dX3_colourAt_153 7 rfl ?_
      refine g_bipush (pc := 155) C 15 dX3_colourAt_155 (by decide) ?_
      refine g_iand (pc := 157) C dX3_colourAt_157 (fun z6 ez6 => ?_)
      have hz6 : zI 0 15 z6 := zi_and1 (zi_c 15 (a := 0) (b := 15) (by decide)) ez6
      exact g_sub [1, 2, 3, 4, 5, 6, 7, 0] rfl (J158 a3_139 a4_139 a5_139 a6_139 b0_139 z6 ha3_139 ha4_139 ha5_139 ha6_139 (zi_w h5 (a' := 0) (b' := 1) (by decide)) hz6)
    · have h7 : zI 1 1 b0_139 := zr_neL c4 hb0_139 (zi_c 0 (a := 0) (b := 0) (by decide)) (by decide)
      refine g_iload (pc := 146) C dX3_colourAt_146 7 rfl ?_
      refine g_iconst (pc := 148) C 4 dX3_colourAt_148 (by decide) ?_
      refine g_ishr (pc := 149) C dX3_colourAt_149 (fun z8 ez8 => ?_)
      have hz8 : zI 0 15 z8 := zi_shr 4 ha6_139 (by decide) ez8 (by decide)
      refine g_goto (pc := 150) C 158 dX3_colourAt_150 (by decide) ?_
      exact g_sub [1, 2, 3, 4, 5, 6, 7, 0] rfl (J158 a3_139 a4_139 a5_139 a6_139 b0_139 z8 ha3_139 ha4_139 ha5_139 ha6_139 (zi_w h7 (a' := 0) (b' := 1) (by decide)) hz8)
  refine g_sub (lv' := [(0, .ref (ad 3)), (1, .int p0), (2, .int p1)]) [0, 1, 2] rfl ?_
  refine g_aload_n (pc := 0) C dX3_colourAt_0 rfl 0 rfl ?_
  refine gc_3_1 (pc := 1) C wk_122 dX3_colourAt_1 ?_
  refine g_bipush (pc := 4) C 7 dX3_colourAt_4 (by decide) ?_
  refine lc_6 (pc := 6) C (zi_in (zi_c 7 (a := 7) (b := 7) (by decide)) (by decide)) dX3_colourAt_6 (fun z9 => ?_)
  refine g_bipush (pc := 7) C 15 dX3_colourAt_7 (by decide) ?_
  refine g_iand (pc := 9) C dX3_colourAt_9 (fun z10 ez10 => ?_)
  have hz10 : zI 0 15 z10 := zi_and1 (zi_c 15 (a := 0) (b := 15) (by decide)) ez10
  refine g_istore_n (pc := 10) C ([(3, .int z10), (0, .ref (ad 3)), (1, .int p0), (2, .int p1)]) dX3_colourAt_10 rfl (Nat.le_of_ble_eq_true rfl) rfl ?_
  refine g_aload_n (pc := 11) C dX3_colourAt_11 rfl 1 rfl ?_
  refine gc_3_1 (pc := 12) C wk_122 dX3_colourAt_12 ?_
  refine g_iconst (pc := 15) C 1 dX3_colourAt_15 (by decide) ?_
  refine lc_6 (pc := 16) C (zi_in (zi_c 1 (a := 1) (b := 1) (by decide)) (by decide)) dX3_colourAt_16 (fun z11 => ?_)
  refine g_bipush (pc := 17) C 64 dX3_colourAt_17 (by decide) ?_
  refine g_iand (pc := 19) C dX3_colourAt_19 (fun z12 ez12 => ?_)
  have hz12 : zI 0 64 z12 := zi_and1 (zi_c 64 (a := 0) (b := 64) (by decide)) ez12
  refine g_if_ne (pc := 20) C 25 dX3_colourAt_20 (by decide) (fun c13 => ?_) (fun c13 => ?_)
  · have h14 : zI 1 64 z12 := zr_neL c13 hz12 (zi_c 0 (a := 0) (b := 0) (by decide)) (by decide)
    refine g_aload_n (pc := 25) C dX3_colourAt_25 rfl 1 rfl ?_
    refine gc_3_0 (pc := 26) C wk_120 dX3_colourAt_26 ?_
    refine g_aload_n (pc := 29) C dX3_colourAt_29 rfl 1 rfl ?_
    refine gc_3_1 (pc := 30) C wk_122 dX3_colourAt_30 ?_
    refine g_iconst (pc := 33) C 2 dX3_colourAt_33 (by decide) ?_
    refine lc_6 (pc := 34) C (zi_in (zi_c 2 (a := 2) (b := 2) (by decide)) (by decide)) dX3_colourAt_34 (fun z15 => ?_)
    refine g_bipush (pc := 35) C 15 dX3_colourAt_35 (by decide) ?_
    refine g_iand (pc := 37) C dX3_colourAt_37 (fun z16 ez16 => ?_)
    have hz16 : zI 0 15 z16 := zi_and1 (zi_c 15 (a := 0) (b := 15) (by decide)) ez16
    refine g_sipush (pc := 38) C 1024 dX3_colourAt_38 (by decide) ?_
    refine g_imul (pc := 41) C dX3_colourAt_41 (fun z17 ez17 => ?_)
    have hz17 : zI 0 15360 z17 := zi_mul hz16 (zi_c 1024 (a := 1024) (b := 1024) (by decide)) ez17 (by decide)
    refine g_bipush (pc := 42) C 32 dX3_colourAt_42 (by decide) ?_
    refine g_iload_n (pc := 44) C dX3_colourAt_44 rfl 3 rfl ?_
    refine g_iconst (pc := 45) C 3 dX3_colourAt_45 (by decide) ?_
    refine g_ishr (pc := 46) C dX3_colourAt_46 (fun z18 ez18 => ?_)
    refine g_imul (pc := 47) C dX3_colourAt_47 (fun z19 ez19 => ?_)
    refine g_iadd (pc := 48) C dX3_colourAt_48 (fun z20 ez20 => ?_)
    refine g_iload_n (pc := 49) C dX3_colourAt_49 rfl 2 rfl ?_
    refine g_iconst (pc := 50) C 3 dX3_colourAt_50 (by decide) ?_
    refine g_ishr (pc := 51) C dX3_colourAt_51 (fun z21 ez21 => ?_)
    refine g_iadd (pc := 52) C dX3_colourAt_52 (fun z22 ez22 => ?_)
    refine zcallVi (pc := 53) (st := []) C C.2.2.2.2.2 (n_X0_get_pb l D ad cy tl A z22) (cwV 1 C.2.2.2.2.1 gw_RX3_34 rfl rfl rfl cd_X0_get ⟨Nat.le_of_ble_eq_true rfl, Nat.le_of_ble_eq_true rfl⟩) (hc_4 C) rfl rfl (Nat.le_of_ble_eq_true rfl) ⟨Nat.le_of_ble_eq_true rfl, Nat.le_of_ble_eq_true rfl⟩ dX3_colourAt_53 (fun r23 => ?_)
    refine g_and (M2 := (zMc D A ad cy tl)) (fun hr23 => ?_)
    refine g_istore (pc := 56) C ([(4, .int r23), (3, .int z10), (0, .ref (ad 3)), (1, .int p0), (2, .int p1)]) dX3_colourAt_56 (Nat.le_of_ble_eq_true rfl) rfl ?_
    refine g_aload_n (pc := 58) C dX3_colourAt_58 rfl 2 rfl ?_
    refine gc_3_0 (pc := 59) C wk_120 dX3_colourAt_59 ?_
    refine g_aload_n (pc := 62) C dX3_colourAt_62 rfl 2 rfl ?_
    refine gc_3_1 (pc := 63) C wk_122 dX3_colourAt_63 ?_
    refine g_iconst (pc := 66) C 4 dX3_colourAt_66 (by decide) ?_
    refine lc_6 (pc := 67) C (zi_in (zi_c 4 (a := 4) (b := 4) (by decide)) (by decide)) dX3_colourAt_67 (fun z24 => ?_)
    refine g_bipush (pc := 68) C 7 dX3_colourAt_68 (by decide) ?_
    refine g_iand (pc := 70) C dX3_colourAt_70 (fun z25 ez25 => ?_)
    have hz25 : zI 0 7 z25 := zi_and1 (zi_c 7 (a := 0) (b := 7) (by decide)) ez25
    refine g_sipush (pc := 71) C 2048 dX3_colourAt_71 (by decide) ?_
    refine g_imul (pc := 74) C dX3_colourAt_74 (fun z26 ez26 => ?_)
    have hz26 : zI 0 14336 z26 := zi_mul hz25 (zi_c 2048 (a := 2048) (b := 2048) (by decide)) ez26 (by decide)
    refine g_bipush (pc := 75) C 8 dX3_colourAt_75 (by decide) ?_
    refine g_iload (pc := 77) C dX3_colourAt_77 0 rfl ?_
    refine g_imul (pc := 79) C dX3_colourAt_79 (fun z27 ez27 => ?_)
    have hz27 : zI 0 2040 z27 := zi_mul (zi_c 8 (a := 8) (b := 8) (by decide)) hr23 ez27 (by decide)
    refine g_iadd (pc := 80) C dX3_colourAt_80 (fun z28 ez28 => ?_)
    have hz28 : zI 0 16376 z28 := zi_add hz26 hz27 ez28 (by decide)
    refine g_iload_n (pc := 81) C dX3_colourAt_81 rfl 4 rfl ?_
    refine g_bipush (pc := 82) C 7 dX3_colourAt_82 (by decide) ?_
    refine g_iand (pc := 84) C dX3_colourAt_84 (fun z29 ez29 => ?_)
    have hz29 : zI 0 7 z29 := zi_and1 (zi_c 7 (a := 0) (b := 7) (by decide)) ez29
    refine g_iadd (pc := 85) C dX3_colourAt_85 (fun z30 ez30 => ?_)
    have hz30 : zI 0 16383 z30 := zi_add hz28 hz29 ez30 (by decide)
    refine zcallVi (pc := 86) (st := []) C C.2.2.2.2.2 (n_X0_get_pb l D ad cy tl A z30) (cwV 1 C.2.2.2.2.1 gw_RX3_34 rfl rfl rfl cd_X0_get ⟨Nat.le_of_ble_eq_true rfl, Nat.le_of_ble_eq_true rfl⟩) (hc_4 C) rfl rfl (Nat.le_of_ble_eq_true rfl) ⟨Nat.le_of_ble_eq_true rfl, Nat.le_of_ble_eq_true rfl⟩ dX3_colourAt_86 (fun r31 => ?_)
    refine g_and (M2 := (zMc D A ad cy tl)) (fun hr31 => ?_)
    refine g_istore (pc := 89) C ([(5, .int r31), (4, .int r23), (3, .int z10), (0, .ref (ad 3)), (1, .int p0), (2, .int p1)]) dX3_colourAt_89 (Nat.le_of_ble_eq_true rfl) rfl ?_
    refine g_aload_n (pc := 91) C dX3_colourAt_91 rfl 3 rfl ?_
    refine gc_3_0 (pc := 92) C wk_120 dX3_colourAt_92 ?_
    refine g_aload_n (pc := 95) C dX3_colourAt_95 rfl 3 rfl ?_
    refine gc_3_1 (pc := 96) C wk_122 dX3_colourAt_96 ?_
    refine g_iconst (pc := 99) C 3 dX3_colourAt_99 (by decide) ?_
    refine lc_6 (pc := 100) C (zi_in (zi_c 3 (a := 3) (b := 3) (by decide)) (by decide)) dX3_colourAt_100 (fun z32 => ?_)
    refine g_bipush (pc := 101) C 64 dX3_colourAt_101 (by decide) ?_
    refine g_imul (pc := 103) C dX3_colourAt_103 (fun z33 ez33 => ?_)
    refine g_iload (pc := 104) C dX3_colourAt_104 1 rfl ?_
    refine g_iconst (pc := 106) C 3 dX3_colourAt_106 (by decide) ?_
    refine g_ishr (pc := 107) C dX3_colourAt_107 (fun z34 ez34 => ?_)
    have hz34 : zI 0 31 z34 := zi_shr 3 hr23 (by decide) ez34 (by decide)
    refine g_iadd (pc := 108) C dX3_colourAt_108 (fun z35 ez35 => ?_)
    refine g_sipush (pc := 109) C 16383 dX3_colourAt_109 (by decide) ?_
    refine g_iand (pc := 112) C dX3_colourAt_112 (fun z36 ez36 => ?_)
    have hz36 : zI 0 16383 z36 := zi_and1 (zi_c 16383 (a := 0) (b := 16383) (by decide)) ez36
    refine zcallVi (pc := 113) (st := []) C C.2.2.2.2.2 (n_X0_get_pb l D ad cy tl A z36) (cwV 1 C.2.2.2.2.1 gw_RX3_34 rfl rfl rfl cd_X0_get ⟨Nat.le_of_ble_eq_true rfl, Nat.le_of_ble_eq_true rfl⟩) (hc_4 C) rfl rfl (Nat.le_of_ble_eq_true rfl) ⟨Nat.le_of_ble_eq_true rfl, Nat.le_of_ble_eq_true rfl⟩ dX3_colourAt_113 (fun r37 => ?_)
    refine g_and (M2 := (zMc D A ad cy tl)) (fun hr37 => ?_)
    refine g_istore (pc := 116) C ([(6, .int r37), (5, .int r31), (4, .int r23), (3, .int z10), (0, .ref (ad 3)), (1, .int p0), (2, .int p1)]) dX3_colourAt_116 (Nat.le_of_ble_eq_true rfl) rfl ?_
    refine g_iload (pc := 118) C dX3_colourAt_118 1 rfl ?_
    refine g_bipush (pc := 120) C 7 dX3_colourAt_120 (by decide) ?_
    refine g_iload_n (pc := 122) C dX3_colourAt_122 rfl 5 rfl ?_
    refine g_bipush (pc := 123) C 7 dX3_colourAt_123 (by decide) ?_
    refine g_iand (pc := 125) C dX3_colourAt_125 (fun z38 ez38 => ?_)
    have hz38 : zI 0 7 z38 := zi_and1 (zi_c 7 (a := 0) (b := 7) (by decide)) ez38
    refine g_isub (pc := 126) C dX3_colourAt_126 (fun z39 ez39 => ?_)
    have hz39 : zI 0 7 z39 := zi_sub (zi_c 7 (a := 7) (b := 7) (by decide)) hz38 ez39 (by decide)
    refine g_ishr (pc := 127) C dX3_colourAt_127 (fun z40 ez40 => ?_)
    refine g_iconst (pc := 128) C 1 dX3_colourAt_128 (by decide) ?_
    refine g_iand (pc := 129) C dX3_colourAt_129 (fun z41 ez41 => ?_)
    have hz41 : zI 0 1 z41 := zi_and1 (zi_c 1 (a := 0) (b := 1) (by decide)) ez41
    refine g_iconst (pc := 130) C 1 dX3_colourAt_130 (by decide) ?_
    refine g_icmp_ne (pc := 131) C 138 dX3_colourAt_131 (by decide) (fun c42 => ?_) (fun c42 => ?_)
    · have h43 : zI 0 0 z41 := zr_neH c42 hz41 (zi_c 1 (a := 1) (b := 1) (by decide)) (by decide)
      refine g_iconst (pc := 138) C 0 dX3_colourAt_138 (by decide) ?_
      exact g_sub [4, 5, 6, 3, 2, 1, 0] rfl (J139 z10 r23 r31 r37 0 hz10 hr23 hr31 hr37 (zi_c 0 (a := 0) (b := 1) (by decide)))
    · have h44 : zI 1 1 z41 := zr_eq c42 hz41 (zi_c 1 (a := 1) (b := 1) (by decide)) (by decide)
      refine g_iconst (pc := 134) C 1 dX3_colourAt_134 (by decide) ?_
      refine g_goto (pc := 135) C 139 dX3_colourAt_135 (by decide) ?_
      exact g_sub [4, 5, 6, 3, 2, 1, 0] rfl (J139 z10 r23 r31 r37 1 hz10 hr23 hr31 hr37 (zi_c 1 (a := 0) (b := 1) (by decide)))
  · have h45 : zI 0 0 z12 := zr_eq c13 hz12 (zi_c 0 (a := 0) (b := 0) (by decide)) (by decide)
    refine g_iload_n (pc := 23) C dX3_colourAt_23 rfl 0 rfl ?_
    exact g_ireturn r dX3_colourAt_24 rfl (fun _ h => h)

set_option maxHeartbeats 2000000 in
set_option maxRecDepth 100000 in
theorem n_X1_readData (l : Launch) (D : va_G) (ad : Nat → Nat) (cy : Nat → ClassId) (tl : Int32) (A : Nat → Prop) : zMi l yX1_readData wz_X1_readData ({ frames := 1, cells := 0, slots := 0, locals := 22 }) [.ref (ad 7)] D (zTc cy) A (zMc D A ad cy tl) (fun _ => (zMc D A ad cy tl)) := by
  refine zstart_i (cc := cX1_readData) (maxL := 2) (ty := .int) (own := RX1) (by decide) rfl rfl (Nat.le_of_ble_eq_true rfl) (fun p e s m args below meth c Q C r => ?_)
  have J31 : ∀ (a1_31 : Int32) (b0_31 : Int32) (_ : zI 0 255 b0_31), zG p l e ({ frames := 1, cells := 0, slots := 0, locals := 22 }) s m args below meth c 2 0 0 A Q (zMc D A ad cy tl) 31 [(0, .ref (ad 7)), (1, .int a1_31)] [.int b0_31, .ref (ad 7)] := by
    intro a1_31 b0_31 hb0_31
    refine pc_7_2 (pc := 31) C wk_158 dX1_readData_31 ?_
    refine g_aload_n (pc := 34) C dX1_readData_34 rfl 0 rfl ?_
    refine g_aload_n (pc := 35) C dX1_readData_35 rfl 0 rfl ?_
    refine gc_7_1 (pc := 36) C wk_156 dX1_readData_36 (fun z1 => ?_)
    refine g_ldc (pc := 39) C dX1_readData_39 (C.wd wk_339) ?_
    refine g_iand (pc := 41) C dX1_readData_41 (fun z2 ez2 => ?_)
    have hz2 : zI 0 57344 z2 := zi_and1 (zi_c 57344 (a := 0) (b := 57344) (by decide)) ez2
    refine g_aload_n (pc := 42) C dX1_readData_42 rfl 0 rfl ?_
    refine gc_7_1 (pc := 43) C wk_156 dX1_readData_43 (fun z3 => ?_)
    refine g_iconst (pc := 46) C 1 dX1_readData_46 (by decide) ?_
    refine g_iadd (pc := 47) C dX1_readData_47 (fun z4 ez4 => ?_)
    refine g_sipush (pc := 48) C 8191 dX1_readData_48 (by decide) ?_
    refine g_iand (pc := 51) C dX1_readData_51 (fun z5 ez5 => ?_)
    have hz5 : zI 0 8191 z5 := zi_and1 (zi_c 8191 (a := 0) (b := 8191) (by decide)) ez5
    refine g_ior (pc := 52) C dX1_readData_52 (fun z6 ez6 => ?_)
    refine pc_7_1 (pc := 53) C wk_156 dX1_readData_53 ?_
    refine g_aload_n (pc := 56) C dX1_readData_56 rfl 0 rfl ?_
    refine g_iconst (pc := 57) C 0 dX1_readData_57 (by decide) ?_
    refine pc_7_3 (pc := 58) C wk_160 (zi_c 0 (a := 0) (b := 1) (by decide)) dX1_readData_58 ?_
    refine g_iload_n (pc := 61) C dX1_readData_61 rfl 1 rfl ?_
    exact g_ireturn r dX1_readData_62 rfl (fun _ h => h)
  refine g_sub (lv' := [(0, .ref (ad 7))]) [0] rfl ?_
  refine g_aload_n (pc := 0) C dX1_readData_0 rfl 0 rfl ?_
  refine gc_7_2 (pc := 1) C wk_158 dX1_readData_1 (fun z7 => ?_)
  refine g_istore_n (pc := 4) C ([(1, .int z7), (0, .ref (ad 7))]) dX1_readData_4 rfl (Nat.le_of_ble_eq_true rfl) rfl ?_
  refine g_aload_n (pc := 5) C dX1_readData_5 rfl 1 rfl ?_
  refine g_aload_n (pc := 6) C dX1_readData_6 rfl 1 rfl ?_
  refine gc_7_1 (pc := 7) C wk_156 dX1_readData_7 (fun z8 => ?_)
  refine g_sipush (pc := 10) C 8192 dX1_readData_10 (by decide) ?_
  refine g_icmp_ge (pc := 13) C 30 dX1_readData_13 (by decide) (fun c9 => ?_) (fun c9 => ?_)
  · have h10 : zI 8192 2147483647 z8 := zr_le2 (zc_le c9) (zi_c 8192 (a := 8192) (b := 8192) (by decide)) (zi_full z8) (by decide)
    refine g_iconst (pc := 30) C 0 dX1_readData_30 (by decide) ?_
    exact g_sub [1, 0] rfl (J31 z7 0 (zi_c 0 (a := 0) (b := 255) (by decide)))
  · have h11 : zI (-2147483648) 8191 z8 := zr_lt1 (zc_nle c9) (zi_full z8) (zi_c 8192 (a := 8192) (b := 8192) (by decide)) (by decide)
    refine g_aload_n (pc := 16) C dX1_readData_16 rfl 1 rfl ?_
    refine gc_7_0 (pc := 17) C wk_154 dX1_readData_17 ?_
    refine g_aload_n (pc := 20) C dX1_readData_20 rfl 1 rfl ?_
    refine gc_7_1 (pc := 21) C wk_156 dX1_readData_21 (fun z12 => ?_)
    refine zcallVi (pc := 24) (st := [.ref (ad 7)]) C C.2.2.2.2.2 (n_X0_get_gb l D ad cy tl A z12) (cwV 1 C.2.2.2.2.1 gw_RX1_27 rfl rfl rfl cd_X0_get ⟨Nat.le_of_ble_eq_true rfl, Nat.le_of_ble_eq_true rfl⟩) (hc_8 C) rfl rfl (Nat.le_of_ble_eq_true rfl) ⟨Nat.le_of_ble_eq_true rfl, Nat.le_of_ble_eq_true rfl⟩ dX1_readData_24 (fun r13 => ?_)
    refine g_and (M2 := (zMc D A ad cy tl)) (fun hr13 => ?_)
    refine g_goto (pc := 27) C 31 dX1_readData_27 (by decide) ?_
    exact g_sub [1, 0] rfl (J31 z7 r13 hr13)

set_option maxHeartbeats 2000000 in
set_option maxRecDepth 100000 in
theorem n_X1_readAddress (l : Launch) (D : va_G) (ad : Nat → Nat) (cy : Nat → ClassId) (tl : Int32) (A : Nat → Prop) : zMi l yX1_readAddress wz_X1_readAddress ({ frames := 0, cells := 0, slots := 0, locals := 0 }) [.ref (ad 7)] D (zTc cy) A (zMc D A ad cy tl) (fun _ => (zMc D A ad cy tl)) := by
  refine zstart_i (cc := cX1_readAddress) (maxL := 2) (ty := .int) (own := RX1) (by decide) rfl rfl (Nat.le_of_ble_eq_true rfl) (fun p e s m args below meth c Q C r => ?_)
  refine g_sub (lv' := [(0, .ref (ad 7))]) [0] rfl ?_
  refine g_aload_n (pc := 0) C dX1_readAddress_0 rfl 0 rfl ?_
  refine gc_7_1 (pc := 1) C wk_156 dX1_readAddress_1 (fun z1 => ?_)
  refine g_bipush (pc := 4) C 8 dX1_readAddress_4 (by decide) ?_
  refine g_ishr (pc := 6) C dX1_readAddress_6 (fun z2 ez2 => ?_)
  refine g_istore_n (pc := 7) C ([(1, .int z2), (0, .ref (ad 7))]) dX1_readAddress_7 rfl (Nat.le_of_ble_eq_true rfl) rfl ?_
  refine g_aload_n (pc := 8) C dX1_readAddress_8 rfl 1 rfl ?_
  refine g_aload_n (pc := 9) C dX1_readAddress_9 rfl 1 rfl ?_
  refine gc_7_1 (pc := 10) C wk_156 dX1_readAddress_10 (fun z3 => ?_)
  refine g_sipush (pc := 13) C 255 dX1_readAddress_13 (by decide) ?_
  refine g_iand (pc := 16) C dX1_readAddress_16 (fun z4 ez4 => ?_)
  have hz4 : zI 0 255 z4 := zi_and1 (zi_c 255 (a := 0) (b := 255) (by decide)) ez4
  refine g_sipush (pc := 17) C 257 dX1_readAddress_17 (by decide) ?_
  refine g_imul (pc := 20) C dX1_readAddress_20 (fun z5 ez5 => ?_)
  have hz5 : zI 0 65535 z5 := zi_mul hz4 (zi_c 257 (a := 257) (b := 257) (by decide)) ez5 (by decide)
  refine pc_7_1 (pc := 21) C wk_156 dX1_readAddress_21 ?_
  refine g_aload_n (pc := 24) C dX1_readAddress_24 rfl 1 rfl ?_
  refine g_iconst (pc := 25) C 0 dX1_readAddress_25 (by decide) ?_
  refine pc_7_3 (pc := 26) C wk_160 (zi_c 0 (a := 0) (b := 1) (by decide)) dX1_readAddress_26 ?_
  refine g_iload_n (pc := 29) C dX1_readAddress_29 rfl 0 rfl ?_
  exact g_ireturn r dX1_readAddress_30 rfl (fun _ h => h)

set_option maxHeartbeats 2000000 in
set_option maxRecDepth 100000 in
theorem n_X1_writeAddress (l : Launch) (D : va_G) (ad : Nat → Nat) (cy : Nat → ClassId) (tl : Int32) (A : Nat → Prop) (p0 : Int32) : zMv l yX1_writeAddress wz_X1_writeAddress ({ frames := 1, cells := 0, slots := 0, locals := 22 }) [.ref (ad 7), .int p0] D (zTc cy) A (zMc D A ad cy tl) (zMc D A ad cy tl) := by
  refine zstart_v (cc := cX1_writeAddress) (maxL := 2) (own := RX1) (by decide) rfl rfl (Nat.le_of_ble_eq_true rfl) (fun p e s m args below meth c Q C r => ?_)
  have J74 : ∀ (b0_74 : Int32) (_ : zI 0 255 b0_74), zG p l e ({ frames := 1, cells := 0, slots := 0, locals := 22 }) s m args below meth c 2 0 0 A Q (zMc D A ad cy tl) 74 [(0, .ref (ad 7)), (1, .int p0)] [.int b0_74, .ref (ad 7)] := by
    intro b0_74 hb0_74
    refine pc_7_2 (pc := 74) C wk_158 dX1_writeAddress_74 ?_
    refine g_aload_n (pc := 77) C dX1_writeAddress_77 rfl 0 rfl ?_
    refine g_aload_n (pc := 78) C dX1_writeAddress_78 rfl 0 rfl ?_
    refine gc_7_1 (pc := 79) C wk_156 dX1_writeAddress_79 (fun z1 => ?_)
    refine g_ldc (pc := 82) C dX1_writeAddress_82 (C.wd wk_339) ?_
    refine g_iand (pc := 84) C dX1_writeAddress_84 (fun z2 ez2 => ?_)
    have hz2 : zI 0 57344 z2 := zi_and1 (zi_c 57344 (a := 0) (b := 57344) (by decide)) ez2
    refine g_aload_n (pc := 85) C dX1_writeAddress_85 rfl 0 rfl ?_
    refine gc_7_1 (pc := 86) C wk_156 dX1_writeAddress_86 (fun z3 => ?_)
    refine g_iconst (pc := 89) C 1 dX1_writeAddress_89 (by decide) ?_
    refine g_iadd (pc := 90) C dX1_writeAddress_90 (fun z4 ez4 => ?_)
    refine g_sipush (pc := 91) C 8191 dX1_writeAddress_91 (by decide) ?_
    refine g_iand (pc := 94) C dX1_writeAddress_94 (fun z5 ez5 => ?_)
    have hz5 : zI 0 8191 z5 := zi_and1 (zi_c 8191 (a := 0) (b := 8191) (by decide)) ez5
    refine g_ior (pc := 95) C dX1_writeAddress_95 (fun z6 ez6 => ?_)
    refine pc_7_1 (pc := 96) C wk_156 dX1_writeAddress_96 ?_
    exact g_return r dX1_writeAddress_99 (fun _ h => h)
  refine g_sub (lv' := [(0, .ref (ad 7)), (1, .int p0)]) [0, 1] rfl ?_
  refine g_aload_n (pc := 0) C dX1_writeAddress_0 rfl 0 rfl ?_
  refine gc_7_3 (pc := 1) C wk_160 dX1_writeAddress_1 (fun z7 => ?_)
  refine g_if_ne (pc := 4) C 30 dX1_writeAddress_4 (by decide) (fun c8 => ?_) (fun c8 => ?_)
  · refine g_aload_n (pc := 30) C dX1_writeAddress_30 rfl 0 rfl ?_
    refine g_iconst (pc := 31) C 0 dX1_writeAddress_31 (by decide) ?_
    refine pc_7_3 (pc := 32) C wk_160 (zi_c 0 (a := 0) (b := 1) (by decide)) dX1_writeAddress_32 ?_
    refine g_aload_n (pc := 35) C dX1_writeAddress_35 rfl 0 rfl ?_
    refine g_aload_n (pc := 36) C dX1_writeAddress_36 rfl 0 rfl ?_
    refine gc_7_1 (pc := 37) C wk_156 dX1_writeAddress_37 (fun z9 => ?_)
    refine g_ldc (pc := 40) C dX1_writeAddress_40 (C.wd wk_337) ?_
    refine g_iand (pc := 42) C dX1_writeAddress_42 (fun z10 ez10 => ?_)
    have hz10 : zI 0 65280 z10 := zi_and1 (zi_c 65280 (a := 0) (b := 65280) (by decide)) ez10
    refine g_iload_n (pc := 43) C dX1_writeAddress_43 rfl 1 rfl ?_
    refine g_ior (pc := 44) C dX1_writeAddress_44 (fun z11 ez11 => ?_)
    refine pc_7_1 (pc := 45) C wk_156 dX1_writeAddress_45 ?_
    refine g_aload_n (pc := 48) C dX1_writeAddress_48 rfl 0 rfl ?_
    refine g_aload_n (pc := 49) C dX1_writeAddress_49 rfl 0 rfl ?_
    refine gc_7_1 (pc := 50) C wk_156 dX1_writeAddress_50 (fun z12 => ?_)
    refine g_sipush (pc := 53) C 8192 dX1_writeAddress_53 (by decide) ?_
    refine g_icmp_ge (pc := 56) C 73 dX1_writeAddress_56 (by decide) (fun c13 => ?_) (fun c13 => ?_)
    · have h14 : zI 8192 2147483647 z12 := zr_le2 (zc_le c13) (zi_c 8192 (a := 8192) (b := 8192) (by decide)) (zi_full z12) (by decide)
      refine g_iconst (pc := 73) C 0 dX1_writeAddress_73 (by decide) ?_
      exact g_sub [0, 1] rfl (J74 0 (zi_c 0 (a := 0) (b := 255) (by decide)))
    · have h15 : zI (-2147483648) 8191 z12 := zr_lt1 (zc_nle c13) (zi_full z12) (zi_c 8192 (a := 8192) (b := 8192) (by decide)) (by decide)
      refine g_aload_n (pc := 59) C dX1_writeAddress_59 rfl 0 rfl ?_
      refine gc_7_0 (pc := 60) C wk_154 dX1_writeAddress_60 ?_
      refine g_aload_n (pc := 63) C dX1_writeAddress_63 rfl 0 rfl ?_
      refine gc_7_1 (pc := 64) C wk_156 dX1_writeAddress_64 (fun z16 => ?_)
      refine zcallVi (pc := 67) (st := [.ref (ad 7)]) C C.2.2.2.2.2 (n_X0_get_gb l D ad cy tl A z16) (cwV 1 C.2.2.2.2.1 gw_RX1_27 rfl rfl rfl cd_X0_get ⟨Nat.le_of_ble_eq_true rfl, Nat.le_of_ble_eq_true rfl⟩) (hc_8 C) rfl rfl (Nat.le_of_ble_eq_true rfl) ⟨Nat.le_of_ble_eq_true rfl, Nat.le_of_ble_eq_true rfl⟩ dX1_writeAddress_67 (fun r17 => ?_)
      refine g_and (M2 := (zMc D A ad cy tl)) (fun hr17 => ?_)
      refine g_goto (pc := 70) C 74 dX1_writeAddress_70 (by decide) ?_
      exact g_sub [0, 1] rfl (J74 r17 hr17)
  · have h18 : zI 0 0 z7 := zr_eq c8 (zi_full z7) (zi_c 0 (a := 0) (b := 0) (by decide)) (by decide)
    refine g_aload_n (pc := 7) C dX1_writeAddress_7 rfl 0 rfl ?_
    refine g_iconst (pc := 8) C 1 dX1_writeAddress_8 (by decide) ?_
    refine pc_7_3 (pc := 9) C wk_160 (zi_c 1 (a := 0) (b := 1) (by decide)) dX1_writeAddress_9 ?_
    refine g_aload_n (pc := 12) C dX1_writeAddress_12 rfl 0 rfl ?_
    refine g_iload_n (pc := 13) C dX1_writeAddress_13 rfl 1 rfl ?_
    refine g_bipush (pc := 14) C 8 dX1_writeAddress_14 (by decide) ?_
    refine g_ishl (pc := 16) C dX1_writeAddress_16 (fun z19 ez19 => ?_)
    refine g_aload_n (pc := 17) C dX1_writeAddress_17 rfl 0 rfl ?_
    refine gc_7_1 (pc := 18) C wk_156 dX1_writeAddress_18 (fun z20 => ?_)
    refine g_sipush (pc := 21) C 255 dX1_writeAddress_21 (by decide) ?_
    refine g_iand (pc := 24) C dX1_writeAddress_24 (fun z21 ez21 => ?_)
    have hz21 : zI 0 255 z21 := zi_and1 (zi_c 255 (a := 0) (b := 255) (by decide)) ez21
    refine g_ior (pc := 25) C dX1_writeAddress_25 (fun z22 ez22 => ?_)
    refine pc_7_1 (pc := 26) C wk_156 dX1_writeAddress_26 ?_
    exact g_return r dX1_writeAddress_29 (fun _ h => h)

set_option maxHeartbeats 2000000 in
set_option maxRecDepth 100000 in
theorem n_X5_exists (l : Launch) (D : va_G) (ad : Nat → Nat) (cy : Nat → ClassId) (tl : Int32) (A : Nat → Prop) (p0 : Int32) : zMi l yX5_exists wz_X5_exists ({ frames := 0, cells := 0, slots := 0, locals := 0 }) [.int p0] D (zTc cy) A (zMc D A ad cy tl) (fun r H => zI 0 1 r ∧ (zMc D A ad cy tl) H) := by
  refine zstart_i (cc := cX5_exists) (maxL := 1) (ty := .boolean) (own := RX5) (by decide) rfl rfl (Nat.le_of_ble_eq_true rfl) (fun p e s m args below meth c Q C r => ?_)
  have J16 : ∀ (b0_16 : Int32) (_ : zI 0 1 b0_16), zG p l e ({ frames := 0, cells := 0, slots := 0, locals := 0 }) s m args below meth c 1 0 0 A Q (zMc D A ad cy tl) 16 [(0, .int p0)] [.int b0_16] := by
    intro b0_16 hb0_16
    exact g_ireturn r dX5_exists_16 (zn_bool hb0_16) (fun _ h => ⟨hb0_16, h⟩)
  have J15 : zG p l e ({ frames := 0, cells := 0, slots := 0, locals := 0 }) s m args below meth c 1 0 0 A Q (zMc D A ad cy tl) 15 [(0, .int p0)] [] := by
    refine g_iconst (pc := 15) C 0 dX5_exists_15 (by decide) ?_
    exact g_sub [0] rfl (J16 0 (zi_c 0 (a := 0) (b := 1) (by decide)))
  refine g_sub (lv' := [(0, .int p0)]) [0] rfl ?_
  refine g_iload_n (pc := 0) C dX5_exists_0 rfl 0 rfl ?_
  refine g_if_lt (pc := 1) C 15 dX5_exists_1 (by decide) (fun c1 => ?_) (fun c1 => ?_)
  · have h2 : zI (-2147483648) (-1) p0 := zr_lt1 (zc_lt c1) (zi_full p0) (zi_c 0 (a := 0) (b := 0) (by decide)) (by decide)
    exact g_sub [0] rfl (J15 )
  · have h3 : zI 0 2147483647 p0 := zr_le2 (zc_nlt c1) (zi_c 0 (a := 0) (b := 0) (by decide)) (zi_full p0) (by decide)
    refine g_iload_n (pc := 4) C dX5_exists_4 rfl 0 rfl ?_
    refine g_sipush (pc := 5) C 4095 dX5_exists_5 (by decide) ?_
    refine g_icmp_gt (pc := 8) C 15 dX5_exists_8 (by decide) (fun c4 => ?_) (fun c4 => ?_)
    · have h5 : zI 4096 2147483647 p0 := zr_lt2 (zc_lt c4) (zi_c 4095 (a := 4095) (b := 4095) (by decide)) h3 (by decide)
      exact g_sub [0] rfl (J15 )
    · have h6 : zI 0 4095 p0 := zr_le1 (zc_nlt c4) h3 (zi_c 4095 (a := 4095) (b := 4095) (by decide)) (by decide)
      refine g_iconst (pc := 11) C 1 dX5_exists_11 (by decide) ?_
      refine g_goto (pc := 12) C 16 dX5_exists_12 (by decide) ?_
      exact g_sub [0] rfl (J16 1 (zi_c 1 (a := 0) (b := 1) (by decide)))

set_option maxHeartbeats 2000000 in
set_option maxRecDepth 100000 in
theorem n_X5_sent (l : Launch) (D : va_G) (ad : Nat → Nat) (cy : Nat → ClassId) (tl : Int32) (A : Nat → Prop) (p0 : Int32) : zMi l yX5_sent wz_X5_sent ({ frames := 0, cells := 0, slots := 0, locals := 0 }) [.ref (ad 10), .int p0] D (zTc cy) A (zMc D A ad cy tl) (fun _ => (zMc D A ad cy tl)) := by
  refine zstart_i (cc := cX5_sent) (maxL := 2) (ty := .int) (own := RX5) (by decide) rfl rfl (Nat.le_of_ble_eq_true rfl) (fun p e s m args below meth c Q C r => ?_)
  refine g_sub (lv' := [(0, .ref (ad 10)), (1, .int p0)]) [0, 1] rfl ?_
  refine g_aload_n (pc := 0) C dX5_sent_0 rfl 0 rfl ?_
  refine gc_10_1 (pc := 1) C wk_178 dX5_sent_1 ?_
  refine g_iload_n (pc := 4) C dX5_sent_4 rfl 1 rfl ?_
  refine g_sipush (pc := 5) C 4095 dX5_sent_5 (by decide) ?_
  refine g_iand (pc := 8) C dX5_sent_8 (fun z1 ez1 => ?_)
  have hz1 : zI 0 4095 z1 := zi_and1 (zi_c 4095 (a := 0) (b := 4095) (by decide)) ez1
  refine g_bipush (pc := 9) C 6 dX5_sent_9 (by decide) ?_
  refine g_ishr (pc := 11) C dX5_sent_11 (fun z2 ez2 => ?_)
  have hz2 : zI 0 63 z2 := zi_shr 6 hz1 (by decide) ez2 (by decide)
  refine lc_11 (pc := 12) C (zi_in hz2 (by decide)) dX5_sent_12 (fun z3 => ?_)
  refine g_iload_n (pc := 13) C dX5_sent_13 rfl 1 rfl ?_
  refine g_bipush (pc := 14) C 63 dX5_sent_14 (by decide) ?_
  refine g_iand (pc := 16) C dX5_sent_16 (fun z4 ez4 => ?_)
  have hz4 : zI 0 63 z4 := zi_and1 (zi_c 63 (a := 0) (b := 63) (by decide)) ez4
  refine g_lushr (pc := 17) C dX5_sent_17 (fun z5 ez5 => ?_)
  refine g_l2i (pc := 18) C dX5_sent_18 (fun z6 ez6 => ?_)
  refine g_iconst (pc := 19) C 1 dX5_sent_19 (by decide) ?_
  refine g_iand (pc := 20) C dX5_sent_20 (fun z7 ez7 => ?_)
  have hz7 : zI 0 1 z7 := zi_and1 (zi_c 1 (a := 0) (b := 1) (by decide)) ez7
  exact g_ireturn r dX5_sent_21 rfl (fun _ h => h)

set_option maxHeartbeats 2000000 in
set_option maxRecDepth 100000 in
theorem n_X5_send (l : Launch) (D : va_G) (ad : Nat → Nat) (cy : Nat → ClassId) (tl : Int32) (A : Nat → Prop) (p0 : Int32) (p1 : Int32) : zMv l yX5_send wz_X5_send ({ frames := 0, cells := 0, slots := 0, locals := 0 }) [.ref (ad 10), .int p0, .int p1] D (zTc cy) A (zMc D A ad cy tl) (zMc D A ad cy tl) := by
  refine zstart_v (cc := cX5_send) (maxL := 6) (own := RX5) (by decide) rfl rfl (Nat.le_of_ble_eq_true rfl) (fun p e s m args below meth c Q C r => ?_)
  have J54 : ∀ (a3_54 : Int32) (a4_54 : Int64) (b0_54 : Int64) (b1_54 : Int32) (_ : zI 0 63 a3_54) (_ : zI 0 63 b1_54), zG p l e ({ frames := 0, cells := 0, slots := 0, locals := 0 }) s m args below meth c 6 0 0 A Q (zMc D A ad cy tl) 54 [(0, .ref (ad 10)), (1, .int p0), (2, .int p1), (3, .int a3_54), (4, .long a4_54)] [.long b0_54, .int b1_54, .ref (ad 11)] := by
    intro a3_54 a4_54 b0_54 b1_54 ha3_54 hb1_54
    refine sc_11 (pc := 54) C (zi_in hb1_54 (by decide)) dX5_send_54 ?_
    exact g_return r dX5_send_55 (fun _ h => h)
  refine g_sub (lv' := [(0, .ref (ad 10)), (1, .int p0), (2, .int p1)]) [0, 1, 2] rfl ?_
  refine g_iload_n (pc := 0) C dX5_send_0 rfl 1 rfl ?_
  refine g_sipush (pc := 1) C 4095 dX5_send_1 (by decide) ?_
  refine g_iand (pc := 4) C dX5_send_4 (fun z1 ez1 => ?_)
  have hz1 : zI 0 4095 z1 := zi_and1 (zi_c 4095 (a := 0) (b := 4095) (by decide)) ez1
  refine g_bipush (pc := 5) C 6 dX5_send_5 (by decide) ?_
  refine g_ishr (pc := 7) C dX5_send_7 (fun z2 ez2 => ?_)
  have hz2 : zI 0 63 z2 := zi_shr 6 hz1 (by decide) ez2 (by decide)
  refine g_istore_n (pc := 8) C ([(3, .int z2), (0, .ref (ad 10)), (1, .int p0), (2, .int p1)]) dX5_send_8 rfl (Nat.le_of_ble_eq_true rfl) rfl ?_
  refine g_lconst (pc := 9) C 1 dX5_send_9 (by decide) ?_
  refine g_iload_n (pc := 10) C dX5_send_10 rfl 2 rfl ?_
  refine g_bipush (pc := 11) C 63 dX5_send_11 (by decide) ?_
  refine g_iand (pc := 13) C dX5_send_13 (fun z3 ez3 => ?_)
  have hz3 : zI 0 63 z3 := zi_and1 (zi_c 63 (a := 0) (b := 63) (by decide)) ez3
  refine g_lshl (pc := 14) C dX5_send_14 (fun z4 ez4 => ?_)
  refine g_lstore (pc := 15) C ([(4, .long z4), (3, .int z2), (0, .ref (ad 10)), (1, .int p0), (2, .int p1)]) dX5_send_15 (Nat.le_of_ble_eq_true rfl) rfl ?_
  refine g_aload_n (pc := 17) C dX5_send_17 rfl 2 rfl ?_
  refine gc_10_1 (pc := 18) C wk_178 dX5_send_18 ?_
  refine g_iload_n (pc := 21) C dX5_send_21 rfl 1 rfl ?_
  refine g_iload_n (pc := 22) C dX5_send_22 rfl 4 rfl ?_
  refine g_iconst (pc := 23) C 1 dX5_send_23 (by decide) ?_
  refine g_iand (pc := 24) C dX5_send_24 (fun z5 ez5 => ?_)
  have hz5 : zI 0 1 z5 := zi_and1 (zi_c 1 (a := 0) (b := 1) (by decide)) ez5
  refine g_iconst (pc := 25) C 1 dX5_send_25 (by decide) ?_
  refine g_icmp_ne (pc := 26) C 41 dX5_send_26 (by decide) (fun c6 => ?_) (fun c6 => ?_)
  · have h7 : zI 0 0 z5 := zr_neH c6 hz5 (zi_c 1 (a := 1) (b := 1) (by decide)) (by decide)
    refine g_aload_n (pc := 41) C dX5_send_41 rfl 2 rfl ?_
    refine gc_10_1 (pc := 42) C wk_178 dX5_send_42 ?_
    refine g_iload_n (pc := 45) C dX5_send_45 rfl 1 rfl ?_
    refine lc_11 (pc := 46) C (zi_in hz2 (by decide)) dX5_send_46 (fun z8 => ?_)
    refine g_lload (pc := 47) C dX5_send_47 0 rfl ?_
    refine g_ldc2_w (pc := 49) C dX5_send_49 (C.wd wk_425) ?_
    refine g_lxor (pc := 52) C dX5_send_52 (fun z9 ez9 => ?_)
    refine g_land (pc := 53) C dX5_send_53 (fun z10 ez10 => ?_)
    exact g_sub [2, 3, 4, 1, 0] rfl (J54 z2 z4 z10 z2 hz2 hz2)
  · have h11 : zI 1 1 z5 := zr_eq c6 hz5 (zi_c 1 (a := 1) (b := 1) (by decide)) (by decide)
    refine g_aload_n (pc := 29) C dX5_send_29 rfl 2 rfl ?_
    refine gc_10_1 (pc := 30) C wk_178 dX5_send_30 ?_
    refine g_iload_n (pc := 33) C dX5_send_33 rfl 1 rfl ?_
    refine lc_11 (pc := 34) C (zi_in hz2 (by decide)) dX5_send_34 (fun z12 => ?_)
    refine g_lload (pc := 35) C dX5_send_35 0 rfl ?_
    refine g_lor (pc := 37) C dX5_send_37 (fun z13 ez13 => ?_)
    refine g_goto (pc := 38) C 54 dX5_send_38 (by decide) ?_
    exact g_sub [2, 3, 4, 1, 0] rfl (J54 z2 z4 z13 z2 hz2 hz2)

set_option maxHeartbeats 2000000 in
set_option maxRecDepth 100000 in
theorem n_X5_coming (l : Launch) (D : va_G) (ad : Nat → Nat) (cy : Nat → ClassId) (tl : Int32) (A : Nat → Prop) (p0 : Int32) : zMi l yX5_coming wz_X5_coming ({ frames := 1, cells := 0, slots := 0, locals := 21 }) [.ref (ad 10), .int p0] D (zTc cy) A (zMc D A ad cy tl) (fun _ => (zMc D A ad cy tl)) := by
  refine zstart_i (cc := cX5_coming) (maxL := 3) (ty := .int) (own := RX5) (by decide) rfl rfl (Nat.le_of_ble_eq_true rfl) (fun p e s m args below meth c Q C r => ?_)
  have J20 : ∀ (b0_20 : Int32) (_ : zI 2 2 p0) (_ : zI 0 1 b0_20), zG p l e ({ frames := 1, cells := 0, slots := 0, locals := 21 }) s m args below meth c 3 0 0 A Q (zMc D A ad cy tl) 20 [(0, .ref (ad 10)), (1, .int p0)] [.int b0_20] := by
    intro b0_20 hc_a1_20 hb0_20
    exact g_ireturn r dX5_coming_20 rfl (fun _ h => h)
  have J32 : zG p l e ({ frames := 1, cells := 0, slots := 0, locals := 21 }) s m args below meth c 3 0 0 A Q (zMc D A ad cy tl) 32 [(0, .ref (ad 10)), (1, .int p0)] [] := by
    refine g_aload_n (pc := 32) C dX5_coming_32 rfl 0 rfl ?_
    refine g_iload_n (pc := 33) C dX5_coming_33 rfl 1 rfl ?_
    refine zcallVi (pc := 34) (st := []) C C.2.2.2.2.2 (n_X5_sent l D ad cy tl A p0) (cwV 1 C.2.2.2.2.1 gw_RX5_25 rfl rfl rfl cd_X5_sent ⟨Nat.le_of_ble_eq_true rfl, Nat.le_of_ble_eq_true rfl⟩) (hc_10 C) rfl rfl (Nat.le_of_ble_eq_true rfl) ⟨Nat.le_of_ble_eq_true rfl, Nat.le_of_ble_eq_true rfl⟩ dX5_coming_34 (fun r1 => ?_)
    exact g_ireturn r dX5_coming_37 rfl (fun _ h => h)
  have J88 : ∀ (a2_88 : Int32) (b0_88 : Int32) (_ : zI 3 10 p0) (_ : zI 0 1 b0_88), zG p l e ({ frames := 1, cells := 0, slots := 0, locals := 21 }) s m args below meth c 3 0 0 A Q (zMc D A ad cy tl) 88 [(0, .ref (ad 10)), (1, .int p0), (2, .int a2_88)] [.int b0_88] := by
    intro a2_88 b0_88 hc_a1_88 hb0_88
    exact g_ireturn r dX5_coming_88 rfl (fun _ h => h)
  refine g_sub (lv' := [(0, .ref (ad 10)), (1, .int p0)]) [0, 1] rfl ?_
  refine g_iload_n (pc := 0) C dX5_coming_0 rfl 1 rfl ?_
  refine g_iconst (pc := 1) C 2 dX5_coming_1 (by decide) ?_
  refine g_icmp_ne (pc := 2) C 21 dX5_coming_2 (by decide) (fun c2 => ?_) (fun c2 => ?_)
  · refine g_iload_n (pc := 21) C dX5_coming_21 rfl 1 rfl ?_
    refine g_iconst (pc := 22) C 3 dX5_coming_22 (by decide) ?_
    refine g_icmp_lt (pc := 23) C 32 dX5_coming_23 (by decide) (fun c3 => ?_) (fun c3 => ?_)
    · have h4 : zI (-2147483648) 2 p0 := zr_lt1 (zc_lt c3) (zi_full p0) (zi_c 3 (a := 3) (b := 3) (by decide)) (by decide)
      exact g_sub [0, 1] rfl (J32 )
    · have h5 : zI 3 2147483647 p0 := zr_le2 (zc_nlt c3) (zi_c 3 (a := 3) (b := 3) (by decide)) (zi_full p0) (by decide)
      refine g_iload_n (pc := 26) C dX5_coming_26 rfl 1 rfl ?_
      refine g_bipush (pc := 27) C 10 dX5_coming_27 (by decide) ?_
      refine g_icmp_le (pc := 29) C 38 dX5_coming_29 (by decide) (fun c6 => ?_) (fun c6 => ?_)
      · have h7 : zI 3 10 p0 := zr_le1 (zc_le c6) h5 (zi_c 10 (a := 10) (b := 10) (by decide)) (by decide)
        refine g_aload_n (pc := 38) C dX5_coming_38 rfl 0 rfl ?_
        refine g_bipush (pc := 39) C 18 dX5_coming_39 (by decide) ?_
        refine zcallVi (pc := 41) (st := []) C C.2.2.2.2.2 (n_X5_sent l D ad cy tl A 18) (cwV 1 C.2.2.2.2.1 gw_RX5_25 rfl rfl rfl cd_X5_sent ⟨Nat.le_of_ble_eq_true rfl, Nat.le_of_ble_eq_true rfl⟩) (hc_10 C) rfl rfl (Nat.le_of_ble_eq_true rfl) ⟨Nat.le_of_ble_eq_true rfl, Nat.le_of_ble_eq_true rfl⟩ dX5_coming_41 (fun r8 => ?_)
        refine g_iconst (pc := 44) C 2 dX5_coming_44 (by decide) ?_
        refine g_aload_n (pc := 45) C dX5_coming_45 rfl 0 rfl ?_
        refine g_bipush (pc := 46) C 19 dX5_coming_46 (by decide) ?_
        refine zcallVi (pc := 48) (st := [.int 2, .int r8]) C C.2.2.2.2.2 (n_X5_sent l D ad cy tl A 19) (cwV 1 C.2.2.2.2.1 gw_RX5_25 rfl rfl rfl cd_X5_sent ⟨Nat.le_of_ble_eq_true rfl, Nat.le_of_ble_eq_true rfl⟩) (hc_10 C) rfl rfl (Nat.le_of_ble_eq_true rfl) ⟨Nat.le_of_ble_eq_true rfl, Nat.le_of_ble_eq_true rfl⟩ dX5_coming_48 (fun r9 => ?_)
        refine g_imul (pc := 51) C dX5_coming_51 (fun z10 ez10 => ?_)
        refine g_iadd (pc := 52) C dX5_coming_52 (fun z11 ez11 => ?_)
        refine g_iconst (pc := 53) C 4 dX5_coming_53 (by decide) ?_
        refine g_aload_n (pc := 54) C dX5_coming_54 rfl 0 rfl ?_
        refine g_bipush (pc := 55) C 20 dX5_coming_55 (by decide) ?_
        refine zcallVi (pc := 57) (st := [.int 4, .int z11]) C C.2.2.2.2.2 (n_X5_sent l D ad cy tl A 20) (cwV 1 C.2.2.2.2.1 gw_RX5_25 rfl rfl rfl cd_X5_sent ⟨Nat.le_of_ble_eq_true rfl, Nat.le_of_ble_eq_true rfl⟩) (hc_10 C) rfl rfl (Nat.le_of_ble_eq_true rfl) ⟨Nat.le_of_ble_eq_true rfl, Nat.le_of_ble_eq_true rfl⟩ dX5_coming_57 (fun r12 => ?_)
        refine g_imul (pc := 60) C dX5_coming_60 (fun z13 ez13 => ?_)
        refine g_iadd (pc := 61) C dX5_coming_61 (fun z14 ez14 => ?_)
        refine g_istore_n (pc := 62) C ([(2, .int z14), (0, .ref (ad 10)), (1, .int p0)]) dX5_coming_62 rfl (Nat.le_of_ble_eq_true rfl) rfl ?_
        refine g_aload_n (pc := 63) C dX5_coming_63 rfl 1 rfl ?_
        refine gc_10_2 (pc := 64) C wk_179 dX5_coming_64 (fun z15 => ?_)
        refine g_bipush (pc := 67) C 8 dX5_coming_67 (by decide) ?_
        refine g_iload_n (pc := 69) C dX5_coming_69 rfl 0 rfl ?_
        refine g_imul (pc := 70) C dX5_coming_70 (fun z16 ez16 => ?_)
        refine g_iload_n (pc := 71) C dX5_coming_71 rfl 2 rfl ?_
        refine g_iadd (pc := 72) C dX5_coming_72 (fun z17 ez17 => ?_)
        refine g_iconst (pc := 73) C 3 dX5_coming_73 (by decide) ?_
        refine g_isub (pc := 74) C dX5_coming_74 (fun z18 ez18 => ?_)
        refine g_lushr (pc := 75) C dX5_coming_75 (fun z19 ez19 => ?_)
        refine g_lconst (pc := 76) C 1 dX5_coming_76 (by decide) ?_
        refine g_land (pc := 77) C dX5_coming_77 (fun z20 ez20 => ?_)
        refine g_lconst (pc := 78) C 1 dX5_coming_78 (by decide) ?_
        refine g_lcmp (pc := 79) C dX5_coming_79 (fun z21 ez21 => ?_)
        refine g_if_ne (pc := 80) C 87 dX5_coming_80 (by decide) (fun c22 => ?_) (fun c22 => ?_)
        · refine g_iconst (pc := 87) C 1 dX5_coming_87 (by decide) ?_
          exact g_sub [1, 2, 0] rfl (J88 z14 1 h7 (zi_c 1 (a := 0) (b := 1) (by decide)))
        · have h23 : zI 0 0 z21 := zr_eq c22 (zi_full z21) (zi_c 0 (a := 0) (b := 0) (by decide)) (by decide)
          refine g_iconst (pc := 83) C 0 dX5_coming_83 (by decide) ?_
          refine g_goto (pc := 84) C 88 dX5_coming_84 (by decide) ?_
          exact g_sub [1, 2, 0] rfl (J88 z14 0 h7 (zi_c 0 (a := 0) (b := 1) (by decide)))
      · have h24 : zI 11 2147483647 p0 := zr_lt2 (zc_nle c6) (zi_c 10 (a := 10) (b := 10) (by decide)) h5 (by decide)
        exact g_sub [0, 1] rfl (J32 )
  · have h25 : zI 2 2 p0 := zr_eq c2 (zi_full p0) (zi_c 2 (a := 2) (b := 2) (by decide)) (by decide)
    refine g_aload_n (pc := 5) C dX5_coming_5 rfl 0 rfl ?_
    refine gc_10_0 (pc := 6) C wk_177 dX5_coming_6 ?_
    refine gc_3_5 (pc := 9) C wk_131 dX5_coming_9 (fun z26 => ?_)
    refine g_if_eq (pc := 12) C 19 dX5_coming_12 (by decide) (fun c27 => ?_) (fun c27 => ?_)
    · have h28 : zI 0 0 z26 := zr_eq c27 (zi_full z26) (zi_c 0 (a := 0) (b := 0) (by decide)) (by decide)
      refine g_iconst (pc := 19) C 1 dX5_coming_19 (by decide) ?_
      exact g_sub [0, 1] rfl (J20 1 h25 (zi_c 1 (a := 0) (b := 1) (by decide)))
    · refine g_iconst (pc := 15) C 0 dX5_coming_15 (by decide) ?_
      refine g_goto (pc := 16) C 20 dX5_coming_16 (by decide) ?_
      exact g_sub [0, 1] rfl (J20 0 h25 (zi_c 0 (a := 0) (b := 1) (by decide)))

set_option maxHeartbeats 2000000 in
set_option maxRecDepth 100000 in
theorem n_X5_press (l : Launch) (D : va_G) (ad : Nat → Nat) (cy : Nat → ClassId) (tl : Int32) (A : Nat → Prop) (p0 : Int32) (p1 : Int32) (p2 : Int32) : zMv l yX5_press wz_X5_press ({ frames := 0, cells := 0, slots := 0, locals := 0 }) [.ref (ad 10), .int p0, .int p1, .int p2] D (zTc cy) A (zMc D A ad cy tl) (zMc D A ad cy tl) := by
  refine zstart_v (cc := cX5_press) (maxL := 6) (own := RX5) (by decide) rfl rfl (Nat.le_of_ble_eq_true rfl) (fun p e s m args below meth c Q C r => ?_)
  have J36 : ∀ (a4_36 : Int64) (b0_36 : Int64), zG p l e ({ frames := 0, cells := 0, slots := 0, locals := 0 }) s m args below meth c 6 0 0 A Q (zMc D A ad cy tl) 36 [(0, .ref (ad 10)), (1, .int p0), (2, .int p1), (3, .int p2), (4, .long a4_36)] [.long b0_36, .ref (ad 10)] := by
    intro a4_36 b0_36
    refine pc_10_2 (pc := 36) C wk_179 dX5_press_36 ?_
    exact g_return r dX5_press_39 (fun _ h => h)
  refine g_sub (lv' := [(0, .ref (ad 10)), (1, .int p0), (2, .int p1), (3, .int p2)]) [0, 1, 2, 3] rfl ?_
  refine g_lconst (pc := 0) C 1 dX5_press_0 (by decide) ?_
  refine g_bipush (pc := 1) C 8 dX5_press_1 (by decide) ?_
  refine g_iload_n (pc := 3) C dX5_press_3 rfl 1 rfl ?_
  refine g_imul (pc := 4) C dX5_press_4 (fun z1 ez1 => ?_)
  refine g_iload_n (pc := 5) C dX5_press_5 rfl 2 rfl ?_
  refine g_iadd (pc := 6) C dX5_press_6 (fun z2 ez2 => ?_)
  refine g_lshl (pc := 7) C dX5_press_7 (fun z3 ez3 => ?_)
  refine g_lstore (pc := 8) C ([(4, .long z3), (0, .ref (ad 10)), (1, .int p0), (2, .int p1), (3, .int p2)]) dX5_press_8 (Nat.le_of_ble_eq_true rfl) rfl ?_
  refine g_aload_n (pc := 10) C dX5_press_10 rfl 1 rfl ?_
  refine g_iload_n (pc := 11) C dX5_press_11 rfl 4 rfl ?_
  refine g_if_eq (pc := 12) C 25 dX5_press_12 (by decide) (fun c4 => ?_) (fun c4 => ?_)
  · have h5 : zI 0 0 p2 := zr_eq c4 (zi_full p2) (zi_c 0 (a := 0) (b := 0) (by decide)) (by decide)
    refine g_aload_n (pc := 25) C dX5_press_25 rfl 1 rfl ?_
    refine gc_10_2 (pc := 26) C wk_179 dX5_press_26 (fun z6 => ?_)
    refine g_lload (pc := 29) C dX5_press_29 0 rfl ?_
    refine g_ldc2_w (pc := 31) C dX5_press_31 (C.wd wk_425) ?_
    refine g_lxor (pc := 34) C dX5_press_34 (fun z7 ez7 => ?_)
    refine g_land (pc := 35) C dX5_press_35 (fun z8 ez8 => ?_)
    exact g_sub [1, 2, 3, 4, 0] rfl (J36 z3 z8)
  · refine g_aload_n (pc := 15) C dX5_press_15 rfl 1 rfl ?_
    refine gc_10_2 (pc := 16) C wk_179 dX5_press_16 (fun z9 => ?_)
    refine g_lload (pc := 19) C dX5_press_19 0 rfl ?_
    refine g_lor (pc := 21) C dX5_press_21 (fun z10 ez10 => ?_)
    refine g_goto (pc := 22) C 36 dX5_press_22 (by decide) ?_
    exact g_sub [1, 2, 3, 4, 0] rfl (J36 z3 z10)

set_option maxHeartbeats 2000000 in
set_option maxRecDepth 100000 in
theorem n_X2_storedAt (l : Launch) (D : va_G) (ad : Nat → Nat) (cy : Nat → ClassId) (tl : Int32) (A : Nat → Prop) (p0 : Int32) : zMi l yX2_storedAt wz_X2_storedAt ({ frames := 1, cells := 0, slots := 0, locals := 22 }) [.ref (ad 12), .int p0] D (zTc cy) A (zMc D A ad cy tl) (fun _ => (zMc D A ad cy tl)) := by
  refine zstart_i (cc := cX2_storedAt) (maxL := 2) (ty := .int) (own := RX2) (by decide) rfl rfl (Nat.le_of_ble_eq_true rfl) (fun p e s m args below meth c Q C r => ?_)
  have J82 : ∀ (b0_82 : Int32) (_ : zI 16384 40959 p0) (_ : zI 0 255 b0_82), zG p l e ({ frames := 1, cells := 0, slots := 0, locals := 22 }) s m args below meth c 2 0 0 A Q (zMc D A ad cy tl) 82 [(0, .ref (ad 12)), (1, .int p0)] [.int b0_82] := by
    intro b0_82 hc_a1_82 hb0_82
    exact g_ireturn r dX2_storedAt_82 rfl (fun _ h => h)
  have J81 : ∀ (_ : zI 16384 40959 p0), zG p l e ({ frames := 1, cells := 0, slots := 0, locals := 22 }) s m args below meth c 2 0 0 A Q (zMc D A ad cy tl) 81 [(0, .ref (ad 12)), (1, .int p0)] [] := by
    intro hc_a1_81
    refine g_iconst (pc := 81) C 0 dX2_storedAt_81 (by decide) ?_
    exact g_sub [0, 1] rfl (J82 0 hc_a1_81 (zi_c 0 (a := 0) (b := 255) (by decide)))
  refine g_sub (lv' := [(0, .ref (ad 12)), (1, .int p0)]) [0, 1] rfl ?_
  refine g_iload_n (pc := 0) C dX2_storedAt_0 rfl 1 rfl ?_
  refine g_sipush (pc := 1) C 8192 dX2_storedAt_1 (by decide) ?_
  refine g_icmp_ge (pc := 4) C 16 dX2_storedAt_4 (by decide) (fun c1 => ?_) (fun c1 => ?_)
  · have h2 : zI 8192 2147483647 p0 := zr_le2 (zc_le c1) (zi_c 8192 (a := 8192) (b := 8192) (by decide)) (zi_full p0) (by decide)
    refine g_iload_n (pc := 16) C dX2_storedAt_16 rfl 1 rfl ?_
    refine g_sipush (pc := 17) C 16384 dX2_storedAt_17 (by decide) ?_
    refine g_icmp_ge (pc := 20) C 36 dX2_storedAt_20 (by decide) (fun c3 => ?_) (fun c3 => ?_)
    · have h4 : zI 16384 2147483647 p0 := zr_le2 (zc_le c3) (zi_c 16384 (a := 16384) (b := 16384) (by decide)) h2 (by decide)
      refine g_iload_n (pc := 36) C dX2_storedAt_36 rfl 1 rfl ?_
      refine g_ldc (pc := 37) C dX2_storedAt_37 (C.wd wk_344) ?_
      refine g_icmp_lt (pc := 39) C 54 dX2_storedAt_39 (by decide) (fun c5 => ?_) (fun c5 => ?_)
      · have h6 : zI 16384 40959 p0 := zr_lt1 (zc_lt c5) h4 (zi_c 40960 (a := 40960) (b := 40960) (by decide)) (by decide)
        refine g_iload_n (pc := 54) C dX2_storedAt_54 rfl 1 rfl ?_
        refine g_ldc (pc := 55) C dX2_storedAt_55 (C.wd wk_195) ?_
        refine g_icmp_lt (pc := 57) C 81 dX2_storedAt_57 (by decide) (fun c7 => ?_) (fun c7 => ?_)
        · have h8 : zI 16384 32767 p0 := zr_lt1 (zc_lt c7) h6 (zi_c 32768 (a := 32768) (b := 32768) (by decide)) (by decide)
          exact g_sub [0, 1] rfl (J81 (zi_w h8 (a' := 16384) (b' := 40959) (by decide)))
        · have h9 : zI 32768 40959 p0 := zr_le2 (zc_nlt c7) (zi_c 32768 (a := 32768) (b := 32768) (by decide)) h6 (by decide)
          refine g_iload_n (pc := 60) C dX2_storedAt_60 rfl 1 rfl ?_
          refine g_ldc (pc := 61) C dX2_storedAt_61 (C.wd wk_345) ?_
          refine g_icmp_ge (pc := 63) C 81 dX2_storedAt_63 (by decide) (fun c10 => ?_) (fun c10 => ?_)
          · have h11 : zI 33792 40959 p0 := zr_le2 (zc_le c10) (zi_c 33792 (a := 33792) (b := 33792) (by decide)) h9 (by decide)
            exact g_sub [0, 1] rfl (J81 (zi_w h11 (a' := 16384) (b' := 40959) (by decide)))
          · have h12 : zI 32768 33791 p0 := zr_lt1 (zc_nle c10) h9 (zi_c 33792 (a := 33792) (b := 33792) (by decide)) (by decide)
            refine g_aload_n (pc := 66) C dX2_storedAt_66 rfl 0 rfl ?_
            refine gc_12_2 (pc := 67) C wk_199 dX2_storedAt_67 ?_
            refine g_iload_n (pc := 70) C dX2_storedAt_70 rfl 1 rfl ?_
            refine g_sipush (pc := 71) C 255 dX2_storedAt_71 (by decide) ?_
            refine g_iand (pc := 74) C dX2_storedAt_74 (fun z13 ez13 => ?_)
            have hz13 : zI 0 255 z13 := zi_and1 (zi_c 255 (a := 0) (b := 255) (by decide)) ez13
            refine zcallVi (pc := 75) (st := []) C C.2.2.2.2.2 (n_X0_get_qb l D ad cy tl A z13) (cwV 1 C.2.2.2.2.1 gw_RX2_78 rfl rfl rfl cd_X0_get ⟨Nat.le_of_ble_eq_true rfl, Nat.le_of_ble_eq_true rfl⟩) (hc_17 C) rfl rfl (Nat.le_of_ble_eq_true rfl) ⟨Nat.le_of_ble_eq_true rfl, Nat.le_of_ble_eq_true rfl⟩ dX2_storedAt_75 (fun r14 => ?_)
            refine g_and (M2 := (zMc D A ad cy tl)) (fun hr14 => ?_)
            refine g_goto (pc := 78) C 82 dX2_storedAt_78 (by decide) ?_
            exact g_sub [0, 1] rfl (J82 r14 (zi_w h12 (a' := 16384) (b' := 40959) (by decide)) hr14)
      · have h15 : zI 40960 2147483647 p0 := zr_le2 (zc_nlt c5) (zi_c 40960 (a := 40960) (b := 40960) (by decide)) h4 (by decide)
        refine g_aload_n (pc := 42) C dX2_storedAt_42 rfl 0 rfl ?_
        refine gc_12_1 (pc := 43) C wk_198 dX2_storedAt_43 ?_
        refine g_iload_n (pc := 46) C dX2_storedAt_46 rfl 1 rfl ?_
        refine g_ldc (pc := 47) C dX2_storedAt_47 (C.wd wk_195) ?_
        refine g_isub (pc := 49) C dX2_storedAt_49 (fun z16 ez16 => ?_)
        have hz16 : zI 8192 2147450879 z16 := zi_sub h15 (zi_c 32768 (a := 32768) (b := 32768) (by decide)) ez16 (by decide)
        refine zcallVi (pc := 50) (st := []) C C.2.2.2.2.2 (n_X0_get_mb l D ad cy tl A z16) (cwV 1 C.2.2.2.2.1 gw_RX2_78 rfl rfl rfl cd_X0_get ⟨Nat.le_of_ble_eq_true rfl, Nat.le_of_ble_eq_true rfl⟩) (hc_15 C) rfl rfl (Nat.le_of_ble_eq_true rfl) ⟨Nat.le_of_ble_eq_true rfl, Nat.le_of_ble_eq_true rfl⟩ dX2_storedAt_50 (fun r17 => ?_)
        refine g_and (M2 := (zMc D A ad cy tl)) (fun hr17 => ?_)
        exact g_ireturn r dX2_storedAt_53 rfl (fun _ h => h)
    · have h18 : zI 8192 16383 p0 := zr_lt1 (zc_nle c3) h2 (zi_c 16384 (a := 16384) (b := 16384) (by decide)) (by decide)
      refine g_aload_n (pc := 23) C dX2_storedAt_23 rfl 0 rfl ?_
      refine gc_12_1 (pc := 24) C wk_198 dX2_storedAt_24 ?_
      refine g_iload_n (pc := 27) C dX2_storedAt_27 rfl 1 rfl ?_
      refine g_sipush (pc := 28) C 8192 dX2_storedAt_28 (by decide) ?_
      refine g_isub (pc := 31) C dX2_storedAt_31 (fun z19 ez19 => ?_)
      have hz19 : zI 0 8191 z19 := zi_sub h18 (zi_c 8192 (a := 8192) (b := 8192) (by decide)) ez19 (by decide)
      refine zcallVi (pc := 32) (st := []) C C.2.2.2.2.2 (n_X0_get_mb l D ad cy tl A z19) (cwV 1 C.2.2.2.2.1 gw_RX2_78 rfl rfl rfl cd_X0_get ⟨Nat.le_of_ble_eq_true rfl, Nat.le_of_ble_eq_true rfl⟩) (hc_15 C) rfl rfl (Nat.le_of_ble_eq_true rfl) ⟨Nat.le_of_ble_eq_true rfl, Nat.le_of_ble_eq_true rfl⟩ dX2_storedAt_32 (fun r20 => ?_)
      refine g_and (M2 := (zMc D A ad cy tl)) (fun hr20 => ?_)
      exact g_ireturn r dX2_storedAt_35 rfl (fun _ h => h)
  · have h21 : zI (-2147483648) 8191 p0 := zr_lt1 (zc_nle c1) (zi_full p0) (zi_c 8192 (a := 8192) (b := 8192) (by decide)) (by decide)
    refine g_aload_n (pc := 7) C dX2_storedAt_7 rfl 0 rfl ?_
    refine gc_12_0 (pc := 8) C wk_196 dX2_storedAt_8 ?_
    refine g_iload_n (pc := 11) C dX2_storedAt_11 rfl 1 rfl ?_
    refine zcallVi (pc := 12) (st := []) C C.2.2.2.2.2 (n_X0_get_rb l D ad cy tl A p0) (cwV 1 C.2.2.2.2.1 gw_RX2_78 rfl rfl rfl cd_X0_get ⟨Nat.le_of_ble_eq_true rfl, Nat.le_of_ble_eq_true rfl⟩) (hc_13 C) rfl rfl (Nat.le_of_ble_eq_true rfl) ⟨Nat.le_of_ble_eq_true rfl, Nat.le_of_ble_eq_true rfl⟩ dX2_storedAt_12 (fun r22 => ?_)
    refine g_and (M2 := (zMc D A ad cy tl)) (fun hr22 => ?_)
    exact g_ireturn r dX2_storedAt_15 rfl (fun _ h => h)

set_option maxHeartbeats 2000000 in
set_option maxRecDepth 100000 in
theorem n_X2_store (l : Launch) (D : va_G) (ad : Nat → Nat) (cy : Nat → ClassId) (tl : Int32) (A : Nat → Prop) (p0 : Int32) (p1 : Int32) : zMv l yX2_store wz_X2_store ({ frames := 1, cells := 0, slots := 0, locals := 26 }) [.ref (ad 12), .int p0, .int p1] D (zTc cy) A (zMc D A ad cy tl) (zMc D A ad cy tl) := by
  refine zstart_v (cc := cX2_store) (maxL := 3) (own := RX2) (by decide) rfl rfl (Nat.le_of_ble_eq_true rfl) (fun p e s m args below meth c Q C r => ?_)
  have J76 : zG p l e ({ frames := 1, cells := 0, slots := 0, locals := 26 }) s m args below meth c 3 0 0 A Q (zMc D A ad cy tl) 76 [(0, .ref (ad 12)), (1, .int p0), (2, .int p1)] [] := by
    exact g_return r dX2_store_76 (fun _ h => h)
  have J30 : zG p l e ({ frames := 1, cells := 0, slots := 0, locals := 26 }) s m args below meth c 3 0 0 A Q (zMc D A ad cy tl) 30 [(0, .ref (ad 12)), (1, .int p0), (2, .int p1)] [] := by
    refine g_iload_n (pc := 30) C dX2_store_30 rfl 1 rfl ?_
    refine g_ldc (pc := 31) C dX2_store_31 (C.wd wk_344) ?_
    refine g_icmp_lt (pc := 33) C 51 dX2_store_33 (by decide) (fun c1 => ?_) (fun c1 => ?_)
    · have h2 : zI (-2147483648) 40959 p0 := zr_lt1 (zc_lt c1) (zi_full p0) (zi_c 40960 (a := 40960) (b := 40960) (by decide)) (by decide)
      refine g_iload_n (pc := 51) C dX2_store_51 rfl 1 rfl ?_
      refine g_ldc (pc := 52) C dX2_store_52 (C.wd wk_195) ?_
      refine g_icmp_lt (pc := 54) C 76 dX2_store_54 (by decide) (fun c3 => ?_) (fun c3 => ?_)
      · have h4 : zI (-2147483648) 32767 p0 := zr_lt1 (zc_lt c3) h2 (zi_c 32768 (a := 32768) (b := 32768) (by decide)) (by decide)
        exact g_sub [0, 1, 2] rfl (J76 )
      · have h5 : zI 32768 40959 p0 := zr_le2 (zc_nlt c3) (zi_c 32768 (a := 32768) (b := 32768) (by decide)) h2 (by decide)
        refine g_iload_n (pc := 57) C dX2_store_57 rfl 1 rfl ?_
        refine g_ldc (pc := 58) C dX2_store_58 (C.wd wk_345) ?_
        refine g_icmp_ge (pc := 60) C 76 dX2_store_60 (by decide) (fun c6 => ?_) (fun c6 => ?_)
        · have h7 : zI 33792 40959 p0 := zr_le2 (zc_le c6) (zi_c 33792 (a := 33792) (b := 33792) (by decide)) h5 (by decide)
          exact g_sub [0, 1, 2] rfl (J76 )
        · have h8 : zI 32768 33791 p0 := zr_lt1 (zc_nle c6) h5 (zi_c 33792 (a := 33792) (b := 33792) (by decide)) (by decide)
          refine g_aload_n (pc := 63) C dX2_store_63 rfl 0 rfl ?_
          refine gc_12_2 (pc := 64) C wk_199 dX2_store_64 ?_
          refine g_iload_n (pc := 67) C dX2_store_67 rfl 1 rfl ?_
          refine g_sipush (pc := 68) C 255 dX2_store_68 (by decide) ?_
          refine g_iand (pc := 71) C dX2_store_71 (fun z9 ez9 => ?_)
          have hz9 : zI 0 255 z9 := zi_and1 (zi_c 255 (a := 0) (b := 255) (by decide)) ez9
          refine g_iload_n (pc := 72) C dX2_store_72 rfl 2 rfl ?_
          refine zcallVv (pc := 73) (st := []) C C.2.2.2.2.2 (n_X0_put_qb l D ad cy tl A z9 p1) (cwV 2 C.2.2.2.2.1 gw_RX2_83 rfl rfl rfl cd_X0_put ⟨Nat.le_of_ble_eq_true rfl, Nat.le_of_ble_eq_true rfl⟩) (hc_17 C) rfl rfl (Nat.le_of_ble_eq_true rfl) ⟨Nat.le_of_ble_eq_true rfl, Nat.le_of_ble_eq_true rfl⟩ dX2_store_73 ?_
          exact g_sub [0, 1, 2] rfl (J76 )
    · have h10 : zI 40960 2147483647 p0 := zr_le2 (zc_nlt c1) (zi_c 40960 (a := 40960) (b := 40960) (by decide)) (zi_full p0) (by decide)
      refine g_aload_n (pc := 36) C dX2_store_36 rfl 0 rfl ?_
      refine gc_12_1 (pc := 37) C wk_198 dX2_store_37 ?_
      refine g_iload_n (pc := 40) C dX2_store_40 rfl 1 rfl ?_
      refine g_ldc (pc := 41) C dX2_store_41 (C.wd wk_195) ?_
      refine g_isub (pc := 43) C dX2_store_43 (fun z11 ez11 => ?_)
      have hz11 : zI 8192 2147450879 z11 := zi_sub h10 (zi_c 32768 (a := 32768) (b := 32768) (by decide)) ez11 (by decide)
      refine g_iload_n (pc := 44) C dX2_store_44 rfl 2 rfl ?_
      refine zcallVv (pc := 45) (st := []) C C.2.2.2.2.2 (n_X0_put_mb l D ad cy tl A z11 p1) (cwV 2 C.2.2.2.2.1 gw_RX2_83 rfl rfl rfl cd_X0_put ⟨Nat.le_of_ble_eq_true rfl, Nat.le_of_ble_eq_true rfl⟩) (hc_15 C) rfl rfl (Nat.le_of_ble_eq_true rfl) ⟨Nat.le_of_ble_eq_true rfl, Nat.le_of_ble_eq_true rfl⟩ dX2_store_45 ?_
      refine g_goto (pc := 48) C 76 dX2_store_48 (by decide) ?_
      exact g_sub [0, 1, 2] rfl (J76 )
  refine g_sub (lv' := [(0, .ref (ad 12)), (1, .int p0), (2, .int p1)]) [0, 1, 2] rfl ?_
  refine g_iload_n (pc := 0) C dX2_store_0 rfl 1 rfl ?_
  refine g_sipush (pc := 1) C 8192 dX2_store_1 (by decide) ?_
  refine g_icmp_lt (pc := 4) C 30 dX2_store_4 (by decide) (fun c12 => ?_) (fun c12 => ?_)
  · have h13 : zI (-2147483648) 8191 p0 := zr_lt1 (zc_lt c12) (zi_full p0) (zi_c 8192 (a := 8192) (b := 8192) (by decide)) (by decide)
    exact g_sub [0, 1, 2] rfl (J30 )
  · have h14 : zI 8192 2147483647 p0 := zr_le2 (zc_nlt c12) (zi_c 8192 (a := 8192) (b := 8192) (by decide)) (zi_full p0) (by decide)
    refine g_iload_n (pc := 7) C dX2_store_7 rfl 1 rfl ?_
    refine g_sipush (pc := 8) C 16384 dX2_store_8 (by decide) ?_
    refine g_icmp_ge (pc := 11) C 30 dX2_store_11 (by decide) (fun c15 => ?_) (fun c15 => ?_)
    · have h16 : zI 16384 2147483647 p0 := zr_le2 (zc_le c15) (zi_c 16384 (a := 16384) (b := 16384) (by decide)) h14 (by decide)
      exact g_sub [0, 1, 2] rfl (J30 )
    · have h17 : zI 8192 16383 p0 := zr_lt1 (zc_nle c15) h14 (zi_c 16384 (a := 16384) (b := 16384) (by decide)) (by decide)
      refine g_aload_n (pc := 14) C dX2_store_14 rfl 0 rfl ?_
      refine gc_12_1 (pc := 15) C wk_198 dX2_store_15 ?_
      refine g_iload_n (pc := 18) C dX2_store_18 rfl 1 rfl ?_
      refine g_sipush (pc := 19) C 8192 dX2_store_19 (by decide) ?_
      refine g_isub (pc := 22) C dX2_store_22 (fun z18 ez18 => ?_)
      have hz18 : zI 0 8191 z18 := zi_sub h17 (zi_c 8192 (a := 8192) (b := 8192) (by decide)) ez18 (by decide)
      refine g_iload_n (pc := 23) C dX2_store_23 rfl 2 rfl ?_
      refine zcallVv (pc := 24) (st := []) C C.2.2.2.2.2 (n_X0_put_mb l D ad cy tl A z18 p1) (cwV 2 C.2.2.2.2.1 gw_RX2_83 rfl rfl rfl cd_X0_put ⟨Nat.le_of_ble_eq_true rfl, Nat.le_of_ble_eq_true rfl⟩) (hc_15 C) rfl rfl (Nat.le_of_ble_eq_true rfl) ⟨Nat.le_of_ble_eq_true rfl, Nat.le_of_ble_eq_true rfl⟩ dX2_store_24 ?_
      refine g_goto (pc := 27) C 76 dX2_store_27 (by decide) ?_
      exact g_sub [0, 1, 2] rfl (J76 )

set_option maxHeartbeats 2000000 in
set_option maxRecDepth 100000 in
theorem n_X2_byteAt (l : Launch) (D : va_G) (ad : Nat → Nat) (cy : Nat → ClassId) (tl : Int32) (A : Nat → Prop) (p0 : Int32) : zMi l yX2_byteAt wz_X2_byteAt ({ frames := 2, cells := 0, slots := 0, locals := 43 }) [.ref (ad 12), .int p0] D (zTc cy) A (zMc D A ad cy tl) (fun _ => (zMc D A ad cy tl)) := by
  refine zstart_i (cc := cX2_byteAt) (maxL := 4) (ty := .int) (own := RX2) (by decide) rfl rfl (Nat.le_of_ble_eq_true rfl) (fun p e s m args below meth c Q C r => ?_)
  have J69 : ∀ (a2_69 : Int32) (a3_69 : Int32) (b0_69 : Int32) (_ : zI 0 65535 a2_69) (_ : zI 0 1 a3_69), zG p l e ({ frames := 2, cells := 0, slots := 0, locals := 43 }) s m args below meth c 4 0 0 A Q (zMc D A ad cy tl) 69 [(0, .ref (ad 12)), (1, .int p0), (2, .int a2_69), (3, .int a3_69)] [.int b0_69] := by
    intro a2_69 a3_69 b0_69 ha2_69 ha3_69
    exact g_ireturn r dX2_byteAt_69 rfl (fun _ h => h)
  have J91 : ∀ (a2_91 : Int32) (a3_91 : Int32) (b0_91 : Int32) (_ : zI 0 65535 a2_91) (_ : zI 0 1 a3_91), zG p l e ({ frames := 2, cells := 0, slots := 0, locals := 43 }) s m args below meth c 4 0 0 A Q (zMc D A ad cy tl) 91 [(0, .ref (ad 12)), (1, .int p0), (2, .int a2_91), (3, .int a3_91)] [.int b0_91] := by
    intro a2_91 a3_91 b0_91 ha2_91 ha3_91
    exact g_ireturn r dX2_byteAt_91 rfl (fun _ h => h)
  have J16 : ∀ (a2_16 : Int32) (b0_16 : Int32) (_ : zI 0 65535 a2_16) (_ : zI 0 1 b0_16), zG p l e ({ frames := 2, cells := 0, slots := 0, locals := 43 }) s m args below meth c 4 0 0 A Q (zMc D A ad cy tl) 16 [(0, .ref (ad 12)), (1, .int p0), (2, .int a2_16)] [.int b0_16] := by
    intro a2_16 b0_16 ha2_16 hb0_16
    refine g_istore_n (pc := 16) C ([(3, .int b0_16), (0, .ref (ad 12)), (1, .int p0), (2, .int a2_16)]) dX2_byteAt_16 rfl (Nat.le_of_ble_eq_true rfl) rfl ?_
    refine g_iload_n (pc := 17) C dX2_byteAt_17 rfl 3 rfl ?_
    refine g_ldc (pc := 18) C dX2_byteAt_18 (C.wd wk_322) ?_
    refine g_iand (pc := 20) C dX2_byteAt_20 (fun z1 ez1 => ?_)
    have hz1 : zI 0 64513 z1 := zi_and1 (zi_c 64513 (a := 0) (b := 64513) (by decide)) ez1
    refine g_lookup (pc := 21) C [92, 48, 70] dX2_byteAt_21 (by decide) (by decide) (List.forall_mem_cons.mpr ⟨?_, (List.forall_mem_cons.mpr ⟨?_, (List.forall_mem_cons.mpr ⟨?_, fun _ h => absurd h List.not_mem_nil⟩)⟩)⟩)
    · refine g_aload_n (pc := 92) C dX2_byteAt_92 rfl 1 rfl ?_
      refine g_iload_n (pc := 93) C dX2_byteAt_93 rfl 3 rfl ?_
      refine zcallVi (pc := 94) (st := []) C C.2.2.2.2.2 (n_X2_storedAt l D ad cy tl A a2_16) (cwV 1 C.2.2.2.2.1 gw_RX2_63 rfl rfl rfl cd_X2_storedAt ⟨Nat.le_of_ble_eq_true rfl, Nat.le_of_ble_eq_true rfl⟩) (hc_12 C) rfl rfl (Nat.le_of_ble_eq_true rfl) ⟨Nat.le_of_ble_eq_true rfl, Nat.le_of_ble_eq_true rfl⟩ dX2_byteAt_94 (fun r2 => ?_)
      exact g_ireturn r dX2_byteAt_97 rfl (fun _ h => h)
    · refine g_iload_n (pc := 48) C dX2_byteAt_48 rfl 0 rfl ?_
      refine g_if_eq (pc := 49) C 62 dX2_byteAt_49 (by decide) (fun c3 => ?_) (fun c3 => ?_)
      · have h4 : zI 0 0 b0_16 := zr_eq c3 hb0_16 (zi_c 0 (a := 0) (b := 0) (by decide)) (by decide)
        refine g_aload_n (pc := 62) C dX2_byteAt_62 rfl 1 rfl ?_
        refine gc_12_3 (pc := 63) C wk_200 dX2_byteAt_63 ?_
        refine zcallVi (pc := 66) (st := []) C C.2.2.2.2.2 (n_X3_readData l D ad cy tl A ) (cwV 0 C.2.2.2.2.1 gw_RX2_54 rfl rfl rfl cd_X3_readData ⟨Nat.le_of_ble_eq_true rfl, Nat.le_of_ble_eq_true rfl⟩) (hc_3 C) rfl rfl (Nat.le_of_ble_eq_true rfl) ⟨Nat.le_of_ble_eq_true rfl, Nat.le_of_ble_eq_true rfl⟩ dX2_byteAt_66 (fun r5 => ?_)
        exact g_sub [1, 2, 3, 0] rfl (J69 a2_16 b0_16 r5 ha2_16 (zi_w h4 (a' := 0) (b' := 1) (by decide)))
      · have h6 : zI 1 1 b0_16 := zr_neL c3 hb0_16 (zi_c 0 (a := 0) (b := 0) (by decide)) (by decide)
        refine g_aload_n (pc := 52) C dX2_byteAt_52 rfl 1 rfl ?_
        refine gc_12_3 (pc := 53) C wk_200 dX2_byteAt_53 ?_
        refine zcallVi (pc := 56) (st := []) C C.2.2.2.2.2 (n_X3_readStatus l D ad cy tl A ) (cwV 0 C.2.2.2.2.1 gw_RX2_48 rfl rfl rfl cd_X3_readStatus ⟨Nat.le_of_ble_eq_true rfl, Nat.le_of_ble_eq_true rfl⟩) (hc_3 C) rfl rfl (Nat.le_of_ble_eq_true rfl) ⟨Nat.le_of_ble_eq_true rfl, Nat.le_of_ble_eq_true rfl⟩ dX2_byteAt_56 (fun r7 => ?_)
        refine g_goto (pc := 59) C 69 dX2_byteAt_59 (by decide) ?_
        exact g_sub [1, 2, 3, 0] rfl (J69 a2_16 b0_16 r7 ha2_16 (zi_w h6 (a' := 0) (b' := 1) (by decide)))
    · refine g_iload_n (pc := 70) C dX2_byteAt_70 rfl 0 rfl ?_
      refine g_if_eq (pc := 71) C 84 dX2_byteAt_71 (by decide) (fun c8 => ?_) (fun c8 => ?_)
      · have h9 : zI 0 0 b0_16 := zr_eq c8 hb0_16 (zi_c 0 (a := 0) (b := 0) (by decide)) (by decide)
        refine g_aload_n (pc := 84) C dX2_byteAt_84 rfl 1 rfl ?_
        refine gc_12_4 (pc := 85) C wk_201 dX2_byteAt_85 ?_
        refine zcallVi (pc := 88) (st := []) C C.2.2.2.2.2 (n_X1_readData l D ad cy tl A ) (cwV 0 C.2.2.2.2.1 gw_RX2_62 rfl rfl rfl cd_X1_readData ⟨Nat.le_of_ble_eq_true rfl, Nat.le_of_ble_eq_true rfl⟩) (hc_7 C) rfl rfl (Nat.le_of_ble_eq_true rfl) ⟨Nat.le_of_ble_eq_true rfl, Nat.le_of_ble_eq_true rfl⟩ dX2_byteAt_88 (fun r10 => ?_)
        exact g_sub [1, 2, 3, 0] rfl (J91 a2_16 b0_16 r10 ha2_16 (zi_w h9 (a' := 0) (b' := 1) (by decide)))
      · have h11 : zI 1 1 b0_16 := zr_neL c8 hb0_16 (zi_c 0 (a := 0) (b := 0) (by decide)) (by decide)
        refine g_aload_n (pc := 74) C dX2_byteAt_74 rfl 1 rfl ?_
        refine gc_12_4 (pc := 75) C wk_201 dX2_byteAt_75 ?_
        refine zcallVi (pc := 78) (st := []) C C.2.2.2.2.2 (n_X1_readAddress l D ad cy tl A ) (cwV 0 C.2.2.2.2.1 gw_RX2_57 rfl rfl rfl cd_X1_readAddress ⟨Nat.le_of_ble_eq_true rfl, Nat.le_of_ble_eq_true rfl⟩) (hc_7 C) rfl rfl (Nat.le_of_ble_eq_true rfl) ⟨Nat.le_of_ble_eq_true rfl, Nat.le_of_ble_eq_true rfl⟩ dX2_byteAt_78 (fun r12 => ?_)
        refine g_goto (pc := 81) C 91 dX2_byteAt_81 (by decide) ?_
        exact g_sub [1, 2, 3, 0] rfl (J91 a2_16 b0_16 r12 ha2_16 (zi_w h11 (a' := 0) (b' := 1) (by decide)))
  refine g_sub (lv' := [(0, .ref (ad 12)), (1, .int p0)]) [0, 1] rfl ?_
  refine g_iload_n (pc := 0) C dX2_byteAt_0 rfl 1 rfl ?_
  refine g_ldc (pc := 1) C dX2_byteAt_1 (C.wd wk_321) ?_
  refine g_iand (pc := 3) C dX2_byteAt_3 (fun z13 ez13 => ?_)
  have hz13 : zI 0 65535 z13 := zi_and1 (zi_c 65535 (a := 0) (b := 65535) (by decide)) ez13
  refine g_istore_n (pc := 4) C ([(2, .int z13), (0, .ref (ad 12)), (1, .int p0)]) dX2_byteAt_4 rfl (Nat.le_of_ble_eq_true rfl) rfl ?_
  refine g_iload_n (pc := 5) C dX2_byteAt_5 rfl 0 rfl ?_
  refine g_iconst (pc := 6) C 2 dX2_byteAt_6 (by decide) ?_
  refine g_iand (pc := 7) C dX2_byteAt_7 (fun z14 ez14 => ?_)
  have hz14 : zI 0 2 z14 := zi_and1 (zi_c 2 (a := 0) (b := 2) (by decide)) ez14
  refine g_if_eq (pc := 8) C 15 dX2_byteAt_8 (by decide) (fun c15 => ?_) (fun c15 => ?_)
  · have h16 : zI 0 0 z14 := zr_eq c15 hz14 (zi_c 0 (a := 0) (b := 0) (by decide)) (by decide)
    refine g_iconst (pc := 15) C 0 dX2_byteAt_15 (by decide) ?_
    exact g_sub [1, 2, 0] rfl (J16 z13 0 hz13 (zi_c 0 (a := 0) (b := 1) (by decide)))
  · have h17 : zI 1 2 z14 := zr_neL c15 hz14 (zi_c 0 (a := 0) (b := 0) (by decide)) (by decide)
    refine g_iconst (pc := 11) C 1 dX2_byteAt_11 (by decide) ?_
    refine g_goto (pc := 12) C 16 dX2_byteAt_12 (by decide) ?_
    exact g_sub [1, 2, 0] rfl (J16 z13 1 hz13 (zi_c 1 (a := 0) (b := 1) (by decide)))

set_option maxHeartbeats 2000000 in
set_option maxRecDepth 100000 in
theorem n_X2_putByte (l : Launch) (D : va_G) (ad : Nat → Nat) (cy : Nat → ClassId) (tl : Int32) (A : Nat → Prop) (p0 : Int32) (p1 : Int32) : zMv l yX2_putByte wz_X2_putByte ({ frames := 2, cells := 0, slots := 0, locals := 48 }) [.ref (ad 12), .int p0, .int p1] D (zTc cy) A (zMc D A ad cy tl) (zMc D A ad cy tl) := by
  refine zstart_v (cc := cX2_putByte) (maxL := 6) (own := RX2) (by decide) rfl rfl (Nat.le_of_ble_eq_true rfl) (fun p e s m args below meth c Q C r => ?_)
  have J109 : ∀ (a3_109 : Int32) (a4_109 : Int32) (a5_109 : Int32) (_ : zI 0 65535 a3_109) (_ : zI 0 1 a4_109) (_ : zI 0 255 a5_109), zG p l e ({ frames := 2, cells := 0, slots := 0, locals := 48 }) s m args below meth c 6 0 0 A Q (zMc D A ad cy tl) 109 [(0, .ref (ad 12)), (1, .int p0), (2, .int p1), (3, .int a3_109), (4, .int a4_109), (5, .int a5_109)] [] := by
    intro a3_109 a4_109 a5_109 ha3_109 ha4_109 ha5_109
    exact g_return r dX2_putByte_109 (fun _ h => h)
  have J16 : ∀ (a3_16 : Int32) (b0_16 : Int32) (_ : zI 0 65535 a3_16) (_ : zI 0 1 b0_16), zG p l e ({ frames := 2, cells := 0, slots := 0, locals := 48 }) s m args below meth c 6 0 0 A Q (zMc D A ad cy tl) 16 [(0, .ref (ad 12)), (1, .int p0), (2, .int p1), (3, .int a3_16)] [.int b0_16] := by
    intro a3_16 b0_16 ha3_16 hb0_16
    refine g_istore (pc := 16) C ([(4, .int b0_16), (0, .ref (ad 12)), (1, .int p0), (2, .int p1), (3, .int a3_16)]) dX2_putByte_16 (Nat.le_of_ble_eq_true rfl) rfl ?_
    refine g_iload_n (pc := 18) C dX2_putByte_18 rfl 3 rfl ?_
    refine g_sipush (pc := 19) C 255 dX2_putByte_19 (by decide) ?_
    refine g_iand (pc := 22) C dX2_putByte_22 (fun z1 ez1 => ?_)
    have hz1 : zI 0 255 z1 := zi_and1 (zi_c 255 (a := 0) (b := 255) (by decide)) ez1
    refine g_istore (pc := 23) C ([(5, .int z1), (4, .int b0_16), (0, .ref (ad 12)), (1, .int p0), (2, .int p1), (3, .int a3_16)]) dX2_putByte_23 (Nat.le_of_ble_eq_true rfl) rfl ?_
    refine g_iload_n (pc := 25) C dX2_putByte_25 rfl 5 rfl ?_
    refine g_ldc (pc := 26) C dX2_putByte_26 (C.wd wk_322) ?_
    refine g_iand (pc := 28) C dX2_putByte_28 (fun z2 ez2 => ?_)
    have hz2 : zI 0 64513 z2 := zi_and1 (zi_c 64513 (a := 0) (b := 64513) (by decide)) ez2
    refine g_lookup (pc := 29) C [102, 56, 85] dX2_putByte_29 (by decide) (by decide) (List.forall_mem_cons.mpr ⟨?_, (List.forall_mem_cons.mpr ⟨?_, (List.forall_mem_cons.mpr ⟨?_, fun _ h => absurd h List.not_mem_nil⟩)⟩)⟩)
    · refine g_aload_n (pc := 102) C dX2_putByte_102 rfl 2 rfl ?_
      refine g_iload_n (pc := 103) C dX2_putByte_103 rfl 5 rfl ?_
      refine g_iload (pc := 104) C dX2_putByte_104 0 rfl ?_
      refine zcallVv (pc := 106) (st := []) C C.2.2.2.2.2 (n_X2_store l D ad cy tl A a3_16 z1) (cwV 2 C.2.2.2.2.1 gw_RX2_75 rfl rfl rfl cd_X2_store ⟨Nat.le_of_ble_eq_true rfl, Nat.le_of_ble_eq_true rfl⟩) (hc_12 C) rfl rfl (Nat.le_of_ble_eq_true rfl) ⟨Nat.le_of_ble_eq_true rfl, Nat.le_of_ble_eq_true rfl⟩ dX2_putByte_106 ?_
      exact g_sub [2, 3, 4, 5, 1, 0] rfl (J109 a3_16 b0_16 z1 ha3_16 hb0_16 hz1)
    · refine g_iload (pc := 56) C dX2_putByte_56 1 rfl ?_
      refine g_if_eq (pc := 58) C 73 dX2_putByte_58 (by decide) (fun c3 => ?_) (fun c3 => ?_)
      · have h4 : zI 0 0 b0_16 := zr_eq c3 hb0_16 (zi_c 0 (a := 0) (b := 0) (by decide)) (by decide)
        refine g_aload_n (pc := 73) C dX2_putByte_73 rfl 2 rfl ?_
        refine gc_12_3 (pc := 74) C wk_200 dX2_putByte_74 ?_
        refine g_iload (pc := 77) C dX2_putByte_77 0 rfl ?_
        refine zcallVv (pc := 79) (st := []) C C.2.2.2.2.2 (n_X3_writeData l D ad cy tl A z1) (cwV 1 C.2.2.2.2.1 gw_RX2_69 rfl rfl rfl cd_X3_writeData ⟨Nat.le_of_ble_eq_true rfl, Nat.le_of_ble_eq_true rfl⟩) (hc_3 C) rfl rfl (Nat.le_of_ble_eq_true rfl) ⟨Nat.le_of_ble_eq_true rfl, Nat.le_of_ble_eq_true rfl⟩ dX2_putByte_79 ?_
        refine g_goto (pc := 82) C 109 dX2_putByte_82 (by decide) ?_
        exact g_sub [2, 3, 4, 5, 1, 0] rfl (J109 a3_16 b0_16 z1 ha3_16 (zi_w h4 (a' := 0) (b' := 1) (by decide)) hz1)
      · have h5 : zI 1 1 b0_16 := zr_neL c3 hb0_16 (zi_c 0 (a := 0) (b := 0) (by decide)) (by decide)
        refine g_aload_n (pc := 61) C dX2_putByte_61 rfl 2 rfl ?_
        refine gc_12_3 (pc := 62) C wk_200 dX2_putByte_62 ?_
        refine g_iload (pc := 65) C dX2_putByte_65 0 rfl ?_
        refine zcallVv (pc := 67) (st := []) C C.2.2.2.2.2 (n_X3_writeControl l D ad cy tl A z1) (cwV 1 C.2.2.2.2.1 gw_RX2_66 rfl rfl rfl cd_X3_writeControl ⟨Nat.le_of_ble_eq_true rfl, Nat.le_of_ble_eq_true rfl⟩) (hc_3 C) rfl rfl (Nat.le_of_ble_eq_true rfl) ⟨Nat.le_of_ble_eq_true rfl, Nat.le_of_ble_eq_true rfl⟩ dX2_putByte_67 ?_
        refine g_goto (pc := 70) C 109 dX2_putByte_70 (by decide) ?_
        exact g_sub [2, 3, 4, 5, 1, 0] rfl (J109 a3_16 b0_16 z1 ha3_16 (zi_w h5 (a' := 0) (b' := 1) (by decide)) hz1)
    · refine g_iload (pc := 85) C dX2_putByte_85 1 rfl ?_
      refine g_if_eq (pc := 87) C 109 dX2_putByte_87 (by decide) (fun c6 => ?_) (fun c6 => ?_)
      · have h7 : zI 0 0 b0_16 := zr_eq c6 hb0_16 (zi_c 0 (a := 0) (b := 0) (by decide)) (by decide)
        exact g_sub [2, 3, 4, 5, 1, 0] rfl (J109 a3_16 b0_16 z1 ha3_16 (zi_w h7 (a' := 0) (b' := 1) (by decide)) hz1)
      · have h8 : zI 1 1 b0_16 := zr_neL c6 hb0_16 (zi_c 0 (a := 0) (b := 0) (by decide)) (by decide)
        refine g_aload_n (pc := 90) C dX2_putByte_90 rfl 2 rfl ?_
        refine gc_12_4 (pc := 91) C wk_201 dX2_putByte_91 ?_
        refine g_iload (pc := 94) C dX2_putByte_94 0 rfl ?_
        refine zcallVv (pc := 96) (st := []) C C.2.2.2.2.2 (n_X1_writeAddress l D ad cy tl A z1) (cwV 1 C.2.2.2.2.1 gw_RX2_72 rfl rfl rfl cd_X1_writeAddress ⟨Nat.le_of_ble_eq_true rfl, Nat.le_of_ble_eq_true rfl⟩) (hc_7 C) rfl rfl (Nat.le_of_ble_eq_true rfl) ⟨Nat.le_of_ble_eq_true rfl, Nat.le_of_ble_eq_true rfl⟩ dX2_putByte_96 ?_
        refine g_goto (pc := 99) C 109 dX2_putByte_99 (by decide) ?_
        exact g_sub [2, 3, 4, 5, 1, 0] rfl (J109 a3_16 b0_16 z1 ha3_16 (zi_w h8 (a' := 0) (b' := 1) (by decide)) hz1)
  refine g_sub (lv' := [(0, .ref (ad 12)), (1, .int p0), (2, .int p1)]) [0, 1, 2] rfl ?_
  refine g_iload_n (pc := 0) C dX2_putByte_0 rfl 1 rfl ?_
  refine g_ldc (pc := 1) C dX2_putByte_1 (C.wd wk_321) ?_
  refine g_iand (pc := 3) C dX2_putByte_3 (fun z9 ez9 => ?_)
  have hz9 : zI 0 65535 z9 := zi_and1 (zi_c 65535 (a := 0) (b := 65535) (by decide)) ez9
  refine g_istore_n (pc := 4) C ([(3, .int z9), (0, .ref (ad 12)), (1, .int p0), (2, .int p1)]) dX2_putByte_4 rfl (Nat.le_of_ble_eq_true rfl) rfl ?_
  refine g_iload_n (pc := 5) C dX2_putByte_5 rfl 0 rfl ?_
  refine g_iconst (pc := 6) C 2 dX2_putByte_6 (by decide) ?_
  refine g_iand (pc := 7) C dX2_putByte_7 (fun z10 ez10 => ?_)
  have hz10 : zI 0 2 z10 := zi_and1 (zi_c 2 (a := 0) (b := 2) (by decide)) ez10
  refine g_if_eq (pc := 8) C 15 dX2_putByte_8 (by decide) (fun c11 => ?_) (fun c11 => ?_)
  · have h12 : zI 0 0 z10 := zr_eq c11 hz10 (zi_c 0 (a := 0) (b := 0) (by decide)) (by decide)
    refine g_iconst (pc := 15) C 0 dX2_putByte_15 (by decide) ?_
    exact g_sub [1, 2, 3, 0] rfl (J16 z9 0 hz9 (zi_c 0 (a := 0) (b := 1) (by decide)))
  · have h13 : zI 1 2 z10 := zr_neL c11 hz10 (zi_c 0 (a := 0) (b := 0) (by decide)) (by decide)
    refine g_iconst (pc := 11) C 1 dX2_putByte_11 (by decide) ?_
    refine g_goto (pc := 12) C 16 dX2_putByte_12 (by decide) ?_
    exact g_sub [1, 2, 3, 0] rfl (J16 z9 1 hz9 (zi_c 1 (a := 0) (b := 1) (by decide)))

set_option maxHeartbeats 2000000 in
set_option maxRecDepth 100000 in
theorem n_X2_wordAt (l : Launch) (D : va_G) (ad : Nat → Nat) (cy : Nat → ClassId) (tl : Int32) (A : Nat → Prop) (p0 : Int32) : zMi l yX2_wordAt wz_X2_wordAt ({ frames := 3, cells := 0, slots := 0, locals := 66 }) [.ref (ad 12), .int p0] D (zTc cy) A (zMc D A ad cy tl) (fun _ => (zMc D A ad cy tl)) := by
  refine zstart_i (cc := cX2_wordAt) (maxL := 3) (ty := .int) (own := RX2) (by decide) rfl rfl (Nat.le_of_ble_eq_true rfl) (fun p e s m args below meth c Q C r => ?_)
  refine g_sub (lv' := [(0, .ref (ad 12)), (1, .int p0)]) [0, 1] rfl ?_
  refine g_aload_n (pc := 0) C dX2_wordAt_0 rfl 0 rfl ?_
  refine g_iload_n (pc := 1) C dX2_wordAt_1 rfl 1 rfl ?_
  refine g_ldc (pc := 2) C dX2_wordAt_2 (C.wd wk_358) ?_
  refine g_iand (pc := 4) C dX2_wordAt_4 (fun z1 ez1 => ?_)
  have hz1 : zI 0 65534 z1 := zi_and1 (zi_c 65534 (a := 0) (b := 65534) (by decide)) ez1
  refine zcallVi (pc := 5) (st := []) C C.2.2.2.2.2 (n_X2_byteAt l D ad cy tl A z1) (cwV 1 C.2.2.2.2.1 gw_RX2_38 rfl rfl rfl cd_X2_byteAt ⟨Nat.le_of_ble_eq_true rfl, Nat.le_of_ble_eq_true rfl⟩) (hc_12 C) rfl rfl (Nat.le_of_ble_eq_true rfl) ⟨Nat.le_of_ble_eq_true rfl, Nat.le_of_ble_eq_true rfl⟩ dX2_wordAt_5 (fun r2 => ?_)
  refine g_istore_n (pc := 8) C ([(2, .int r2), (0, .ref (ad 12)), (1, .int p0)]) dX2_wordAt_8 rfl (Nat.le_of_ble_eq_true rfl) rfl ?_
  refine g_iload_n (pc := 9) C dX2_wordAt_9 rfl 0 rfl ?_
  refine g_bipush (pc := 10) C 8 dX2_wordAt_10 (by decide) ?_
  refine g_ishl (pc := 12) C dX2_wordAt_12 (fun z3 ez3 => ?_)
  refine g_aload_n (pc := 13) C dX2_wordAt_13 rfl 1 rfl ?_
  refine g_iload_n (pc := 14) C dX2_wordAt_14 rfl 2 rfl ?_
  refine g_iconst (pc := 15) C 1 dX2_wordAt_15 (by decide) ?_
  refine g_ior (pc := 16) C dX2_wordAt_16 (fun z4 ez4 => ?_)
  refine zcallVi (pc := 17) (st := [.int z3]) C C.2.2.2.2.2 (n_X2_byteAt l D ad cy tl A z4) (cwV 1 C.2.2.2.2.1 gw_RX2_38 rfl rfl rfl cd_X2_byteAt ⟨Nat.le_of_ble_eq_true rfl, Nat.le_of_ble_eq_true rfl⟩) (hc_12 C) rfl rfl (Nat.le_of_ble_eq_true rfl) ⟨Nat.le_of_ble_eq_true rfl, Nat.le_of_ble_eq_true rfl⟩ dX2_wordAt_17 (fun r5 => ?_)
  refine g_ior (pc := 20) C dX2_wordAt_20 (fun z6 ez6 => ?_)
  exact g_ireturn r dX2_wordAt_21 rfl (fun _ h => h)

set_option maxHeartbeats 2000000 in
set_option maxRecDepth 100000 in
theorem n_X2_putWord (l : Launch) (D : va_G) (ad : Nat → Nat) (cy : Nat → ClassId) (tl : Int32) (A : Nat → Prop) (p0 : Int32) (p1 : Int32) : zMv l yX2_putWord wz_X2_putWord ({ frames := 3, cells := 0, slots := 0, locals := 73 }) [.ref (ad 12), .int p0, .int p1] D (zTc cy) A (zMc D A ad cy tl) (zMc D A ad cy tl) := by
  refine zstart_v (cc := cX2_putWord) (maxL := 3) (own := RX2) (by decide) rfl rfl (Nat.le_of_ble_eq_true rfl) (fun p e s m args below meth c Q C r => ?_)
  refine g_sub (lv' := [(0, .ref (ad 12)), (1, .int p0), (2, .int p1)]) [0, 1, 2] rfl ?_
  refine g_aload_n (pc := 0) C dX2_putWord_0 rfl 0 rfl ?_
  refine g_iload_n (pc := 1) C dX2_putWord_1 rfl 1 rfl ?_
  refine g_ldc (pc := 2) C dX2_putWord_2 (C.wd wk_358) ?_
  refine g_iand (pc := 4) C dX2_putWord_4 (fun z1 ez1 => ?_)
  have hz1 : zI 0 65534 z1 := zi_and1 (zi_c 65534 (a := 0) (b := 65534) (by decide)) ez1
  refine g_iload_n (pc := 5) C dX2_putWord_5 rfl 2 rfl ?_
  refine g_bipush (pc := 6) C 8 dX2_putWord_6 (by decide) ?_
  refine g_ishr (pc := 8) C dX2_putWord_8 (fun z2 ez2 => ?_)
  refine zcallVv (pc := 9) (st := []) C C.2.2.2.2.2 (n_X2_putByte l D ad cy tl A z1 z2) (cwV 2 C.2.2.2.2.1 gw_RX2_42 rfl rfl rfl cd_X2_putByte ⟨Nat.le_of_ble_eq_true rfl, Nat.le_of_ble_eq_true rfl⟩) (hc_12 C) rfl rfl (Nat.le_of_ble_eq_true rfl) ⟨Nat.le_of_ble_eq_true rfl, Nat.le_of_ble_eq_true rfl⟩ dX2_putWord_9 ?_
  refine g_aload_n (pc := 12) C dX2_putWord_12 rfl 0 rfl ?_
  refine g_iload_n (pc := 13) C dX2_putWord_13 rfl 1 rfl ?_
  refine g_iconst (pc := 14) C 1 dX2_putWord_14 (by decide) ?_
  refine g_ior (pc := 15) C dX2_putWord_15 (fun z3 ez3 => ?_)
  refine g_iload_n (pc := 16) C dX2_putWord_16 rfl 2 rfl ?_
  refine zcallVv (pc := 17) (st := []) C C.2.2.2.2.2 (n_X2_putByte l D ad cy tl A z3 p1) (cwV 2 C.2.2.2.2.1 gw_RX2_42 rfl rfl rfl cd_X2_putByte ⟨Nat.le_of_ble_eq_true rfl, Nat.le_of_ble_eq_true rfl⟩) (hc_12 C) rfl rfl (Nat.le_of_ble_eq_true rfl) ⟨Nat.le_of_ble_eq_true rfl, Nat.le_of_ble_eq_true rfl⟩ dX2_putWord_17 ?_
  exact g_return r dX2_putWord_20 (fun _ h => h)

