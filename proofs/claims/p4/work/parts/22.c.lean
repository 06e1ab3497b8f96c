set_option maxHeartbeats 2000000 in
set_option maxRecDepth 100000 in
theorem n_bitCount (l : Launch) (D : va_G) (ad : Nat → Nat) (cy : Nat → ClassId) (tl : Int32) (A : Nat → Prop) (p0 : Int32) : zMi l yJ6_bitCount_0f7a4 wz_J6_bitCount_0f7a4 ({ frames := 0, cells := 0, slots := 0, locals := 0 }) [.int p0] D (zTc cy) A (zMc D A ad cy tl) (fun _ => (zMc D A ad cy tl)) := by
  refine zstart_i (cc := cJ6_bitCount_0f7a4) (maxL := 1) (ty := .int) (own := RJ6) (by decide) rfl rfl (Nat.le_of_ble_eq_true rfl) (fun p e s m args below meth c Q C r => ?_)
  refine g_sub (lv' := [(0, .int p0)]) [0] rfl ?_
  refine g_iload_n (pc := 0) C dJ6_bitCount_0f7a4_0 rfl 0 rfl ?_
  refine g_iload_n (pc := 1) C dJ6_bitCount_0f7a4_1 rfl 0 rfl ?_
  refine g_iconst (pc := 2) C 1 dJ6_bitCount_0f7a4_2 (by decide) ?_
  refine g_iushr (pc := 3) C dJ6_bitCount_0f7a4_3 (fun z1 ez1 => ?_)
  refine g_ldc_w (pc := 4) C dJ6_bitCount_0f7a4_4 (C.wd wk_644) ?_
  refine g_iand (pc := 7) C dJ6_bitCount_0f7a4_7 (fun z2 ez2 => ?_)
  have hz2 : zI 0 1431655765 z2 := zi_and1 (zi_c 1431655765 (a := 0) (b := 1431655765) (by decide)) ez2
  refine g_isub (pc := 8) C dJ6_bitCount_0f7a4_8 (fun z3 ez3 => ?_)
  refine g_istore_n (pc := 9) C ([(0, .int z3)]) dJ6_bitCount_0f7a4_9 rfl (Nat.le_of_ble_eq_true rfl) rfl ?_
  refine g_iload_n (pc := 10) C dJ6_bitCount_0f7a4_10 rfl 0 rfl ?_
  refine g_ldc_w (pc := 11) C dJ6_bitCount_0f7a4_11 (C.wd wk_645) ?_
  refine g_iand (pc := 14) C dJ6_bitCount_0f7a4_14 (fun z4 ez4 => ?_)
  have hz4 : zI 0 858993459 z4 := zi_and1 (zi_c 858993459 (a := 0) (b := 858993459) (by decide)) ez4
  refine g_iload_n (pc := 15) C dJ6_bitCount_0f7a4_15 rfl 0 rfl ?_
  refine g_iconst (pc := 16) C 2 dJ6_bitCount_0f7a4_16 (by decide) ?_
  refine g_iushr (pc := 17) C dJ6_bitCount_0f7a4_17 (fun z5 ez5 => ?_)
  refine g_ldc_w (pc := 18) C dJ6_bitCount_0f7a4_18 (C.wd wk_645) ?_
  refine g_iand (pc := 21) C dJ6_bitCount_0f7a4_21 (fun z6 ez6 => ?_)
  have hz6 : zI 0 858993459 z6 := zi_and1 (zi_c 858993459 (a := 0) (b := 858993459) (by decide)) ez6
  refine g_iadd (pc := 22) C dJ6_bitCount_0f7a4_22 (fun z7 ez7 => ?_)
  have hz7 : zI 0 1717986918 z7 := zi_add hz4 hz6 ez7 (by decide)
  refine g_istore_n (pc := 23) C ([(0, .int z7)]) dJ6_bitCount_0f7a4_23 rfl (Nat.le_of_ble_eq_true rfl) rfl ?_
  refine g_iload_n (pc := 24) C dJ6_bitCount_0f7a4_24 rfl 0 rfl ?_
  refine g_iload_n (pc := 25) C dJ6_bitCount_0f7a4_25 rfl 0 rfl ?_
  refine g_iconst (pc := 26) C 4 dJ6_bitCount_0f7a4_26 (by decide) ?_
  refine g_iushr (pc := 27) C dJ6_bitCount_0f7a4_27 (fun z8 ez8 => ?_)
  refine g_iadd (pc := 28) C dJ6_bitCount_0f7a4_28 (fun z9 ez9 => ?_)
  refine g_ldc_w (pc := 29) C dJ6_bitCount_0f7a4_29 (C.wd wk_646) ?_
  refine g_iand (pc := 32) C dJ6_bitCount_0f7a4_32 (fun z10 ez10 => ?_)
  have hz10 : zI 0 252645135 z10 := zi_and1 (zi_c 252645135 (a := 0) (b := 252645135) (by decide)) ez10
  refine g_istore_n (pc := 33) C ([(0, .int z10)]) dJ6_bitCount_0f7a4_33 rfl (Nat.le_of_ble_eq_true rfl) rfl ?_
  refine g_iload_n (pc := 34) C dJ6_bitCount_0f7a4_34 rfl 0 rfl ?_
  refine g_iload_n (pc := 35) C dJ6_bitCount_0f7a4_35 rfl 0 rfl ?_
  refine g_bipush (pc := 36) C 8 dJ6_bitCount_0f7a4_36 (by decide) ?_
  refine g_iushr (pc := 38) C dJ6_bitCount_0f7a4_38 (fun z11 ez11 => ?_)
  refine g_iadd (pc := 39) C dJ6_bitCount_0f7a4_39 (fun z12 ez12 => ?_)
  refine g_istore_n (pc := 40) C ([(0, .int z12)]) dJ6_bitCount_0f7a4_40 rfl (Nat.le_of_ble_eq_true rfl) rfl ?_
  refine g_iload_n (pc := 41) C dJ6_bitCount_0f7a4_41 rfl 0 rfl ?_
  refine g_iload_n (pc := 42) C dJ6_bitCount_0f7a4_42 rfl 0 rfl ?_
  refine g_bipush (pc := 43) C 16 dJ6_bitCount_0f7a4_43 (by decide) ?_
  refine g_iushr (pc := 45) C dJ6_bitCount_0f7a4_45 (fun z13 ez13 => ?_)
  refine g_iadd (pc := 46) C dJ6_bitCount_0f7a4_46 (fun z14 ez14 => ?_)
  refine g_istore_n (pc := 47) C ([(0, .int z14)]) dJ6_bitCount_0f7a4_47 rfl (Nat.le_of_ble_eq_true rfl) rfl ?_
  refine g_iload_n (pc := 48) C dJ6_bitCount_0f7a4_48 rfl 0 rfl ?_
  refine g_bipush (pc := 49) C 63 dJ6_bitCount_0f7a4_49 (by decide) ?_
  refine g_iand (pc := 51) C dJ6_bitCount_0f7a4_51 (fun z15 ez15 => ?_)
  have hz15 : zI 0 63 z15 := zi_and1 (zi_c 63 (a := 0) (b := 63) (by decide)) ez15
  exact g_ireturn r dJ6_bitCount_0f7a4_52 rfl (fun _ h => h)

set_option maxHeartbeats 2000000 in
set_option maxRecDepth 100000 in
theorem n_X4_registerAddress (l : Launch) (D : va_G) (ad : Nat → Nat) (cy : Nat → ClassId) (tl : Int32) (A : Nat → Prop) (p0 : Int32) : zMi l yX4_registerAddress wz_X4_registerAddress ({ frames := 0, cells := 0, slots := 0, locals := 0 }) [.ref (ad 19), .int p0] D (zTc cy) A (zMc D A ad cy tl) (fun _ => (zMc D A ad cy tl)) := by
  refine zstart_i (cc := cX4_registerAddress) (maxL := 2) (ty := .int) (own := RX4) (by decide) rfl rfl (Nat.le_of_ble_eq_true rfl) (fun p e s m args below meth c Q C r => ?_)
  refine g_sub (lv' := [(0, .ref (ad 19)), (1, .int p0)]) [0, 1] rfl ?_
  refine g_aload_n (pc := 0) C dX4_registerAddress_0 rfl 0 rfl ?_
  refine gc_19_4 (pc := 1) C wk_224 dX4_registerAddress_1 (fun z1 => ?_)
  refine g_iconst (pc := 4) C 2 dX4_registerAddress_4 (by decide) ?_
  refine g_iload_n (pc := 5) C dX4_registerAddress_5 rfl 1 rfl ?_
  refine g_imul (pc := 6) C dX4_registerAddress_6 (fun z2 ez2 => ?_)
  refine g_iadd (pc := 7) C dX4_registerAddress_7 (fun z3 ez3 => ?_)
  refine g_ldc (pc := 8) C dX4_registerAddress_8 (C.wd wk_538) ?_
  refine g_iand (pc := 10) C dX4_registerAddress_10 (fun z4 ez4 => ?_)
  have hz4 : zI 0 65535 z4 := zi_and1 (zi_c 65535 (a := 0) (b := 65535) (by decide)) ez4
  exact g_ireturn r dX4_registerAddress_11 rfl (fun _ h => h)

set_option maxHeartbeats 2000000 in
set_option maxRecDepth 100000 in
theorem n_X4_nextWord (l : Launch) (D : va_G) (ad : Nat → Nat) (cy : Nat → ClassId) (tl : Int32) (A : Nat → Prop) : zMi l yX4_nextWord wz_X4_nextWord ({ frames := 4, cells := 0, slots := 0, locals := 88 }) [.ref (ad 19)] D (zTc cy) A (zMc D A ad cy tl) (fun _ => (zMc D A ad cy tl)) := by
  refine zstart_i (cc := cX4_nextWord) (maxL := 2) (ty := .int) (own := RX4) (by decide) rfl rfl (Nat.le_of_ble_eq_true rfl) (fun p e s m args below meth c Q C r => ?_)
  refine g_sub (lv' := [(0, .ref (ad 19))]) [0] rfl ?_
  refine g_aload_n (pc := 0) C dX4_nextWord_0 rfl 0 rfl ?_
  refine gc_19_0 (pc := 1) C wk_219 dX4_nextWord_1 ?_
  refine g_aload_n (pc := 4) C dX4_nextWord_4 rfl 0 rfl ?_
  refine gc_19_3 (pc := 5) C wk_222 dX4_nextWord_5 (fun z1 => ?_)
  refine zcallVi (pc := 8) (st := []) C C.2.2.2.2.2 (n_X2_wordAt l D ad cy tl A z1) (cwV 1 C.2.2.2.2.1 gw_RX4_25 rfl rfl rfl cd_X2_wordAt ⟨Nat.le_of_ble_eq_true rfl, Nat.le_of_ble_eq_true rfl⟩) (hc_12 C) rfl rfl (Nat.le_of_ble_eq_true rfl) ⟨Nat.le_of_ble_eq_true rfl, Nat.le_of_ble_eq_true rfl⟩ dX4_nextWord_8 (fun r2 => ?_)
  refine g_istore_n (pc := 11) C ([(1, .int r2), (0, .ref (ad 19))]) dX4_nextWord_11 rfl (Nat.le_of_ble_eq_true rfl) rfl ?_
  refine g_aload_n (pc := 12) C dX4_nextWord_12 rfl 1 rfl ?_
  refine g_aload_n (pc := 13) C dX4_nextWord_13 rfl 1 rfl ?_
  refine gc_19_3 (pc := 14) C wk_222 dX4_nextWord_14 (fun z3 => ?_)
  refine g_iconst (pc := 17) C 2 dX4_nextWord_17 (by decide) ?_
  refine g_iadd (pc := 18) C dX4_nextWord_18 (fun z4 ez4 => ?_)
  refine g_ldc (pc := 19) C dX4_nextWord_19 (C.wd wk_384) ?_
  refine g_iand (pc := 21) C dX4_nextWord_21 (fun z5 ez5 => ?_)
  have hz5 : zI 0 65534 z5 := zi_and1 (zi_c 65534 (a := 0) (b := 65534) (by decide)) ez5
  refine pc_19_3 (pc := 22) C wk_222 dX4_nextWord_22 ?_
  refine g_iload_n (pc := 25) C dX4_nextWord_25 rfl 0 rfl ?_
  exact g_ireturn r dX4_nextWord_26 rfl (fun _ h => h)

set_option maxHeartbeats 2000000 in
set_option maxRecDepth 100000 in
theorem n_X4_flag (l : Launch) (D : va_G) (ad : Nat → Nat) (cy : Nat → ClassId) (tl : Int32) (A : Nat → Prop) (p0 : Int32) (p1 : Int32) : zMv l yX4_flag wz_X4_flag ({ frames := 0, cells := 0, slots := 0, locals := 0 }) [.ref (ad 19), .int p0, .int p1] D (zTc cy) A (zMc D A ad cy tl) (zMc D A ad cy tl) := by
  refine zstart_v (cc := cX4_flag) (maxL := 3) (own := RX4) (by decide) rfl rfl (Nat.le_of_ble_eq_true rfl) (fun p e s m args below meth c Q C r => ?_)
  have J22 : ∀ (b0_22 : Int32), zG p l e ({ frames := 0, cells := 0, slots := 0, locals := 0 }) s m args below meth c 3 0 0 A Q (zMc D A ad cy tl) 22 [(0, .ref (ad 19)), (1, .int p0), (2, .int p1)] [.int b0_22, .ref (ad 19)] := by
    intro b0_22
    refine pc_19_5 (pc := 22) C wk_226 dX4_flag_22 ?_
    exact g_return r dX4_flag_25 (fun _ h => h)
  refine g_sub (lv' := [(0, .ref (ad 19)), (1, .int p0), (2, .int p1)]) [0, 1, 2] rfl ?_
  refine g_aload_n (pc := 0) C dX4_flag_0 rfl 0 rfl ?_
  refine g_iload_n (pc := 1) C dX4_flag_1 rfl 2 rfl ?_
  refine g_if_eq (pc := 2) C 14 dX4_flag_2 (by decide) (fun c1 => ?_) (fun c1 => ?_)
  · have h2 : zI 0 0 p1 := zr_eq c1 (zi_full p1) (zi_c 0 (a := 0) (b := 0) (by decide)) (by decide)
    refine g_aload_n (pc := 14) C dX4_flag_14 rfl 0 rfl ?_
    refine gc_19_5 (pc := 15) C wk_226 dX4_flag_15 (fun z3 => ?_)
    refine g_iload_n (pc := 18) C dX4_flag_18 rfl 1 rfl ?_
    refine g_iconst (pc := 19) C (-1) dX4_flag_19 (by decide) ?_
    refine g_ixor (pc := 20) C dX4_flag_20 (fun z4 ez4 => ?_)
    refine g_iand (pc := 21) C dX4_flag_21 (fun z5 ez5 => ?_)
    exact g_sub [0, 1, 2] rfl (J22 z5)
  · refine g_aload_n (pc := 5) C dX4_flag_5 rfl 0 rfl ?_
    refine gc_19_5 (pc := 6) C wk_226 dX4_flag_6 (fun z6 => ?_)
    refine g_iload_n (pc := 9) C dX4_flag_9 rfl 1 rfl ?_
    refine g_ior (pc := 10) C dX4_flag_10 (fun z7 ez7 => ?_)
    refine g_goto (pc := 11) C 22 dX4_flag_11 (by decide) ?_
    exact g_sub [0, 1, 2] rfl (J22 z7)

set_option maxHeartbeats 2000000 in
set_option maxRecDepth 100000 in
theorem n_X4_compare (l : Launch) (D : va_G) (ad : Nat → Nat) (cy : Nat → ClassId) (tl : Int32) (A : Nat → Prop) (p0 : Int32) (p1 : Int32) (p2 : Int32) : zMv l yX4_compare wz_X4_compare ({ frames := 1, cells := 0, slots := 0, locals := 22 }) [.ref (ad 19), .int p0, .int p1, .int p2] D (zTc cy) A (zMc D A ad cy tl) (zMc D A ad cy tl) := by
  refine zstart_v (cc := cX4_compare) (maxL := 6) (own := RX4) (by decide) rfl rfl (Nat.le_of_ble_eq_true rfl) (fun p e s m args below meth c Q C r => ?_)
  have J75 : ∀ (a4_75 : Int32) (a5_75 : Int32) (b0_75 : Int32) (_ : zI 0 1 b0_75), zG p l e ({ frames := 1, cells := 0, slots := 0, locals := 22 }) s m args below meth c 6 0 0 A Q (zMc D A ad cy tl) 75 [(0, .ref (ad 19)), (1, .int p0), (2, .int p1), (3, .int p2), (4, .int a4_75), (5, .int a5_75)] [.int b0_75, .int 8192, .ref (ad 19)] := by
    intro a4_75 a5_75 b0_75 hb0_75
    refine zcallVv (pc := 75) (st := []) C C.2.2.2.2.2 (n_X4_flag l D ad cy tl A 8192 b0_75) (cwV 2 C.2.2.2.2.1 gw_RX4_136 rfl rfl rfl cd_X4_flag ⟨Nat.le_of_ble_eq_true rfl, Nat.le_of_ble_eq_true rfl⟩) (hc_19 C) rfl rfl (Nat.le_of_ble_eq_true rfl) ⟨Nat.le_of_ble_eq_true rfl, Nat.le_of_ble_eq_true rfl⟩ dX4_compare_75 ?_
    exact g_return r dX4_compare_78 (fun _ h => h)
  have J58 : ∀ (a4_58 : Int32) (a5_58 : Int32) (b0_58 : Int32) (_ : zI 0 1 b0_58), zG p l e ({ frames := 1, cells := 0, slots := 0, locals := 22 }) s m args below meth c 6 0 0 A Q (zMc D A ad cy tl) 58 [(0, .ref (ad 19)), (1, .int p0), (2, .int p1), (3, .int p2), (4, .int a4_58), (5, .int a5_58)] [.int b0_58, .int 16384, .ref (ad 19)] := by
    intro a4_58 a5_58 b0_58 hb0_58
    refine zcallVv (pc := 58) (st := []) C C.2.2.2.2.2 (n_X4_flag l D ad cy tl A 16384 b0_58) (cwV 2 C.2.2.2.2.1 gw_RX4_136 rfl rfl rfl cd_X4_flag ⟨Nat.le_of_ble_eq_true rfl, Nat.le_of_ble_eq_true rfl⟩) (hc_19 C) rfl rfl (Nat.le_of_ble_eq_true rfl) ⟨Nat.le_of_ble_eq_true rfl, Nat.le_of_ble_eq_true rfl⟩ dX4_compare_58 ?_
    refine g_aload_n (pc := 61) C dX4_compare_61 rfl 0 rfl ?_
    refine g_sipush (pc := 62) C 8192 dX4_compare_62 (by decide) ?_
    refine g_iload_n (pc := 65) C dX4_compare_65 rfl 1 rfl ?_
    refine g_iload_n (pc := 66) C dX4_compare_66 rfl 2 rfl ?_
    refine g_icmp_ne (pc := 67) C 74 dX4_compare_67 (by decide) (fun c1 => ?_) (fun c1 => ?_)
    · refine g_iconst (pc := 74) C 0 dX4_compare_74 (by decide) ?_
      exact g_sub [0, 1, 2, 3, 4, 5] rfl (J75 a4_58 a5_58 0 (zi_c 0 (a := 0) (b := 1) (by decide)))
    · refine g_iconst (pc := 70) C 1 dX4_compare_70 (by decide) ?_
      refine g_goto (pc := 71) C 75 dX4_compare_71 (by decide) ?_
      exact g_sub [0, 1, 2, 3, 4, 5] rfl (J75 a4_58 a5_58 1 (zi_c 1 (a := 0) (b := 1) (by decide)))
  have J39 : ∀ (a4_39 : Int32) (a5_39 : Int32) (b0_39 : Int32) (_ : zI 0 1 b0_39), zG p l e ({ frames := 1, cells := 0, slots := 0, locals := 22 }) s m args below meth c 6 0 0 A Q (zMc D A ad cy tl) 39 [(0, .ref (ad 19)), (1, .int p0), (2, .int p1), (3, .int p2), (4, .int a4_39), (5, .int a5_39)] [.int b0_39, .int 32768, .ref (ad 19)] := by
    intro a4_39 a5_39 b0_39 hb0_39
    refine zcallVv (pc := 39) (st := []) C C.2.2.2.2.2 (n_X4_flag l D ad cy tl A 32768 b0_39) (cwV 2 C.2.2.2.2.1 gw_RX4_136 rfl rfl rfl cd_X4_flag ⟨Nat.le_of_ble_eq_true rfl, Nat.le_of_ble_eq_true rfl⟩) (hc_19 C) rfl rfl (Nat.le_of_ble_eq_true rfl) ⟨Nat.le_of_ble_eq_true rfl, Nat.le_of_ble_eq_true rfl⟩ dX4_compare_39 ?_
    refine g_aload_n (pc := 42) C dX4_compare_42 rfl 0 rfl ?_
    refine g_sipush (pc := 43) C 16384 dX4_compare_43 (by decide) ?_
    refine g_iload (pc := 46) C dX4_compare_46 4 rfl ?_
    refine g_iload (pc := 48) C dX4_compare_48 5 rfl ?_
    refine g_icmp_le (pc := 50) C 57 dX4_compare_50 (by decide) (fun c2 => ?_) (fun c2 => ?_)
    · refine g_iconst (pc := 57) C 0 dX4_compare_57 (by decide) ?_
      exact g_sub [0, 1, 2, 3, 4, 5] rfl (J58 a4_39 a5_39 0 (zi_c 0 (a := 0) (b := 1) (by decide)))
    · have h3 : zI (-2147483648) 2147483646 a5_39 := zr_lt1 (zc_nle c2) (zi_full a5_39) (zi_full a4_39) (by decide)
      have h4 : zI (-2147483647) 2147483647 a4_39 := zr_lt2 (zc_nle c2) (zi_full a5_39) (zi_full a4_39) (by decide)
      refine g_iconst (pc := 53) C 1 dX4_compare_53 (by decide) ?_
      refine g_goto (pc := 54) C 58 dX4_compare_54 (by decide) ?_
      exact g_sub [0, 1, 2, 3, 4, 5] rfl (J58 a4_39 a5_39 1 (zi_c 1 (a := 0) (b := 1) (by decide)))
  have J24 : ∀ (a4_24 : Int32) (b0_24 : Int32), zG p l e ({ frames := 1, cells := 0, slots := 0, locals := 22 }) s m args below meth c 6 0 0 A Q (zMc D A ad cy tl) 24 [(0, .ref (ad 19)), (1, .int p0), (2, .int p1), (3, .int p2), (4, .int a4_24)] [.int b0_24] := by
    intro a4_24 b0_24
    refine g_istore (pc := 24) C ([(5, .int b0_24), (0, .ref (ad 19)), (1, .int p0), (2, .int p1), (3, .int p2), (4, .int a4_24)]) dX4_compare_24 (Nat.le_of_ble_eq_true rfl) rfl ?_
    refine g_aload_n (pc := 26) C dX4_compare_26 rfl 1 rfl ?_
    refine g_ldc (pc := 27) C dX4_compare_27 (C.wd wk_571) ?_
    refine g_iload_n (pc := 29) C dX4_compare_29 rfl 2 rfl ?_
    refine g_iload_n (pc := 30) C dX4_compare_30 rfl 3 rfl ?_
    refine g_icmp_le (pc := 31) C 38 dX4_compare_31 (by decide) (fun c5 => ?_) (fun c5 => ?_)
    · refine g_iconst (pc := 38) C 0 dX4_compare_38 (by decide) ?_
      exact g_sub [1, 2, 3, 4, 5, 0] rfl (J39 a4_24 b0_24 0 (zi_c 0 (a := 0) (b := 1) (by decide)))
    · have h6 : zI (-2147483648) 2147483646 p1 := zr_lt1 (zc_nle c5) (zi_full p1) (zi_full p0) (by decide)
      have h7 : zI (-2147483647) 2147483647 p0 := zr_lt2 (zc_nle c5) (zi_full p1) (zi_full p0) (by decide)
      refine g_iconst (pc := 34) C 1 dX4_compare_34 (by decide) ?_
      refine g_goto (pc := 35) C 39 dX4_compare_35 (by decide) ?_
      exact g_sub [1, 2, 3, 4, 5, 0] rfl (J39 a4_24 b0_24 1 (zi_c 1 (a := 0) (b := 1) (by decide)))
  have J11 : ∀ (b0_11 : Int32), zG p l e ({ frames := 1, cells := 0, slots := 0, locals := 22 }) s m args below meth c 6 0 0 A Q (zMc D A ad cy tl) 11 [(0, .ref (ad 19)), (1, .int p0), (2, .int p1), (3, .int p2)] [.int b0_11] := by
    intro b0_11
    refine g_istore (pc := 11) C ([(4, .int b0_11), (0, .ref (ad 19)), (1, .int p0), (2, .int p1), (3, .int p2)]) dX4_compare_11 (Nat.le_of_ble_eq_true rfl) rfl ?_
    refine g_iload_n (pc := 13) C dX4_compare_13 rfl 4 rfl ?_
    refine g_if_eq (pc := 14) C 22 dX4_compare_14 (by decide) (fun c8 => ?_) (fun c8 => ?_)
    · have h9 : zI 0 0 p2 := zr_eq c8 (zi_full p2) (zi_c 0 (a := 0) (b := 0) (by decide)) (by decide)
      refine g_iload_n (pc := 22) C dX4_compare_22 rfl 3 rfl ?_
      refine g_i2s (pc := 23) C dX4_compare_23 (fun z10 ez10 => ?_)
      exact g_sub [1, 2, 3, 4, 0] rfl (J24 b0_11 z10)
    · refine g_iload_n (pc := 17) C dX4_compare_17 rfl 3 rfl ?_
      refine g_i2b (pc := 18) C dX4_compare_18 (fun z11 ez11 => ?_)
      have hz11 : zI (-128) 127 z11 := zi_i2b ez11
      refine g_goto (pc := 19) C 24 dX4_compare_19 (by decide) ?_
      exact g_sub [1, 2, 3, 4, 0] rfl (J24 b0_11 z11)
  refine g_sub (lv' := [(0, .ref (ad 19)), (1, .int p0), (2, .int p1), (3, .int p2)]) [0, 1, 2, 3] rfl ?_
  refine g_iload_n (pc := 0) C dX4_compare_0 rfl 3 rfl ?_
  refine g_if_eq (pc := 1) C 9 dX4_compare_1 (by decide) (fun c12 => ?_) (fun c12 => ?_)
  · have h13 : zI 0 0 p2 := zr_eq c12 (zi_full p2) (zi_c 0 (a := 0) (b := 0) (by decide)) (by decide)
    refine g_iload_n (pc := 9) C dX4_compare_9 rfl 1 rfl ?_
    refine g_i2s (pc := 10) C dX4_compare_10 (fun z14 ez14 => ?_)
    exact g_sub [0, 1, 2, 3] rfl (J11 z14)
  · refine g_iload_n (pc := 4) C dX4_compare_4 rfl 1 rfl ?_
    refine g_i2b (pc := 5) C dX4_compare_5 (fun z15 ez15 => ?_)
    have hz15 : zI (-128) 127 z15 := zi_i2b ez15
    refine g_goto (pc := 6) C 11 dX4_compare_6 (by decide) ?_
    exact g_sub [0, 1, 2, 3] rfl (J11 z15)

set_option maxHeartbeats 2000000 in
set_option maxRecDepth 100000 in
theorem n_X4_parity (l : Launch) (D : va_G) (ad : Nat → Nat) (cy : Nat → ClassId) (tl : Int32) (A : Nat → Prop) (p0 : Int32) : zMv l yX4_parity wz_X4_parity ({ frames := 1, cells := 0, slots := 0, locals := 22 }) [.ref (ad 19), .int p0] D (zTc cy) A (zMc D A ad cy tl) (zMc D A ad cy tl) := by
  refine zstart_v (cc := cX4_parity) (maxL := 2) (own := RX4) (by decide) rfl rfl (Nat.le_of_ble_eq_true rfl) (fun p e s m args below meth c Q C r => ?_)
  have J23 : ∀ (b0_23 : Int32) (_ : zI 0 1 b0_23), zG p l e ({ frames := 1, cells := 0, slots := 0, locals := 22 }) s m args below meth c 2 0 0 A Q (zMc D A ad cy tl) 23 [(0, .ref (ad 19)), (1, .int p0)] [.int b0_23, .int 1024, .ref (ad 19)] := by
    intro b0_23 hb0_23
    refine zcallVv (pc := 23) (st := []) C C.2.2.2.2.2 (n_X4_flag l D ad cy tl A 1024 b0_23) (cwV 2 C.2.2.2.2.1 gw_RX4_136 rfl rfl rfl cd_X4_flag ⟨Nat.le_of_ble_eq_true rfl, Nat.le_of_ble_eq_true rfl⟩) (hc_19 C) rfl rfl (Nat.le_of_ble_eq_true rfl) ⟨Nat.le_of_ble_eq_true rfl, Nat.le_of_ble_eq_true rfl⟩ dX4_parity_23 ?_
    exact g_return r dX4_parity_26 (fun _ h => h)
  refine g_sub (lv' := [(0, .ref (ad 19)), (1, .int p0)]) [0, 1] rfl ?_
  refine g_aload_n (pc := 0) C dX4_parity_0 rfl 0 rfl ?_
  refine g_sipush (pc := 1) C 1024 dX4_parity_1 (by decide) ?_
  refine g_iload_n (pc := 4) C dX4_parity_4 rfl 1 rfl ?_
  refine g_sipush (pc := 5) C 255 dX4_parity_5 (by decide) ?_
  refine g_iand (pc := 8) C dX4_parity_8 (fun z1 ez1 => ?_)
  have hz1 : zI 0 255 z1 := zi_and1 (zi_c 255 (a := 0) (b := 255) (by decide)) ez1
  refine zcallSi (pc := 9) (st := [.int 1024, .ref (ad 19)]) C C.2.2.2.2.2 (n_bitCount l D ad cy tl A z1) (va_cwS 1 C.2.2.2.2.1 gw_RX4_140 rfl rfl rfl cs_J6_bitCount_0f7a4 ⟨Nat.le_of_ble_eq_true rfl, Nat.le_of_ble_eq_true rfl⟩) rfl rfl (Nat.le_of_ble_eq_true rfl) ⟨Nat.le_of_ble_eq_true rfl, Nat.le_of_ble_eq_true rfl⟩ dX4_parity_9 (fun r2 => ?_)
  refine g_iconst (pc := 12) C 1 dX4_parity_12 (by decide) ?_
  refine g_iand (pc := 13) C dX4_parity_13 (fun z3 ez3 => ?_)
  have hz3 : zI 0 1 z3 := zi_and1 (zi_c 1 (a := 0) (b := 1) (by decide)) ez3
  refine g_iconst (pc := 14) C 1 dX4_parity_14 (by decide) ?_
  refine g_icmp_ne (pc := 15) C 22 dX4_parity_15 (by decide) (fun c4 => ?_) (fun c4 => ?_)
  · have h5 : zI 0 0 z3 := zr_neH c4 hz3 (zi_c 1 (a := 1) (b := 1) (by decide)) (by decide)
    refine g_iconst (pc := 22) C 0 dX4_parity_22 (by decide) ?_
    exact g_sub [0, 1] rfl (J23 0 (zi_c 0 (a := 0) (b := 1) (by decide)))
  · have h6 : zI 1 1 z3 := zr_eq c4 hz3 (zi_c 1 (a := 1) (b := 1) (by decide)) (by decide)
    refine g_iconst (pc := 18) C 1 dX4_parity_18 (by decide) ?_
    refine g_goto (pc := 19) C 23 dX4_parity_19 (by decide) ?_
    exact g_sub [0, 1] rfl (J23 1 (zi_c 1 (a := 0) (b := 1) (by decide)))

set_option maxHeartbeats 2000000 in
set_option maxRecDepth 100000 in
theorem n_X4_add (l : Launch) (D : va_G) (ad : Nat → Nat) (cy : Nat → ClassId) (tl : Int32) (A : Nat → Prop) (p0 : Int32) (p1 : Int32) (p2 : Int32) : zMi l yX4_add wz_X4_add ({ frames := 2, cells := 0, slots := 0, locals := 47 }) [.ref (ad 19), .int p0, .int p1, .int p2] D (zTc cy) A (zMc D A ad cy tl) (fun _ => (zMc D A ad cy tl)) := by
  refine zstart_i (cc := cX4_add) (maxL := 8) (ty := .int) (own := RX4) (by decide) rfl rfl (Nat.le_of_ble_eq_true rfl) (fun p e s m args below meth c Q C r => ?_)
  have J91 : ∀ (a4_91 : Int32) (a5_91 : Int32) (a6_91 : Int32) (a7_91 : Int32) (b0_91 : Int32) (_ : zI 255 65535 a4_91) (_ : zI 128 32768 a5_91) (_ : zI 0 65535 a7_91) (_ : zI 0 1 b0_91), zG p l e ({ frames := 2, cells := 0, slots := 0, locals := 47 }) s m args below meth c 8 0 0 A Q (zMc D A ad cy tl) 91 [(0, .ref (ad 19)), (1, .int p0), (2, .int p1), (3, .int p2), (4, .int a4_91), (5, .int a5_91), (6, .int a6_91), (7, .int a7_91)] [.int b0_91, .int 2048, .ref (ad 19)] := by
    intro a4_91 a5_91 a6_91 a7_91 b0_91 ha4_91 ha5_91 ha7_91 hb0_91
    refine zcallVv (pc := 91) (st := []) C C.2.2.2.2.2 (n_X4_flag l D ad cy tl A 2048 b0_91) (cwV 2 C.2.2.2.2.1 gw_RX4_136 rfl rfl rfl cd_X4_flag ⟨Nat.le_of_ble_eq_true rfl, Nat.le_of_ble_eq_true rfl⟩) (hc_19 C) rfl rfl (Nat.le_of_ble_eq_true rfl) ⟨Nat.le_of_ble_eq_true rfl, Nat.le_of_ble_eq_true rfl⟩ dX4_add_91 ?_
    refine g_iload (pc := 94) C dX4_add_94 7 rfl ?_
    exact g_ireturn r dX4_add_96 rfl (fun _ h => h)
  have J64 : ∀ (a4_64 : Int32) (a5_64 : Int32) (a6_64 : Int32) (a7_64 : Int32) (b0_64 : Int32) (_ : zI 255 65535 a4_64) (_ : zI 128 32768 a5_64) (_ : zI 0 65535 a7_64) (_ : zI 0 1 b0_64), zG p l e ({ frames := 2, cells := 0, slots := 0, locals := 47 }) s m args below meth c 8 0 0 A Q (zMc D A ad cy tl) 64 [(0, .ref (ad 19)), (1, .int p0), (2, .int p1), (3, .int p2), (4, .int a4_64), (5, .int a5_64), (6, .int a6_64), (7, .int a7_64)] [.int b0_64, .int 4096, .ref (ad 19)] := by
    intro a4_64 a5_64 a6_64 a7_64 b0_64 ha4_64 ha5_64 ha7_64 hb0_64
    refine zcallVv (pc := 64) (st := []) C C.2.2.2.2.2 (n_X4_flag l D ad cy tl A 4096 b0_64) (cwV 2 C.2.2.2.2.1 gw_RX4_136 rfl rfl rfl cd_X4_flag ⟨Nat.le_of_ble_eq_true rfl, Nat.le_of_ble_eq_true rfl⟩) (hc_19 C) rfl rfl (Nat.le_of_ble_eq_true rfl) ⟨Nat.le_of_ble_eq_true rfl, Nat.le_of_ble_eq_true rfl⟩ dX4_add_64 ?_
    refine g_aload_n (pc := 67) C dX4_add_67 rfl 0 rfl ?_
    refine g_sipush (pc := 68) C 2048 dX4_add_68 (by decide) ?_
    refine g_iload_n (pc := 71) C dX4_add_71 rfl 1 rfl ?_
    refine g_iload (pc := 72) C dX4_add_72 7 rfl ?_
    refine g_ixor (pc := 74) C dX4_add_74 (fun z1 ez1 => ?_)
    refine g_iload_n (pc := 75) C dX4_add_75 rfl 2 rfl ?_
    refine g_iload (pc := 76) C dX4_add_76 7 rfl ?_
    refine g_ixor (pc := 78) C dX4_add_78 (fun z2 ez2 => ?_)
    refine g_iand (pc := 79) C dX4_add_79 (fun z3 ez3 => ?_)
    refine g_iload (pc := 80) C dX4_add_80 5 rfl ?_
    refine g_iand (pc := 82) C dX4_add_82 (fun z4 ez4 => ?_)
    have hz4 : zI 0 32768 z4 := zi_and1 (zi_w ha5_64 (a' := 0) (b' := 32768) (by decide)) ez4
    refine g_if_eq (pc := 83) C 90 dX4_add_83 (by decide) (fun c5 => ?_) (fun c5 => ?_)
    · have h6 : zI 0 0 z4 := zr_eq c5 hz4 (zi_c 0 (a := 0) (b := 0) (by decide)) (by decide)
      refine g_iconst (pc := 90) C 0 dX4_add_90 (by decide) ?_
      exact g_sub [0, 1, 2, 3, 4, 5, 6, 7] rfl (J91 a4_64 a5_64 a6_64 a7_64 0 ha4_64 ha5_64 ha7_64 (zi_c 0 (a := 0) (b := 1) (by decide)))
    · have h7 : zI 1 32768 z4 := zr_neL c5 hz4 (zi_c 0 (a := 0) (b := 0) (by decide)) (by decide)
      refine g_iconst (pc := 86) C 1 dX4_add_86 (by decide) ?_
      refine g_goto (pc := 87) C 91 dX4_add_87 (by decide) ?_
      exact g_sub [0, 1, 2, 3, 4, 5, 6, 7] rfl (J91 a4_64 a5_64 a6_64 a7_64 1 ha4_64 ha5_64 ha7_64 (zi_c 1 (a := 0) (b := 1) (by decide)))
  have J26 : ∀ (a4_26 : Int32) (b0_26 : Int32) (_ : zI 255 65535 a4_26) (_ : zI 128 32768 b0_26), zG p l e ({ frames := 2, cells := 0, slots := 0, locals := 47 }) s m args below meth c 8 0 0 A Q (zMc D A ad cy tl) 26 [(0, .ref (ad 19)), (1, .int p0), (2, .int p1), (3, .int p2), (4, .int a4_26)] [.int b0_26] := by
    intro a4_26 b0_26 ha4_26 hb0_26
    refine g_istore (pc := 26) C ([(5, .int b0_26), (0, .ref (ad 19)), (1, .int p0), (2, .int p1), (3, .int p2), (4, .int a4_26)]) dX4_add_26 (Nat.le_of_ble_eq_true rfl) rfl ?_
    refine g_iload_n (pc := 28) C dX4_add_28 rfl 2 rfl ?_
    refine g_iload_n (pc := 29) C dX4_add_29 rfl 3 rfl ?_
    refine g_iadd (pc := 30) C dX4_add_30 (fun z8 ez8 => ?_)
    refine g_istore (pc := 31) C ([(6, .int z8), (5, .int b0_26), (0, .ref (ad 19)), (1, .int p0), (2, .int p1), (3, .int p2), (4, .int a4_26)]) dX4_add_31 (Nat.le_of_ble_eq_true rfl) rfl ?_
    refine g_iload (pc := 33) C dX4_add_33 0 rfl ?_
    refine g_iload (pc := 35) C dX4_add_35 6 rfl ?_
    refine g_iand (pc := 37) C dX4_add_37 (fun z9 ez9 => ?_)
    have hz9 : zI 0 65535 z9 := zi_and1 (zi_w ha4_26 (a' := 0) (b' := 65535) (by decide)) ez9
    refine g_istore (pc := 38) C ([(7, .int z9), (6, .int z8), (5, .int b0_26), (0, .ref (ad 19)), (1, .int p0), (2, .int p1), (3, .int p2), (4, .int a4_26)]) dX4_add_38 (Nat.le_of_ble_eq_true rfl) rfl ?_
    refine g_aload_n (pc := 40) C dX4_add_40 rfl 3 rfl ?_
    refine g_iload (pc := 41) C dX4_add_41 0 rfl ?_
    refine g_iconst (pc := 43) C 0 dX4_add_43 (by decide) ?_
    refine g_iload_n (pc := 44) C dX4_add_44 rfl 6 rfl ?_
    refine zcallVv (pc := 45) (st := []) C C.2.2.2.2.2 (n_X4_compare l D ad cy tl A z9 0 p2) (cwV 3 C.2.2.2.2.1 gw_RX4_145 rfl rfl rfl cd_X4_compare ⟨Nat.le_of_ble_eq_true rfl, Nat.le_of_ble_eq_true rfl⟩) (hc_19 C) rfl rfl (Nat.le_of_ble_eq_true rfl) ⟨Nat.le_of_ble_eq_true rfl, Nat.le_of_ble_eq_true rfl⟩ dX4_add_45 ?_
    refine g_aload_n (pc := 48) C dX4_add_48 rfl 3 rfl ?_
    refine g_sipush (pc := 49) C 4096 dX4_add_49 (by decide) ?_
    refine g_iload (pc := 52) C dX4_add_52 1 rfl ?_
    refine g_iload (pc := 54) C dX4_add_54 7 rfl ?_
    refine g_icmp_le (pc := 56) C 63 dX4_add_56 (by decide) (fun c10 => ?_) (fun c10 => ?_)
    · have h11 : zI (-2147483648) 65535 z8 := zr_le1 (zc_le c10) (zi_full z8) ha4_26 (by decide)
      refine g_iconst (pc := 63) C 0 dX4_add_63 (by decide) ?_
      exact g_sub [3, 4, 5, 6, 7, 2, 1, 0] rfl (J64 a4_26 b0_26 z8 z9 0 ha4_26 hb0_26 hz9 (zi_c 0 (a := 0) (b := 1) (by decide)))
    · have h12 : zI 256 2147483647 z8 := zr_lt2 (zc_nle c10) ha4_26 (zi_full z8) (by decide)
      refine g_iconst (pc := 59) C 1 dX4_add_59 (by decide) ?_
      refine g_goto (pc := 60) C 64 dX4_add_60 (by decide) ?_
      exact g_sub [3, 4, 5, 6, 7, 2, 1, 0] rfl (J64 a4_26 b0_26 z8 z9 1 ha4_26 hb0_26 hz9 (zi_c 1 (a := 0) (b := 1) (by decide)))
  have J12 : ∀ (b0_12 : Int32) (_ : zI 255 65535 b0_12), zG p l e ({ frames := 2, cells := 0, slots := 0, locals := 47 }) s m args below meth c 8 0 0 A Q (zMc D A ad cy tl) 12 [(0, .ref (ad 19)), (1, .int p0), (2, .int p1), (3, .int p2)] [.int b0_12] := by
    intro b0_12 hb0_12
    refine g_istore (pc := 12) C ([(4, .int b0_12), (0, .ref (ad 19)), (1, .int p0), (2, .int p1), (3, .int p2)]) dX4_add_12 (Nat.le_of_ble_eq_true rfl) rfl ?_
    refine g_iload_n (pc := 14) C dX4_add_14 rfl 4 rfl ?_
    refine g_if_eq (pc := 15) C 24 dX4_add_15 (by decide) (fun c13 => ?_) (fun c13 => ?_)
    · have h14 : zI 0 0 p2 := zr_eq c13 (zi_full p2) (zi_c 0 (a := 0) (b := 0) (by decide)) (by decide)
      refine g_ldc (pc := 24) C dX4_add_24 (C.wd wk_571) ?_
      exact g_sub [1, 2, 3, 4, 0] rfl (J26 b0_12 32768 hb0_12 (zi_c 32768 (a := 128) (b := 32768) (by decide)))
    · refine g_sipush (pc := 18) C 128 dX4_add_18 (by decide) ?_
      refine g_goto (pc := 21) C 26 dX4_add_21 (by decide) ?_
      exact g_sub [1, 2, 3, 4, 0] rfl (J26 b0_12 128 hb0_12 (zi_c 128 (a := 128) (b := 32768) (by decide)))
  refine g_sub (lv' := [(0, .ref (ad 19)), (1, .int p0), (2, .int p1), (3, .int p2)]) [0, 1, 2, 3] rfl ?_
  refine g_iload_n (pc := 0) C dX4_add_0 rfl 3 rfl ?_
  refine g_if_eq (pc := 1) C 10 dX4_add_1 (by decide) (fun c15 => ?_) (fun c15 => ?_)
  · have h16 : zI 0 0 p2 := zr_eq c15 (zi_full p2) (zi_c 0 (a := 0) (b := 0) (by decide)) (by decide)
    refine g_ldc (pc := 10) C dX4_add_10 (C.wd wk_538) ?_
    exact g_sub [0, 1, 2, 3] rfl (J12 65535 (zi_c 65535 (a := 255) (b := 65535) (by decide)))
  · refine g_sipush (pc := 4) C 255 dX4_add_4 (by decide) ?_
    refine g_goto (pc := 7) C 12 dX4_add_7 (by decide) ?_
    exact g_sub [0, 1, 2, 3] rfl (J12 255 (zi_c 255 (a := 255) (b := 65535) (by decide)))

set_option maxHeartbeats 2000000 in
set_option maxRecDepth 100000 in
theorem n_X4_subtract (l : Launch) (D : va_G) (ad : Nat → Nat) (cy : Nat → ClassId) (tl : Int32) (A : Nat → Prop) (p0 : Int32) (p1 : Int32) (p2 : Int32) : zMi l yX4_subtract wz_X4_subtract ({ frames := 2, cells := 0, slots := 0, locals := 47 }) [.ref (ad 19), .int p0, .int p1, .int p2] D (zTc cy) A (zMc D A ad cy tl) (fun _ => (zMc D A ad cy tl)) := by
  refine zstart_i (cc := cX4_subtract) (maxL := 7) (ty := .int) (own := RX4) (by decide) rfl rfl (Nat.le_of_ble_eq_true rfl) (fun p e s m args below meth c Q C r => ?_)
  have J84 : ∀ (a4_84 : Int32) (a5_84 : Int32) (a6_84 : Int32) (b0_84 : Int32) (_ : zI 255 65535 a4_84) (_ : zI 128 32768 a5_84) (_ : zI 0 65535 a6_84) (_ : zI 0 1 b0_84), zG p l e ({ frames := 2, cells := 0, slots := 0, locals := 47 }) s m args below meth c 7 0 0 A Q (zMc D A ad cy tl) 84 [(0, .ref (ad 19)), (1, .int p0), (2, .int p1), (3, .int p2), (4, .int a4_84), (5, .int a5_84), (6, .int a6_84)] [.int b0_84, .int 2048, .ref (ad 19)] := by
    intro a4_84 a5_84 a6_84 b0_84 ha4_84 ha5_84 ha6_84 hb0_84
    refine zcallVv (pc := 84) (st := []) C C.2.2.2.2.2 (n_X4_flag l D ad cy tl A 2048 b0_84) (cwV 2 C.2.2.2.2.1 gw_RX4_136 rfl rfl rfl cd_X4_flag ⟨Nat.le_of_ble_eq_true rfl, Nat.le_of_ble_eq_true rfl⟩) (hc_19 C) rfl rfl (Nat.le_of_ble_eq_true rfl) ⟨Nat.le_of_ble_eq_true rfl, Nat.le_of_ble_eq_true rfl⟩ dX4_subtract_84 ?_
    refine g_iload (pc := 87) C dX4_subtract_87 6 rfl ?_
    exact g_ireturn r dX4_subtract_89 rfl (fun _ h => h)
  have J58 : ∀ (a4_58 : Int32) (a5_58 : Int32) (a6_58 : Int32) (b0_58 : Int32) (_ : zI 255 65535 a4_58) (_ : zI 128 32768 a5_58) (_ : zI 0 65535 a6_58) (_ : zI 0 1 b0_58), zG p l e ({ frames := 2, cells := 0, slots := 0, locals := 47 }) s m args below meth c 7 0 0 A Q (zMc D A ad cy tl) 58 [(0, .ref (ad 19)), (1, .int p0), (2, .int p1), (3, .int p2), (4, .int a4_58), (5, .int a5_58), (6, .int a6_58)] [.int b0_58, .int 4096, .ref (ad 19)] := by
    intro a4_58 a5_58 a6_58 b0_58 ha4_58 ha5_58 ha6_58 hb0_58
    refine zcallVv (pc := 58) (st := []) C C.2.2.2.2.2 (n_X4_flag l D ad cy tl A 4096 b0_58) (cwV 2 C.2.2.2.2.1 gw_RX4_136 rfl rfl rfl cd_X4_flag ⟨Nat.le_of_ble_eq_true rfl, Nat.le_of_ble_eq_true rfl⟩) (hc_19 C) rfl rfl (Nat.le_of_ble_eq_true rfl) ⟨Nat.le_of_ble_eq_true rfl, Nat.le_of_ble_eq_true rfl⟩ dX4_subtract_58 ?_
    refine g_aload_n (pc := 61) C dX4_subtract_61 rfl 0 rfl ?_
    refine g_sipush (pc := 62) C 2048 dX4_subtract_62 (by decide) ?_
    refine g_iload_n (pc := 65) C dX4_subtract_65 rfl 1 rfl ?_
    refine g_iload_n (pc := 66) C dX4_subtract_66 rfl 2 rfl ?_
    refine g_ixor (pc := 67) C dX4_subtract_67 (fun z1 ez1 => ?_)
    refine g_iload_n (pc := 68) C dX4_subtract_68 rfl 1 rfl ?_
    refine g_iload (pc := 69) C dX4_subtract_69 6 rfl ?_
    refine g_ixor (pc := 71) C dX4_subtract_71 (fun z2 ez2 => ?_)
    refine g_iand (pc := 72) C dX4_subtract_72 (fun z3 ez3 => ?_)
    refine g_iload (pc := 73) C dX4_subtract_73 5 rfl ?_
    refine g_iand (pc := 75) C dX4_subtract_75 (fun z4 ez4 => ?_)
    have hz4 : zI 0 32768 z4 := zi_and1 (zi_w ha5_58 (a' := 0) (b' := 32768) (by decide)) ez4
    refine g_if_eq (pc := 76) C 83 dX4_subtract_76 (by decide) (fun c5 => ?_) (fun c5 => ?_)
    · have h6 : zI 0 0 z4 := zr_eq c5 hz4 (zi_c 0 (a := 0) (b := 0) (by decide)) (by decide)
      refine g_iconst (pc := 83) C 0 dX4_subtract_83 (by decide) ?_
      exact g_sub [0, 1, 2, 3, 4, 5, 6] rfl (J84 a4_58 a5_58 a6_58 0 ha4_58 ha5_58 ha6_58 (zi_c 0 (a := 0) (b := 1) (by decide)))
    · have h7 : zI 1 32768 z4 := zr_neL c5 hz4 (zi_c 0 (a := 0) (b := 0) (by decide)) (by decide)
      refine g_iconst (pc := 79) C 1 dX4_subtract_79 (by decide) ?_
      refine g_goto (pc := 80) C 84 dX4_subtract_80 (by decide) ?_
      exact g_sub [0, 1, 2, 3, 4, 5, 6] rfl (J84 a4_58 a5_58 a6_58 1 ha4_58 ha5_58 ha6_58 (zi_c 1 (a := 0) (b := 1) (by decide)))
  have J26 : ∀ (a4_26 : Int32) (b0_26 : Int32) (_ : zI 255 65535 a4_26) (_ : zI 128 32768 b0_26), zG p l e ({ frames := 2, cells := 0, slots := 0, locals := 47 }) s m args below meth c 7 0 0 A Q (zMc D A ad cy tl) 26 [(0, .ref (ad 19)), (1, .int p0), (2, .int p1), (3, .int p2), (4, .int a4_26)] [.int b0_26] := by
    intro a4_26 b0_26 ha4_26 hb0_26
    refine g_istore (pc := 26) C ([(5, .int b0_26), (0, .ref (ad 19)), (1, .int p0), (2, .int p1), (3, .int p2), (4, .int a4_26)]) dX4_subtract_26 (Nat.le_of_ble_eq_true rfl) rfl ?_
    refine g_iload_n (pc := 28) C dX4_subtract_28 rfl 2 rfl ?_
    refine g_iload_n (pc := 29) C dX4_subtract_29 rfl 3 rfl ?_
    refine g_isub (pc := 30) C dX4_subtract_30 (fun z8 ez8 => ?_)
    refine g_iload (pc := 31) C dX4_subtract_31 5 rfl ?_
    refine g_iand (pc := 33) C dX4_subtract_33 (fun z9 ez9 => ?_)
    have hz9 : zI 0 65535 z9 := zi_and1 (zi_w ha4_26 (a' := 0) (b' := 65535) (by decide)) ez9
    refine g_istore (pc := 34) C ([(6, .int z9), (5, .int b0_26), (0, .ref (ad 19)), (1, .int p0), (2, .int p1), (3, .int p2), (4, .int a4_26)]) dX4_subtract_34 (Nat.le_of_ble_eq_true rfl) rfl ?_
    refine g_aload_n (pc := 36) C dX4_subtract_36 rfl 2 rfl ?_
    refine g_iload (pc := 37) C dX4_subtract_37 0 rfl ?_
    refine g_iconst (pc := 39) C 0 dX4_subtract_39 (by decide) ?_
    refine g_iload_n (pc := 40) C dX4_subtract_40 rfl 5 rfl ?_
    refine zcallVv (pc := 41) (st := []) C C.2.2.2.2.2 (n_X4_compare l D ad cy tl A z9 0 p2) (cwV 3 C.2.2.2.2.1 gw_RX4_145 rfl rfl rfl cd_X4_compare ⟨Nat.le_of_ble_eq_true rfl, Nat.le_of_ble_eq_true rfl⟩) (hc_19 C) rfl rfl (Nat.le_of_ble_eq_true rfl) ⟨Nat.le_of_ble_eq_true rfl, Nat.le_of_ble_eq_true rfl⟩ dX4_subtract_41 ?_
    refine g_aload_n (pc := 44) C dX4_subtract_44 rfl 2 rfl ?_
    refine g_sipush (pc := 45) C 4096 dX4_subtract_45 (by decide) ?_
    refine g_iload_n (pc := 48) C dX4_subtract_48 rfl 4 rfl ?_
    refine g_iload_n (pc := 49) C dX4_subtract_49 rfl 3 rfl ?_
    refine g_icmp_gt (pc := 50) C 57 dX4_subtract_50 (by decide) (fun c10 => ?_) (fun c10 => ?_)
    · have h11 : zI (-2147483648) 2147483646 p0 := zr_lt1 (zc_lt c10) (zi_full p0) (zi_full p1) (by decide)
      have h12 : zI (-2147483647) 2147483647 p1 := zr_lt2 (zc_lt c10) (zi_full p0) (zi_full p1) (by decide)
      refine g_iconst (pc := 57) C 0 dX4_subtract_57 (by decide) ?_
      exact g_sub [2, 3, 4, 5, 6, 1, 0] rfl (J58 a4_26 b0_26 z9 0 ha4_26 hb0_26 hz9 (zi_c 0 (a := 0) (b := 1) (by decide)))
    · refine g_iconst (pc := 53) C 1 dX4_subtract_53 (by decide) ?_
      refine g_goto (pc := 54) C 58 dX4_subtract_54 (by decide) ?_
      exact g_sub [2, 3, 4, 5, 6, 1, 0] rfl (J58 a4_26 b0_26 z9 1 ha4_26 hb0_26 hz9 (zi_c 1 (a := 0) (b := 1) (by decide)))
  have J12 : ∀ (b0_12 : Int32) (_ : zI 255 65535 b0_12), zG p l e ({ frames := 2, cells := 0, slots := 0, locals := 47 }) s m args below meth c 7 0 0 A Q (zMc D A ad cy tl) 12 [(0, .ref (ad 19)), (1, .int p0), (2, .int p1), (3, .int p2)] [.int b0_12] := by
    intro b0_12 hb0_12
    refine g_istore (pc := 12) C ([(4, .int b0_12), (0, .ref (ad 19)), (1, .int p0), (2, .int p1), (3, .int p2)]) dX4_subtract_12 (Nat.le_of_ble_eq_true rfl) rfl ?_
    refine g_iload_n (pc := 14) C dX4_subtract_14 rfl 4 rfl ?_
    refine g_if_eq (pc := 15) C 24 dX4_subtract_15 (by decide) (fun c13 => ?_) (fun c13 => ?_)
    · have h14 : zI 0 0 p2 := zr_eq c13 (zi_full p2) (zi_c 0 (a := 0) (b := 0) (by decide)) (by decide)
      refine g_ldc (pc := 24) C dX4_subtract_24 (C.wd wk_571) ?_
      exact g_sub [1, 2, 3, 4, 0] rfl (J26 b0_12 32768 hb0_12 (zi_c 32768 (a := 128) (b := 32768) (by decide)))
    · refine g_sipush (pc := 18) C 128 dX4_subtract_18 (by decide) ?_
      refine g_goto (pc := 21) C 26 dX4_subtract_21 (by decide) ?_
      exact g_sub [1, 2, 3, 4, 0] rfl (J26 b0_12 128 hb0_12 (zi_c 128 (a := 128) (b := 32768) (by decide)))
  refine g_sub (lv' := [(0, .ref (ad 19)), (1, .int p0), (2, .int p1), (3, .int p2)]) [0, 1, 2, 3] rfl ?_
  refine g_iload_n (pc := 0) C dX4_subtract_0 rfl 3 rfl ?_
  refine g_if_eq (pc := 1) C 10 dX4_subtract_1 (by decide) (fun c15 => ?_) (fun c15 => ?_)
  · have h16 : zI 0 0 p2 := zr_eq c15 (zi_full p2) (zi_c 0 (a := 0) (b := 0) (by decide)) (by decide)
    refine g_ldc (pc := 10) C dX4_subtract_10 (C.wd wk_538) ?_
    exact g_sub [0, 1, 2, 3] rfl (J12 65535 (zi_c 65535 (a := 255) (b := 65535) (by decide)))
  · refine g_sipush (pc := 4) C 255 dX4_subtract_4 (by decide) ?_
    refine g_goto (pc := 7) C 12 dX4_subtract_7 (by decide) ?_
    exact g_sub [0, 1, 2, 3] rfl (J12 255 (zi_c 255 (a := 255) (b := 65535) (by decide)))

set_option maxHeartbeats 2000000 in
set_option maxRecDepth 100000 in
theorem n_X4_operandAddress (l : Launch) (D : va_G) (ad : Nat → Nat) (cy : Nat → ClassId) (tl : Int32) (A : Nat → Prop) (p0 : Int32) (p1 : Int32) : zMi l yX4_operandAddress wz_X4_operandAddress ({ frames := 4, cells := 0, slots := 0, locals := 95 }) [.ref (ad 19), .int p0, .int p1] D (zTc cy) A (zMc D A ad cy tl) (fun _ => (zMc D A ad cy tl)) := by
  refine zstart_i (cc := cX4_operandAddress) (maxL := 6) (ty := .int) (own := RX4) (by decide) rfl rfl (Nat.le_of_ble_eq_true rfl) (fun p e s m args below meth c Q C r => ?_)
  have J107 : ∀ (a3_107 : Int32) (a4_107 : Int32) (a5_107 : Int32) (b0_107 : Int32) (_ : zI 0 15 a3_107), zG p l e ({ frames := 4, cells := 0, slots := 0, locals := 95 }) s m args below meth c 6 0 0 A Q (zMc D A ad cy tl) 107 [(0, .ref (ad 19)), (1, .int p0), (2, .int p1), (3, .int a3_107), (4, .int a4_107), (5, .int a5_107)] [.int b0_107] := by
    intro a3_107 a4_107 a5_107 b0_107 ha3_107
    exact g_ireturn r dX4_operandAddress_107 rfl (fun _ h => h)
  have J136 : ∀ (a3_136 : Int32) (a4_136 : Int32) (a5_136 : Int32) (b0_136 : Int32) (b1_136 : Int32) (b2_136 : Int32) (_ : zI 0 15 a3_136) (_ : zI 1 2 b0_136), zG p l e ({ frames := 4, cells := 0, slots := 0, locals := 95 }) s m args below meth c 6 0 0 A Q (zMc D A ad cy tl) 136 [(0, .ref (ad 19)), (1, .int p0), (2, .int p1), (3, .int a3_136), (4, .int a4_136), (5, .int a5_136)] [.int b0_136, .int b1_136, .int b2_136, .ref (ad 12)] := by
    intro a3_136 a4_136 a5_136 b0_136 b1_136 b2_136 ha3_136 hb0_136
    refine g_iadd (pc := 136) C dX4_operandAddress_136 (fun z1 ez1 => ?_)
    refine zcallVv (pc := 137) (st := []) C C.2.2.2.2.2 (n_X2_putWord l D ad cy tl A b2_136 z1) (cwV 2 C.2.2.2.2.1 gw_RX4_131 rfl rfl rfl cd_X2_putWord ⟨Nat.le_of_ble_eq_true rfl, Nat.le_of_ble_eq_true rfl⟩) (hc_12 C) rfl rfl (Nat.le_of_ble_eq_true rfl) ⟨Nat.le_of_ble_eq_true rfl, Nat.le_of_ble_eq_true rfl⟩ dX4_operandAddress_137 ?_
    refine g_iload (pc := 140) C dX4_operandAddress_140 5 rfl ?_
    exact g_ireturn r dX4_operandAddress_142 rfl (fun _ h => h)
  refine g_sub (lv' := [(0, .ref (ad 19)), (1, .int p0), (2, .int p1)]) [0, 1, 2] rfl ?_
  refine g_iload_n (pc := 0) C dX4_operandAddress_0 rfl 1 rfl ?_
  refine g_bipush (pc := 1) C 15 dX4_operandAddress_1 (by decide) ?_
  refine g_iand (pc := 3) C dX4_operandAddress_3 (fun z2 ez2 => ?_)
  have hz2 : zI 0 15 z2 := zi_and1 (zi_c 15 (a := 0) (b := 15) (by decide)) ez2
  refine g_istore_n (pc := 4) C ([(3, .int z2), (0, .ref (ad 19)), (1, .int p0), (2, .int p1)]) dX4_operandAddress_4 rfl (Nat.le_of_ble_eq_true rfl) rfl ?_
  refine g_aload_n (pc := 5) C dX4_operandAddress_5 rfl 1 rfl ?_
  refine g_iload_n (pc := 6) C dX4_operandAddress_6 rfl 0 rfl ?_
  refine zcallVi (pc := 7) (st := []) C C.2.2.2.2.2 (n_X4_registerAddress l D ad cy tl A z2) (cwV 1 C.2.2.2.2.1 gw_RX4_128 rfl rfl rfl cd_X4_registerAddress ⟨Nat.le_of_ble_eq_true rfl, Nat.le_of_ble_eq_true rfl⟩) (hc_19 C) rfl rfl (Nat.le_of_ble_eq_true rfl) ⟨Nat.le_of_ble_eq_true rfl, Nat.le_of_ble_eq_true rfl⟩ dX4_operandAddress_7 (fun r3 => ?_)
  refine g_istore (pc := 10) C ([(4, .int r3), (3, .int z2), (0, .ref (ad 19)), (1, .int p0), (2, .int p1)]) dX4_operandAddress_10 (Nat.le_of_ble_eq_true rfl) rfl ?_
  refine g_iload_n (pc := 12) C dX4_operandAddress_12 rfl 3 rfl ?_
  refine g_iconst (pc := 13) C 4 dX4_operandAddress_13 (by decide) ?_
  refine g_ishr (pc := 14) C dX4_operandAddress_14 (fun z4 ez4 => ?_)
  refine g_iconst (pc := 15) C 3 dX4_operandAddress_15 (by decide) ?_
  refine g_iand (pc := 16) C dX4_operandAddress_16 (fun z5 ez5 => ?_)
  have hz5 : zI 0 3 z5 := zi_and1 (zi_c 3 (a := 0) (b := 3) (by decide)) ez5
  refine g_tableI (pc := 17) C 0 3 (zi_w hz5 (a' := 0) (b' := 0 + (3 : Nat)) (by decide)) [44, 47, 57, 108] dX4_operandAddress_17 (by decide) (by decide) (by decide) (List.forall_mem_cons.mpr ⟨?_, (List.forall_mem_cons.mpr ⟨?_, (List.forall_mem_cons.mpr ⟨?_, (List.forall_mem_cons.mpr ⟨?_, fun _ h => absurd h List.not_mem_nil⟩)⟩)⟩)⟩)
  · refine g_iload (pc := 44) C dX4_operandAddress_44 0 rfl ?_
    exact g_ireturn r dX4_operandAddress_46 rfl (fun _ h => h)
  · refine g_aload_n (pc := 47) C dX4_operandAddress_47 rfl 2 rfl ?_
    refine gc_19_0 (pc := 48) C wk_219 dX4_operandAddress_48 ?_
    refine g_iload (pc := 51) C dX4_operandAddress_51 0 rfl ?_
    refine zcallVi (pc := 53) (st := []) C C.2.2.2.2.2 (n_X2_wordAt l D ad cy tl A r3) (cwV 1 C.2.2.2.2.1 gw_RX4_25 rfl rfl rfl cd_X2_wordAt ⟨Nat.le_of_ble_eq_true rfl, Nat.le_of_ble_eq_true rfl⟩) (hc_12 C) rfl rfl (Nat.le_of_ble_eq_true rfl) ⟨Nat.le_of_ble_eq_true rfl, Nat.le_of_ble_eq_true rfl⟩ dX4_operandAddress_53 (fun r6 => ?_)
    exact g_ireturn r dX4_operandAddress_56 rfl (fun _ h => h)
  · refine g_aload_n (pc := 57) C dX4_operandAddress_57 rfl 2 rfl ?_
    refine gc_19_0 (pc := 58) C wk_219 dX4_operandAddress_58 ?_
    refine g_aload_n (pc := 61) C dX4_operandAddress_61 rfl 2 rfl ?_
    refine gc_19_3 (pc := 62) C wk_222 dX4_operandAddress_62 (fun z7 => ?_)
    refine zcallVi (pc := 65) (st := []) C C.2.2.2.2.2 (n_X2_wordAt l D ad cy tl A z7) (cwV 1 C.2.2.2.2.1 gw_RX4_25 rfl rfl rfl cd_X2_wordAt ⟨Nat.le_of_ble_eq_true rfl, Nat.le_of_ble_eq_true rfl⟩) (hc_12 C) rfl rfl (Nat.le_of_ble_eq_true rfl) ⟨Nat.le_of_ble_eq_true rfl, Nat.le_of_ble_eq_true rfl⟩ dX4_operandAddress_65 (fun r8 => ?_)
    refine g_istore (pc := 68) C ([(5, .int r8), (4, .int r3), (3, .int z2), (0, .ref (ad 19)), (1, .int p0), (2, .int p1)]) dX4_operandAddress_68 (Nat.le_of_ble_eq_true rfl) rfl ?_
    refine g_aload_n (pc := 70) C dX4_operandAddress_70 rfl 3 rfl ?_
    refine g_aload_n (pc := 71) C dX4_operandAddress_71 rfl 3 rfl ?_
    refine gc_19_3 (pc := 72) C wk_222 dX4_operandAddress_72 (fun z9 => ?_)
    refine g_iconst (pc := 75) C 2 dX4_operandAddress_75 (by decide) ?_
    refine g_iadd (pc := 76) C dX4_operandAddress_76 (fun z10 ez10 => ?_)
    refine g_ldc (pc := 77) C dX4_operandAddress_77 (C.wd wk_384) ?_
    refine g_iand (pc := 79) C dX4_operandAddress_79 (fun z11 ez11 => ?_)
    have hz11 : zI 0 65534 z11 := zi_and1 (zi_c 65534 (a := 0) (b := 65534) (by decide)) ez11
    refine pc_19_3 (pc := 80) C wk_222 dX4_operandAddress_80 ?_
    refine g_iload_n (pc := 83) C dX4_operandAddress_83 rfl 2 rfl ?_
    refine g_if_ne (pc := 84) C 92 dX4_operandAddress_84 (by decide) (fun c12 => ?_) (fun c12 => ?_)
    · have h13 : zI 1 15 z2 := zr_neL c12 hz2 (zi_c 0 (a := 0) (b := 0) (by decide)) (by decide)
      refine g_iload (pc := 92) C dX4_operandAddress_92 0 rfl ?_
      refine g_aload_n (pc := 94) C dX4_operandAddress_94 rfl 3 rfl ?_
      refine gc_19_0 (pc := 95) C wk_219 dX4_operandAddress_95 ?_
      refine g_iload (pc := 98) C dX4_operandAddress_98 1 rfl ?_
      refine zcallVi (pc := 100) (st := [.int r8]) C C.2.2.2.2.2 (n_X2_wordAt l D ad cy tl A r3) (cwV 1 C.2.2.2.2.1 gw_RX4_25 rfl rfl rfl cd_X2_wordAt ⟨Nat.le_of_ble_eq_true rfl, Nat.le_of_ble_eq_true rfl⟩) (hc_12 C) rfl rfl (Nat.le_of_ble_eq_true rfl) ⟨Nat.le_of_ble_eq_true rfl, Nat.le_of_ble_eq_true rfl⟩ dX4_operandAddress_100 (fun r14 => ?_)
      refine g_iadd (pc := 103) C dX4_operandAddress_103 (fun z15 ez15 => ?_)
      refine g_ldc (pc := 104) C dX4_operandAddress_104 (C.wd wk_538) ?_
      refine g_iand (pc := 106) C dX4_operandAddress_106 (fun z16 ez16 => ?_)
      have hz16 : zI 0 65535 z16 := zi_and1 (zi_c 65535 (a := 0) (b := 65535) (by decide)) ez16
      exact g_sub [3, 4, 5, 2, 1, 0] rfl (J107 z2 r3 r8 z16 (zi_w h13 (a' := 0) (b' := 15) (by decide)))
    · have h17 : zI 0 0 z2 := zr_eq c12 hz2 (zi_c 0 (a := 0) (b := 0) (by decide)) (by decide)
      refine g_iload (pc := 87) C dX4_operandAddress_87 0 rfl ?_
      refine g_goto (pc := 89) C 107 dX4_operandAddress_89 (by decide) ?_
      exact g_sub [3, 4, 5, 2, 1, 0] rfl (J107 z2 r3 r8 r8 (zi_w h17 (a' := 0) (b' := 15) (by decide)))
  · refine g_aload_n (pc := 108) C dX4_operandAddress_108 rfl 2 rfl ?_
    refine gc_19_0 (pc := 109) C wk_219 dX4_operandAddress_109 ?_
    refine g_iload (pc := 112) C dX4_operandAddress_112 0 rfl ?_
    refine zcallVi (pc := 114) (st := []) C C.2.2.2.2.2 (n_X2_wordAt l D ad cy tl A r3) (cwV 1 C.2.2.2.2.1 gw_RX4_25 rfl rfl rfl cd_X2_wordAt ⟨Nat.le_of_ble_eq_true rfl, Nat.le_of_ble_eq_true rfl⟩) (hc_12 C) rfl rfl (Nat.le_of_ble_eq_true rfl) ⟨Nat.le_of_ble_eq_true rfl, Nat.le_of_ble_eq_true rfl⟩ dX4_operandAddress_114 (fun r18 => ?_)
    refine g_istore (pc := 117) C ([(5, .int r18), (4, .int r3), (3, .int z2), (0, .ref (ad 19)), (1, .int p0), (2, .int p1)]) dX4_operandAddress_117 (Nat.le_of_ble_eq_true rfl) rfl ?_
    refine g_aload_n (pc := 119) C dX4_operandAddress_119 rfl 3 rfl ?_
    refine gc_19_0 (pc := 120) C wk_219 dX4_operandAddress_120 ?_
    refine g_iload (pc := 123) C dX4_operandAddress_123 1 rfl ?_
    refine g_iload (pc := 125) C dX4_operandAddress_125 0 rfl ?_
    refine g_iload_n (pc := 127) C dX4_operandAddress_127 rfl 5 rfl ?_
    refine g_if_eq (pc := 128) C 135 dX4_operandAddress_128 (by decide) (fun c19 => ?_) (fun c19 => ?_)
    · have h20 : zI 0 0 p1 := zr_eq c19 (zi_full p1) (zi_c 0 (a := 0) (b := 0) (by decide)) (by decide)
      refine g_iconst (pc := 135) C 2 dX4_operandAddress_135 (by decide) ?_
      exact g_sub [3, 4, 5, 2, 1, 0] rfl (J136 z2 r3 r18 2 r18 r3 hz2 (zi_c 2 (a := 1) (b := 2) (by decide)))
    · refine g_iconst (pc := 131) C 1 dX4_operandAddress_131 (by decide) ?_
      refine g_goto (pc := 132) C 136 dX4_operandAddress_132 (by decide) ?_
      exact g_sub [3, 4, 5, 2, 1, 0] rfl (J136 z2 r3 r18 1 r18 r3 hz2 (zi_c 1 (a := 1) (b := 2) (by decide)))

set_option maxHeartbeats 2000000 in
set_option maxRecDepth 100000 in
theorem n_X4_enter (l : Launch) (D : va_G) (ad : Nat → Nat) (cy : Nat → ClassId) (tl : Int32) (A : Nat → Prop) (p0 : Int32) : zMv l yX4_enter wz_X4_enter ({ frames := 4, cells := 0, slots := 0, locals := 95 }) [.ref (ad 19), .int p0] D (zTc cy) A (zMc D A ad cy tl) (zMc D A ad cy tl) := by
  refine zstart_v (cc := cX4_enter) (maxL := 5) (own := RX4) (by decide) rfl rfl (Nat.le_of_ble_eq_true rfl) (fun p e s m args below meth c Q C r => ?_)
  refine g_sub (lv' := [(0, .ref (ad 19)), (1, .int p0)]) [0, 1] rfl ?_
  refine g_aload_n (pc := 0) C dX4_enter_0 rfl 0 rfl ?_
  refine gc_19_0 (pc := 1) C wk_219 dX4_enter_1 ?_
  refine g_iload_n (pc := 4) C dX4_enter_4 rfl 1 rfl ?_
  refine zcallVi (pc := 5) (st := []) C C.2.2.2.2.2 (n_X2_wordAt l D ad cy tl A p0) (cwV 1 C.2.2.2.2.1 gw_RX4_25 rfl rfl rfl cd_X2_wordAt ⟨Nat.le_of_ble_eq_true rfl, Nat.le_of_ble_eq_true rfl⟩) (hc_12 C) rfl rfl (Nat.le_of_ble_eq_true rfl) ⟨Nat.le_of_ble_eq_true rfl, Nat.le_of_ble_eq_true rfl⟩ dX4_enter_5 (fun r1 => ?_)
  refine g_istore_n (pc := 8) C ([(2, .int r1), (0, .ref (ad 19)), (1, .int p0)]) dX4_enter_8 rfl (Nat.le_of_ble_eq_true rfl) rfl ?_
  refine g_aload_n (pc := 9) C dX4_enter_9 rfl 1 rfl ?_
  refine gc_19_0 (pc := 10) C wk_219 dX4_enter_10 ?_
  refine g_iload_n (pc := 13) C dX4_enter_13 rfl 2 rfl ?_
  refine g_iconst (pc := 14) C 2 dX4_enter_14 (by decide) ?_
  refine g_iadd (pc := 15) C dX4_enter_15 (fun z2 ez2 => ?_)
  refine zcallVi (pc := 16) (st := []) C C.2.2.2.2.2 (n_X2_wordAt l D ad cy tl A z2) (cwV 1 C.2.2.2.2.1 gw_RX4_25 rfl rfl rfl cd_X2_wordAt ⟨Nat.le_of_ble_eq_true rfl, Nat.le_of_ble_eq_true rfl⟩) (hc_12 C) rfl rfl (Nat.le_of_ble_eq_true rfl) ⟨Nat.le_of_ble_eq_true rfl, Nat.le_of_ble_eq_true rfl⟩ dX4_enter_16 (fun r3 => ?_)
  refine g_istore_n (pc := 19) C ([(3, .int r3), (2, .int r1), (0, .ref (ad 19)), (1, .int p0)]) dX4_enter_19 rfl (Nat.le_of_ble_eq_true rfl) rfl ?_
  refine g_aload_n (pc := 20) C dX4_enter_20 rfl 2 rfl ?_
  refine gc_19_4 (pc := 21) C wk_224 dX4_enter_21 (fun z4 => ?_)
  refine g_istore (pc := 24) C ([(4, .int z4), (3, .int r3), (2, .int r1), (0, .ref (ad 19)), (1, .int p0)]) dX4_enter_24 (Nat.le_of_ble_eq_true rfl) rfl ?_
  refine g_aload_n (pc := 26) C dX4_enter_26 rfl 3 rfl ?_
  refine g_iload_n (pc := 27) C dX4_enter_27 rfl 2 rfl ?_
  refine g_ldc (pc := 28) C dX4_enter_28 (C.wd wk_384) ?_
  refine g_iand (pc := 30) C dX4_enter_30 (fun z5 ez5 => ?_)
  have hz5 : zI 0 65534 z5 := zi_and1 (zi_c 65534 (a := 0) (b := 65534) (by decide)) ez5
  refine pc_19_4 (pc := 31) C wk_224 dX4_enter_31 ?_
  refine g_aload_n (pc := 34) C dX4_enter_34 rfl 3 rfl ?_
  refine gc_19_0 (pc := 35) C wk_219 dX4_enter_35 ?_
  refine g_aload_n (pc := 38) C dX4_enter_38 rfl 3 rfl ?_
  refine g_bipush (pc := 39) C 13 dX4_enter_39 (by decide) ?_
  refine zcallVi (pc := 41) (st := [.ref (ad 12)]) C C.2.2.2.2.2 (n_X4_registerAddress l D ad cy tl A 13) (cwV 1 C.2.2.2.2.1 gw_RX4_128 rfl rfl rfl cd_X4_registerAddress ⟨Nat.le_of_ble_eq_true rfl, Nat.le_of_ble_eq_true rfl⟩) (hc_19 C) rfl rfl (Nat.le_of_ble_eq_true rfl) ⟨Nat.le_of_ble_eq_true rfl, Nat.le_of_ble_eq_true rfl⟩ dX4_enter_41 (fun r6 => ?_)
  refine g_iload (pc := 44) C dX4_enter_44 0 rfl ?_
  refine zcallVv (pc := 46) (st := []) C C.2.2.2.2.2 (n_X2_putWord l D ad cy tl A r6 z4) (cwV 2 C.2.2.2.2.1 gw_RX4_131 rfl rfl rfl cd_X2_putWord ⟨Nat.le_of_ble_eq_true rfl, Nat.le_of_ble_eq_true rfl⟩) (hc_12 C) rfl rfl (Nat.le_of_ble_eq_true rfl) ⟨Nat.le_of_ble_eq_true rfl, Nat.le_of_ble_eq_true rfl⟩ dX4_enter_46 ?_
  refine g_aload_n (pc := 49) C dX4_enter_49 rfl 3 rfl ?_
  refine gc_19_0 (pc := 50) C wk_219 dX4_enter_50 ?_
  refine g_aload_n (pc := 53) C dX4_enter_53 rfl 3 rfl ?_
  refine g_bipush (pc := 54) C 14 dX4_enter_54 (by decide) ?_
  refine zcallVi (pc := 56) (st := [.ref (ad 12)]) C C.2.2.2.2.2 (n_X4_registerAddress l D ad cy tl A 14) (cwV 1 C.2.2.2.2.1 gw_RX4_128 rfl rfl rfl cd_X4_registerAddress ⟨Nat.le_of_ble_eq_true rfl, Nat.le_of_ble_eq_true rfl⟩) (hc_19 C) rfl rfl (Nat.le_of_ble_eq_true rfl) ⟨Nat.le_of_ble_eq_true rfl, Nat.le_of_ble_eq_true rfl⟩ dX4_enter_56 (fun r7 => ?_)
  refine g_aload_n (pc := 59) C dX4_enter_59 rfl 3 rfl ?_
  refine gc_19_3 (pc := 60) C wk_222 dX4_enter_60 (fun z8 => ?_)
  refine zcallVv (pc := 63) (st := []) C C.2.2.2.2.2 (n_X2_putWord l D ad cy tl A r7 z8) (cwV 2 C.2.2.2.2.1 gw_RX4_131 rfl rfl rfl cd_X2_putWord ⟨Nat.le_of_ble_eq_true rfl, Nat.le_of_ble_eq_true rfl⟩) (hc_12 C) rfl rfl (Nat.le_of_ble_eq_true rfl) ⟨Nat.le_of_ble_eq_true rfl, Nat.le_of_ble_eq_true rfl⟩ dX4_enter_63 ?_
  refine g_aload_n (pc := 66) C dX4_enter_66 rfl 3 rfl ?_
  refine gc_19_0 (pc := 67) C wk_219 dX4_enter_67 ?_
  refine g_aload_n (pc := 70) C dX4_enter_70 rfl 3 rfl ?_
  refine g_bipush (pc := 71) C 15 dX4_enter_71 (by decide) ?_
  refine zcallVi (pc := 73) (st := [.ref (ad 12)]) C C.2.2.2.2.2 (n_X4_registerAddress l D ad cy tl A 15) (cwV 1 C.2.2.2.2.1 gw_RX4_128 rfl rfl rfl cd_X4_registerAddress ⟨Nat.le_of_ble_eq_true rfl, Nat.le_of_ble_eq_true rfl⟩) (hc_19 C) rfl rfl (Nat.le_of_ble_eq_true rfl) ⟨Nat.le_of_ble_eq_true rfl, Nat.le_of_ble_eq_true rfl⟩ dX4_enter_73 (fun r9 => ?_)
  refine g_aload_n (pc := 76) C dX4_enter_76 rfl 3 rfl ?_
  refine gc_19_5 (pc := 77) C wk_226 dX4_enter_77 (fun z10 => ?_)
  refine zcallVv (pc := 80) (st := []) C C.2.2.2.2.2 (n_X2_putWord l D ad cy tl A r9 z10) (cwV 2 C.2.2.2.2.1 gw_RX4_131 rfl rfl rfl cd_X2_putWord ⟨Nat.le_of_ble_eq_true rfl, Nat.le_of_ble_eq_true rfl⟩) (hc_12 C) rfl rfl (Nat.le_of_ble_eq_true rfl) ⟨Nat.le_of_ble_eq_true rfl, Nat.le_of_ble_eq_true rfl⟩ dX4_enter_80 ?_
  refine g_aload_n (pc := 83) C dX4_enter_83 rfl 3 rfl ?_
  refine g_iload_n (pc := 84) C dX4_enter_84 rfl 1 rfl ?_
  refine g_ldc (pc := 85) C dX4_enter_85 (C.wd wk_384) ?_
  refine g_iand (pc := 87) C dX4_enter_87 (fun z11 ez11 => ?_)
  have hz11 : zI 0 65534 z11 := zi_and1 (zi_c 65534 (a := 0) (b := 65534) (by decide)) ez11
  refine pc_19_3 (pc := 88) C wk_222 dX4_enter_88 ?_
  refine g_aload_n (pc := 91) C dX4_enter_91 rfl 3 rfl ?_
  refine g_iconst (pc := 92) C 1 dX4_enter_92 (by decide) ?_
  refine pc_19_11 (pc := 93) C wk_237 (zi_c 1 (a := 0) (b := 1) (by decide)) dX4_enter_93 ?_
  exact g_return r dX4_enter_96 (fun _ h => h)

set_option maxHeartbeats 2000000 in
set_option maxRecDepth 100000 in
theorem n_X4_restart (l : Launch) (D : va_G) (ad : Nat → Nat) (cy : Nat → ClassId) (tl : Int32) (A : Nat → Prop) : zMv l yX4_restart wz_X4_restart ({ frames := 4, cells := 0, slots := 0, locals := 88 }) [.ref (ad 19)] D (zTc cy) A (zMc D A ad cy tl) (zMc D A ad cy tl) := by
  refine zstart_v (cc := cX4_restart) (maxL := 1) (own := RX4) (by decide) rfl rfl (Nat.le_of_ble_eq_true rfl) (fun p e s m args below meth c Q C r => ?_)
  refine g_sub (lv' := [(0, .ref (ad 19))]) [0] rfl ?_
  refine g_aload_n (pc := 0) C dX4_restart_0 rfl 0 rfl ?_
  refine g_aload_n (pc := 1) C dX4_restart_1 rfl 0 rfl ?_
  refine gc_19_0 (pc := 2) C wk_219 dX4_restart_2 ?_
  refine g_iconst (pc := 5) C 0 dX4_restart_5 (by decide) ?_
  refine zcallVi (pc := 6) (st := [.ref (ad 19)]) C C.2.2.2.2.2 (n_X2_wordAt l D ad cy tl A 0) (cwV 1 C.2.2.2.2.1 gw_RX4_25 rfl rfl rfl cd_X2_wordAt ⟨Nat.le_of_ble_eq_true rfl, Nat.le_of_ble_eq_true rfl⟩) (hc_12 C) rfl rfl (Nat.le_of_ble_eq_true rfl) ⟨Nat.le_of_ble_eq_true rfl, Nat.le_of_ble_eq_true rfl⟩ dX4_restart_6 (fun r1 => ?_)
  refine g_ldc (pc := 9) C dX4_restart_9 (C.wd wk_384) ?_
  refine g_iand (pc := 11) C dX4_restart_11 (fun z2 ez2 => ?_)
  have hz2 : zI 0 65534 z2 := zi_and1 (zi_c 65534 (a := 0) (b := 65534) (by decide)) ez2
  refine pc_19_4 (pc := 12) C wk_224 dX4_restart_12 ?_
  refine g_aload_n (pc := 15) C dX4_restart_15 rfl 0 rfl ?_
  refine g_aload_n (pc := 16) C dX4_restart_16 rfl 0 rfl ?_
  refine gc_19_0 (pc := 17) C wk_219 dX4_restart_17 ?_
  refine g_iconst (pc := 20) C 2 dX4_restart_20 (by decide) ?_
  refine zcallVi (pc := 21) (st := [.ref (ad 19)]) C C.2.2.2.2.2 (n_X2_wordAt l D ad cy tl A 2) (cwV 1 C.2.2.2.2.1 gw_RX4_25 rfl rfl rfl cd_X2_wordAt ⟨Nat.le_of_ble_eq_true rfl, Nat.le_of_ble_eq_true rfl⟩) (hc_12 C) rfl rfl (Nat.le_of_ble_eq_true rfl) ⟨Nat.le_of_ble_eq_true rfl, Nat.le_of_ble_eq_true rfl⟩ dX4_restart_21 (fun r3 => ?_)
  refine g_ldc (pc := 24) C dX4_restart_24 (C.wd wk_384) ?_
  refine g_iand (pc := 26) C dX4_restart_26 (fun z4 ez4 => ?_)
  have hz4 : zI 0 65534 z4 := zi_and1 (zi_c 65534 (a := 0) (b := 65534) (by decide)) ez4
  refine pc_19_3 (pc := 27) C wk_222 dX4_restart_27 ?_
  refine g_aload_n (pc := 30) C dX4_restart_30 rfl 0 rfl ?_
  refine g_iconst (pc := 31) C 0 dX4_restart_31 (by decide) ?_
  refine pc_19_5 (pc := 32) C wk_226 dX4_restart_32 ?_
  refine g_aload_n (pc := 35) C dX4_restart_35 rfl 0 rfl ?_
  refine g_iconst (pc := 36) C 0 dX4_restart_36 (by decide) ?_
  refine pc_19_6 (pc := 37) C wk_228 dX4_restart_37 ?_
  refine g_aload_n (pc := 40) C dX4_restart_40 rfl 0 rfl ?_
  refine g_iconst (pc := 41) C 0 dX4_restart_41 (by decide) ?_
  refine pc_19_9 (pc := 42) C wk_234 dX4_restart_42 ?_
  exact g_return r dX4_restart_45 (fun _ h => h)

set_option maxHeartbeats 2000000 in
set_option maxRecDepth 100000 in
theorem n_X4_isExecute (l : Launch) (D : va_G) (ad : Nat → Nat) (cy : Nat → ClassId) (tl : Int32) (A : Nat → Prop) (p0 : Int32) : zMi l yX4_isExecute wz_X4_isExecute ({ frames := 0, cells := 0, slots := 0, locals := 0 }) [.int p0] D (zTc cy) A (zMc D A ad cy tl) (fun r H => zI 0 1 r ∧ (zMc D A ad cy tl) H) := by
  refine zstart_i (cc := cX4_isExecute) (maxL := 1) (ty := .boolean) (own := RX4) (by decide) rfl rfl (Nat.le_of_ble_eq_true rfl) (fun p e s m args below meth c Q C r => ?_)
  have J15 : ∀ (b0_15 : Int32) (_ : zI 0 1 b0_15), zG p l e ({ frames := 0, cells := 0, slots := 0, locals := 0 }) s m args below meth c 1 0 0 A Q (zMc D A ad cy tl) 15 [(0, .int p0)] [.int b0_15] := by
    intro b0_15 hb0_15
    exact g_ireturn r dX4_isExecute_15 (zn_bool hb0_15) (fun _ h => ⟨hb0_15, h⟩)
  refine g_sub (lv' := [(0, .int p0)]) [0] rfl ?_
  refine g_iload_n (pc := 0) C dX4_isExecute_0 rfl 0 rfl ?_
  refine g_ldc (pc := 1) C dX4_isExecute_1 (C.wd wk_556) ?_
  refine g_iand (pc := 3) C dX4_isExecute_3 (fun z1 ez1 => ?_)
  have hz1 : zI 0 65472 z1 := zi_and1 (zi_c 65472 (a := 0) (b := 65472) (by decide)) ez1
  refine g_sipush (pc := 4) C 1152 dX4_isExecute_4 (by decide) ?_
  refine g_icmp_ne (pc := 7) C 14 dX4_isExecute_7 (by decide) (fun c2 => ?_) (fun c2 => ?_)
  · refine g_iconst (pc := 14) C 0 dX4_isExecute_14 (by decide) ?_
    exact g_sub [0] rfl (J15 0 (zi_c 0 (a := 0) (b := 1) (by decide)))
  · have h3 : zI 1152 1152 z1 := zr_eq c2 hz1 (zi_c 1152 (a := 1152) (b := 1152) (by decide)) (by decide)
    refine g_iconst (pc := 10) C 1 dX4_isExecute_10 (by decide) ?_
    refine g_goto (pc := 11) C 15 dX4_isExecute_11 (by decide) ?_
    exact g_sub [0] rfl (J15 1 (zi_c 1 (a := 0) (b := 1) (by decide)))

set_option maxHeartbeats 2000000 in
set_option maxRecDepth 100000 in
theorem n_X4_isNone (l : Launch) (D : va_G) (ad : Nat → Nat) (cy : Nat → ClassId) (tl : Int32) (A : Nat → Prop) (p0 : Int32) : zMi l yX4_isNone wz_X4_isNone ({ frames := 0, cells := 0, slots := 0, locals := 0 }) [.int p0] D (zTc cy) A (zMc D A ad cy tl) (fun r H => zI 0 1 r ∧ (zMc D A ad cy tl) H) := by
  refine zstart_i (cc := cX4_isNone) (maxL := 1) (ty := .boolean) (own := RX4) (by decide) rfl rfl (Nat.le_of_ble_eq_true rfl) (fun p e s m args below meth c Q C r => ?_)
  have J54 : ∀ (b0_54 : Int32) (_ : zI 0 1 b0_54), zG p l e ({ frames := 0, cells := 0, slots := 0, locals := 0 }) s m args below meth c 1 0 0 A Q (zMc D A ad cy tl) 54 [(0, .int p0)] [.int b0_54] := by
    intro b0_54 hb0_54
    exact g_ireturn r dX4_isNone_54 (zn_bool hb0_54) (fun _ h => ⟨hb0_54, h⟩)
  have J49 : ∀ (_ : zI (-2147483648) 4095 p0), zG p l e ({ frames := 0, cells := 0, slots := 0, locals := 0 }) s m args below meth c 1 0 0 A Q (zMc D A ad cy tl) 49 [(0, .int p0)] [] := by
    intro hc_a0_49
    refine g_iconst (pc := 49) C 1 dX4_isNone_49 (by decide) ?_
    refine g_goto (pc := 50) C 54 dX4_isNone_50 (by decide) ?_
    exact g_sub [0] rfl (J54 1 (zi_c 1 (a := 0) (b := 1) (by decide)))
  have J53 : ∀ (_ : zI 512 2147483647 p0), zG p l e ({ frames := 0, cells := 0, slots := 0, locals := 0 }) s m args below meth c 1 0 0 A Q (zMc D A ad cy tl) 53 [(0, .int p0)] [] := by
    intro hc_a0_53
    refine g_iconst (pc := 53) C 0 dX4_isNone_53 (by decide) ?_
    exact g_sub [0] rfl (J54 0 (zi_c 0 (a := 0) (b := 1) (by decide)))
  have J35 : ∀ (_ : zI 512 2147483647 p0), zG p l e ({ frames := 0, cells := 0, slots := 0, locals := 0 }) s m args below meth c 1 0 0 A Q (zMc D A ad cy tl) 35 [(0, .int p0)] [] := by
    intro hc_a0_35
    refine g_iload_n (pc := 35) C dX4_isNone_35 rfl 0 rfl ?_
    refine g_sipush (pc := 36) C 3072 dX4_isNone_36 (by decide) ?_
    refine g_icmp_lt (pc := 39) C 53 dX4_isNone_39 (by decide) (fun c1 => ?_) (fun c1 => ?_)
    · have h2 : zI 512 3071 p0 := zr_lt1 (zc_lt c1) hc_a0_35 (zi_c 3072 (a := 3072) (b := 3072) (by decide)) (by decide)
      exact g_sub [0] rfl (J53 (zi_w h2 (a' := 512) (b' := 2147483647) (by decide)))
    · have h3 : zI 3072 2147483647 p0 := zr_le2 (zc_nlt c1) (zi_c 3072 (a := 3072) (b := 3072) (by decide)) hc_a0_35 (by decide)
      refine g_iload_n (pc := 42) C dX4_isNone_42 rfl 0 rfl ?_
      refine g_sipush (pc := 43) C 4095 dX4_isNone_43 (by decide) ?_
      refine g_icmp_gt (pc := 46) C 53 dX4_isNone_46 (by decide) (fun c4 => ?_) (fun c4 => ?_)
      · have h5 : zI 4096 2147483647 p0 := zr_lt2 (zc_lt c4) (zi_c 4095 (a := 4095) (b := 4095) (by decide)) h3 (by decide)
        exact g_sub [0] rfl (J53 (zi_w h5 (a' := 512) (b' := 2147483647) (by decide)))
      · have h6 : zI 3072 4095 p0 := zr_le1 (zc_nlt c4) h3 (zi_c 4095 (a := 4095) (b := 4095) (by decide)) (by decide)
        exact g_sub [0] rfl (J49 (zi_w h6 (a' := (-2147483648)) (b' := 4095) (by decide)))
  have J21 : ∀ (_ : zI 512 2147483647 p0), zG p l e ({ frames := 0, cells := 0, slots := 0, locals := 0 }) s m args below meth c 1 0 0 A Q (zMc D A ad cy tl) 21 [(0, .int p0)] [] := by
    intro hc_a0_21
    refine g_iload_n (pc := 21) C dX4_isNone_21 rfl 0 rfl ?_
    refine g_sipush (pc := 22) C 1920 dX4_isNone_22 (by decide) ?_
    refine g_icmp_lt (pc := 25) C 35 dX4_isNone_25 (by decide) (fun c7 => ?_) (fun c7 => ?_)
    · have h8 : zI 512 1919 p0 := zr_lt1 (zc_lt c7) hc_a0_21 (zi_c 1920 (a := 1920) (b := 1920) (by decide)) (by decide)
      exact g_sub [0] rfl (J35 (zi_w h8 (a' := 512) (b' := 2147483647) (by decide)))
    · have h9 : zI 1920 2147483647 p0 := zr_le2 (zc_nlt c7) (zi_c 1920 (a := 1920) (b := 1920) (by decide)) hc_a0_21 (by decide)
      refine g_iload_n (pc := 28) C dX4_isNone_28 rfl 0 rfl ?_
      refine g_sipush (pc := 29) C 2047 dX4_isNone_29 (by decide) ?_
      refine g_icmp_le (pc := 32) C 49 dX4_isNone_32 (by decide) (fun c10 => ?_) (fun c10 => ?_)
      · have h11 : zI 1920 2047 p0 := zr_le1 (zc_le c10) h9 (zi_c 2047 (a := 2047) (b := 2047) (by decide)) (by decide)
        exact g_sub [0] rfl (J49 (zi_w h11 (a' := (-2147483648)) (b' := 4095) (by decide)))
      · have h12 : zI 2048 2147483647 p0 := zr_lt2 (zc_nle c10) (zi_c 2047 (a := 2047) (b := 2047) (by decide)) h9 (by decide)
        exact g_sub [0] rfl (J35 (zi_w h12 (a' := 512) (b' := 2147483647) (by decide)))
  refine g_sub (lv' := [(0, .int p0)]) [0] rfl ?_
  refine g_iload_n (pc := 0) C dX4_isNone_0 rfl 0 rfl ?_
  refine g_sipush (pc := 1) C 512 dX4_isNone_1 (by decide) ?_
  refine g_icmp_lt (pc := 4) C 49 dX4_isNone_4 (by decide) (fun c13 => ?_) (fun c13 => ?_)
  · have h14 : zI (-2147483648) 511 p0 := zr_lt1 (zc_lt c13) (zi_full p0) (zi_c 512 (a := 512) (b := 512) (by decide)) (by decide)
    exact g_sub [0] rfl (J49 (zi_w h14 (a' := (-2147483648)) (b' := 4095) (by decide)))
  · have h15 : zI 512 2147483647 p0 := zr_le2 (zc_nlt c13) (zi_c 512 (a := 512) (b := 512) (by decide)) (zi_full p0) (by decide)
    refine g_iload_n (pc := 7) C dX4_isNone_7 rfl 0 rfl ?_
    refine g_sipush (pc := 8) C 800 dX4_isNone_8 (by decide) ?_
    refine g_icmp_lt (pc := 11) C 21 dX4_isNone_11 (by decide) (fun c16 => ?_) (fun c16 => ?_)
    · have h17 : zI 512 799 p0 := zr_lt1 (zc_lt c16) h15 (zi_c 800 (a := 800) (b := 800) (by decide)) (by decide)
      exact g_sub [0] rfl (J21 (zi_w h17 (a' := 512) (b' := 2147483647) (by decide)))
    · have h18 : zI 800 2147483647 p0 := zr_le2 (zc_nlt c16) (zi_c 800 (a := 800) (b := 800) (by decide)) h15 (by decide)
      refine g_iload_n (pc := 14) C dX4_isNone_14 rfl 0 rfl ?_
      refine g_sipush (pc := 15) C 831 dX4_isNone_15 (by decide) ?_
      refine g_icmp_le (pc := 18) C 49 dX4_isNone_18 (by decide) (fun c19 => ?_) (fun c19 => ?_)
      · have h20 : zI 800 831 p0 := zr_le1 (zc_le c19) h18 (zi_c 831 (a := 831) (b := 831) (by decide)) (by decide)
        exact g_sub [0] rfl (J49 (zi_w h20 (a' := (-2147483648)) (b' := 4095) (by decide)))
      · have h21 : zI 832 2147483647 p0 := zr_lt2 (zc_nle c19) (zi_c 831 (a := 831) (b := 831) (by decide)) h18 (by decide)
        exact g_sub [0] rfl (J21 (zi_w h21 (a' := 512) (b' := 2147483647) (by decide)))

set_option maxHeartbeats 2000000 in
set_option maxRecDepth 100000 in
theorem n_X4_fetchInstruction (l : Launch) (D : va_G) (ad : Nat → Nat) (cy : Nat → ClassId) (tl : Int32) (A : Nat → Prop) : zMi l yX4_fetchInstruction wz_X4_fetchInstruction ({ frames := 5, cells := 0, slots := 0, locals := 120 }) [.ref (ad 19)] D (zTc cy) A (zMc D A ad cy tl) (fun r H => zI 0 1 r ∧ (zMc D A ad cy tl) H) := by
  refine zstart_i (cc := cX4_fetchInstruction) (maxL := 3) (ty := .boolean) (own := RX4) (by decide) rfl rfl (Nat.le_of_ble_eq_true rfl) (fun p e s m args below meth c Q C r => ?_)
  have J100 : ∀ (a1_100 : Int32) (a2_100 : Int32) (b0_100 : Int32) (_ : zI 0 1 a2_100) (_ : zI 0 1 b0_100), zG p l e ({ frames := 5, cells := 0, slots := 0, locals := 120 }) s m args below meth c 3 0 0 A Q (zMc D A ad cy tl) 100 [(0, .ref (ad 19)), (1, .int a1_100), (2, .int a2_100)] [.int b0_100] := by
    intro a1_100 a2_100 b0_100 ha2_100 hb0_100
    exact g_ireturn r dX4_fetchInstruction_100 (zn_bool hb0_100) (fun _ h => ⟨hb0_100, h⟩)
  have J91 : ∀ (a1_91 : Int32) (a2_91 : Int32) (_ : zI 0 1 a2_91), zG p l e ({ frames := 5, cells := 0, slots := 0, locals := 120 }) s m args below meth c 3 0 0 A Q (zMc D A ad cy tl) 91 [(0, .ref (ad 19)), (1, .int a1_91), (2, .int a2_91)] [] := by
    intro a1_91 a2_91 ha2_91
    refine g_iload_n (pc := 91) C dX4_fetchInstruction_91 rfl 2 rfl ?_
    refine g_if_ne (pc := 92) C 99 dX4_fetchInstruction_92 (by decide) (fun c1 => ?_) (fun c1 => ?_)
    · have h2 : zI 1 1 a2_91 := zr_neL c1 ha2_91 (zi_c 0 (a := 0) (b := 0) (by decide)) (by decide)
      refine g_iconst (pc := 99) C 0 dX4_fetchInstruction_99 (by decide) ?_
      exact g_sub [0, 1, 2] rfl (J100 a1_91 a2_91 0 (zi_w h2 (a' := 0) (b' := 1) (by decide)) (zi_c 0 (a := 0) (b := 1) (by decide)))
    · have h3 : zI 0 0 a2_91 := zr_eq c1 ha2_91 (zi_c 0 (a := 0) (b := 0) (by decide)) (by decide)
      refine g_iconst (pc := 95) C 1 dX4_fetchInstruction_95 (by decide) ?_
      refine g_goto (pc := 96) C 100 dX4_fetchInstruction_96 (by decide) ?_
      exact g_sub [0, 1, 2] rfl (J100 a1_91 a2_91 1 (zi_w h3 (a' := 0) (b' := 1) (by decide)) (zi_c 1 (a := 0) (b := 1) (by decide)))
  have J77 : ∀ (a1_77 : Int32) (a2_77 : Int32) (_ : zI 0 1 a2_77), zG p l e ({ frames := 5, cells := 0, slots := 0, locals := 120 }) s m args below meth c 3 0 0 A Q (zMc D A ad cy tl) 77 [(0, .ref (ad 19)), (1, .int a1_77), (2, .int a2_77)] [] := by
    intro a1_77 a2_77 ha2_77
    refine g_iload_n (pc := 77) C dX4_fetchInstruction_77 rfl 2 rfl ?_
    refine g_if_eq (pc := 78) C 91 dX4_fetchInstruction_78 (by decide) (fun c4 => ?_) (fun c4 => ?_)
    · have h5 : zI 0 0 a2_77 := zr_eq c4 ha2_77 (zi_c 0 (a := 0) (b := 0) (by decide)) (by decide)
      exact g_sub [0, 1, 2] rfl (J91 a1_77 a2_77 (zi_w h5 (a' := 0) (b' := 1) (by decide)))
    · have h6 : zI 1 1 a2_77 := zr_neL c4 ha2_77 (zi_c 0 (a := 0) (b := 0) (by decide)) (by decide)
      refine g_aload_n (pc := 81) C dX4_fetchInstruction_81 rfl 0 rfl ?_
      refine g_iload_n (pc := 82) C dX4_fetchInstruction_82 rfl 1 rfl ?_
      refine pc_19_3 (pc := 83) C wk_222 dX4_fetchInstruction_83 ?_
      refine g_aload_n (pc := 86) C dX4_fetchInstruction_86 rfl 0 rfl ?_
      refine g_iconst (pc := 87) C 2 dX4_fetchInstruction_87 (by decide) ?_
      refine pc_19_6 (pc := 88) C wk_228 dX4_fetchInstruction_88 ?_
      exact g_sub [0, 1, 2] rfl (J91 a1_77 a2_77 (zi_w h6 (a' := 0) (b' := 1) (by decide)))
  have J76 : ∀ (a1_76 : Int32) (a2_76 : Int32) (b0_76 : Int32) (_ : zI 0 1 a2_76) (_ : zI 0 1 b0_76), zG p l e ({ frames := 5, cells := 0, slots := 0, locals := 120 }) s m args below meth c 3 0 0 A Q (zMc D A ad cy tl) 76 [(0, .ref (ad 19)), (1, .int a1_76), (2, .int a2_76)] [.int b0_76] := by
    intro a1_76 a2_76 b0_76 ha2_76 hb0_76
    refine g_istore_n (pc := 76) C ([(2, .int b0_76), (0, .ref (ad 19)), (1, .int a1_76)]) dX4_fetchInstruction_76 rfl (Nat.le_of_ble_eq_true rfl) rfl ?_
    exact g_sub [1, 2, 0] rfl (J77 a1_76 b0_76 hb0_76)
  have J71 : ∀ (a1_71 : Int32) (a2_71 : Int32) (_ : zI 0 1 a2_71), zG p l e ({ frames := 5, cells := 0, slots := 0, locals := 120 }) s m args below meth c 3 0 0 A Q (zMc D A ad cy tl) 71 [(0, .ref (ad 19)), (1, .int a1_71), (2, .int a2_71)] [] := by
    intro a1_71 a2_71 ha2_71
    refine g_iconst (pc := 71) C 1 dX4_fetchInstruction_71 (by decide) ?_
    refine g_goto (pc := 72) C 76 dX4_fetchInstruction_72 (by decide) ?_
    exact g_sub [0, 1, 2] rfl (J76 a1_71 a2_71 1 ha2_71 (zi_c 1 (a := 0) (b := 1) (by decide)))
  refine g_sub (lv' := [(0, .ref (ad 19))]) [0] rfl ?_
  refine g_aload_n (pc := 0) C dX4_fetchInstruction_0 rfl 0 rfl ?_
  refine gc_19_3 (pc := 1) C wk_222 dX4_fetchInstruction_1 (fun z7 => ?_)
  refine g_istore_n (pc := 4) C ([(1, .int z7), (0, .ref (ad 19))]) dX4_fetchInstruction_4 rfl (Nat.le_of_ble_eq_true rfl) rfl ?_
  refine g_aload_n (pc := 5) C dX4_fetchInstruction_5 rfl 1 rfl ?_
  refine g_aload_n (pc := 6) C dX4_fetchInstruction_6 rfl 1 rfl ?_
  refine zcallVi (pc := 7) (st := [.ref (ad 19)]) C C.2.2.2.2.2 (n_X4_nextWord l D ad cy tl A ) (cwV 0 C.2.2.2.2.1 gw_RX4_76 rfl rfl rfl cd_X4_nextWord ⟨Nat.le_of_ble_eq_true rfl, Nat.le_of_ble_eq_true rfl⟩) (hc_19 C) rfl rfl (Nat.le_of_ble_eq_true rfl) ⟨Nat.le_of_ble_eq_true rfl, Nat.le_of_ble_eq_true rfl⟩ dX4_fetchInstruction_7 (fun r8 => ?_)
  refine pc_19_10 (pc := 10) C wk_236 dX4_fetchInstruction_10 ?_
  refine g_aload_n (pc := 13) C dX4_fetchInstruction_13 rfl 1 rfl ?_
  refine gc_19_10 (pc := 14) C wk_236 dX4_fetchInstruction_14 (fun z9 => ?_)
  refine zcallSi (pc := 17) (st := []) C C.2.2.2.2.2 (n_X4_isNone l D ad cy tl A z9) (va_cwS 1 C.2.2.2.2.1 gw_RX4_82 rfl rfl rfl cs_X4_isNone ⟨Nat.le_of_ble_eq_true rfl, Nat.le_of_ble_eq_true rfl⟩) rfl rfl (Nat.le_of_ble_eq_true rfl) ⟨Nat.le_of_ble_eq_true rfl, Nat.le_of_ble_eq_true rfl⟩ dX4_fetchInstruction_17 (fun r10 => ?_)
  refine g_and (M2 := (zMc D A ad cy tl)) (fun hr10 => ?_)
  refine g_istore_n (pc := 20) C ([(2, .int r10), (1, .int z7), (0, .ref (ad 19))]) dX4_fetchInstruction_20 rfl (Nat.le_of_ble_eq_true rfl) rfl ?_
  refine g_aload_n (pc := 21) C dX4_fetchInstruction_21 rfl 2 rfl ?_
  refine gc_19_10 (pc := 22) C wk_236 dX4_fetchInstruction_22 (fun z11 => ?_)
  refine zcallSi (pc := 25) (st := []) C C.2.2.2.2.2 (n_X4_isExecute l D ad cy tl A z11) (va_cwS 1 C.2.2.2.2.1 gw_RX4_86 rfl rfl rfl cs_X4_isExecute ⟨Nat.le_of_ble_eq_true rfl, Nat.le_of_ble_eq_true rfl⟩) rfl rfl (Nat.le_of_ble_eq_true rfl) ⟨Nat.le_of_ble_eq_true rfl, Nat.le_of_ble_eq_true rfl⟩ dX4_fetchInstruction_25 (fun r12 => ?_)
  refine g_and (M2 := (zMc D A ad cy tl)) (fun hr12 => ?_)
  refine g_if_eq (pc := 28) C 77 dX4_fetchInstruction_28 (by decide) (fun c13 => ?_) (fun c13 => ?_)
  · have h14 : zI 0 0 r12 := zr_eq c13 hr12 (zi_c 0 (a := 0) (b := 0) (by decide)) (by decide)
    exact g_sub [2, 1, 0] rfl (J77 z7 r10 hr10)
  · have h15 : zI 1 1 r12 := zr_neL c13 hr12 (zi_c 0 (a := 0) (b := 0) (by decide)) (by decide)
    refine g_aload_n (pc := 31) C dX4_fetchInstruction_31 rfl 2 rfl ?_
    refine g_aload_n (pc := 32) C dX4_fetchInstruction_32 rfl 2 rfl ?_
    refine gc_19_0 (pc := 33) C wk_219 dX4_fetchInstruction_33 ?_
    refine g_aload_n (pc := 36) C dX4_fetchInstruction_36 rfl 2 rfl ?_
    refine g_aload_n (pc := 37) C dX4_fetchInstruction_37 rfl 2 rfl ?_
    refine gc_19_10 (pc := 38) C wk_236 dX4_fetchInstruction_38 (fun z16 => ?_)
    refine g_iconst (pc := 41) C 0 dX4_fetchInstruction_41 (by decide) ?_
    refine zcallVi (pc := 42) (st := [.ref (ad 12), .ref (ad 19)]) C C.2.2.2.2.2 (n_X4_operandAddress l D ad cy tl A z16 0) (cwV 2 C.2.2.2.2.1 gw_RX4_89 rfl rfl rfl cd_X4_operandAddress ⟨Nat.le_of_ble_eq_true rfl, Nat.le_of_ble_eq_true rfl⟩) (hc_19 C) rfl rfl (Nat.le_of_ble_eq_true rfl) ⟨Nat.le_of_ble_eq_true rfl, Nat.le_of_ble_eq_true rfl⟩ dX4_fetchInstruction_42 (fun r17 => ?_)
    refine zcallVi (pc := 45) (st := [.ref (ad 19)]) C C.2.2.2.2.2 (n_X2_wordAt l D ad cy tl A r17) (cwV 1 C.2.2.2.2.1 gw_RX4_25 rfl rfl rfl cd_X2_wordAt ⟨Nat.le_of_ble_eq_true rfl, Nat.le_of_ble_eq_true rfl⟩) (hc_12 C) rfl rfl (Nat.le_of_ble_eq_true rfl) ⟨Nat.le_of_ble_eq_true rfl, Nat.le_of_ble_eq_true rfl⟩ dX4_fetchInstruction_45 (fun r18 => ?_)
    refine pc_19_10 (pc := 48) C wk_236 dX4_fetchInstruction_48 ?_
    refine g_aload_n (pc := 51) C dX4_fetchInstruction_51 rfl 2 rfl ?_
    refine gc_19_10 (pc := 52) C wk_236 dX4_fetchInstruction_52 (fun z19 => ?_)
    refine zcallSi (pc := 55) (st := []) C C.2.2.2.2.2 (n_X4_isNone l D ad cy tl A z19) (va_cwS 1 C.2.2.2.2.1 gw_RX4_82 rfl rfl rfl cs_X4_isNone ⟨Nat.le_of_ble_eq_true rfl, Nat.le_of_ble_eq_true rfl⟩) rfl rfl (Nat.le_of_ble_eq_true rfl) ⟨Nat.le_of_ble_eq_true rfl, Nat.le_of_ble_eq_true rfl⟩ dX4_fetchInstruction_55 (fun r20 => ?_)
    refine g_and (M2 := (zMc D A ad cy tl)) (fun hr20 => ?_)
    refine g_if_ne (pc := 58) C 71 dX4_fetchInstruction_58 (by decide) (fun c21 => ?_) (fun c21 => ?_)
    · have h22 : zI 1 1 r20 := zr_neL c21 hr20 (zi_c 0 (a := 0) (b := 0) (by decide)) (by decide)
      exact g_sub [2, 1, 0] rfl (J71 z7 r10 hr10)
    · have h23 : zI 0 0 r20 := zr_eq c21 hr20 (zi_c 0 (a := 0) (b := 0) (by decide)) (by decide)
      refine g_aload_n (pc := 61) C dX4_fetchInstruction_61 rfl 2 rfl ?_
      refine gc_19_10 (pc := 62) C wk_236 dX4_fetchInstruction_62 (fun z24 => ?_)
      refine zcallSi (pc := 65) (st := []) C C.2.2.2.2.2 (n_X4_isExecute l D ad cy tl A z24) (va_cwS 1 C.2.2.2.2.1 gw_RX4_86 rfl rfl rfl cs_X4_isExecute ⟨Nat.le_of_ble_eq_true rfl, Nat.le_of_ble_eq_true rfl⟩) rfl rfl (Nat.le_of_ble_eq_true rfl) ⟨Nat.le_of_ble_eq_true rfl, Nat.le_of_ble_eq_true rfl⟩ dX4_fetchInstruction_65 (fun r25 => ?_)
      refine g_and (M2 := (zMc D A ad cy tl)) (fun hr25 => ?_)
      refine g_if_eq (pc := 68) C 75 dX4_fetchInstruction_68 (by decide) (fun c26 => ?_) (fun c26 => ?_)
      · have h27 : zI 0 0 r25 := zr_eq c26 hr25 (zi_c 0 (a := 0) (b := 0) (by decide)) (by decide)
        refine g_iconst (pc := 75) C 0 dX4_fetchInstruction_75 (by decide) ?_
        exact g_sub [2, 1, 0] rfl (J76 z7 r10 0 hr10 (zi_c 0 (a := 0) (b := 1) (by decide)))
      · have h28 : zI 1 1 r25 := zr_neL c26 hr25 (zi_c 0 (a := 0) (b := 0) (by decide)) (by decide)
        exact g_sub [2, 1, 0] rfl (J71 z7 r10 hr10)

set_option maxHeartbeats 2000000 in
set_option maxRecDepth 100000 in
theorem n_X4_askedLevel (l : Launch) (D : va_G) (ad : Nat → Nat) (cy : Nat → ClassId) (tl : Int32) (A : Nat → Prop) : zMi l yX4_askedLevel wz_X4_askedLevel ({ frames := 1, cells := 0, slots := 0, locals := 21 }) [.ref (ad 19)] D (zTc cy) A (zMc D A ad cy tl) (fun _ => (zMc D A ad cy tl)) := by
  refine zstart_i (cc := cX4_askedLevel) (maxL := 2) (ty := .int) (own := RX4) (by decide) rfl rfl (Nat.le_of_ble_eq_true rfl) (fun p e s m args below meth c Q C r => ?_)
  have J36 : ∀ (n : Nat) (a1_36 : Int32) (_ : zI 2 16 a1_36) (_ : (16 - (a1_36 : Int32).toInt).toNat = n), zG p l e ({ frames := 1, cells := 0, slots := 0, locals := 21 }) s m args below meth c 2 0 0 A Q (zMc D A ad cy tl) 36 [(0, .ref (ad 19)), (1, .int a1_36)] [] := by
    intro n
    induction n using Nat.strongRecOn with
    | ind n ih =>
      intro a1_36 ha1_36 hn
      refine g_iload_n (pc := 36) C dX4_askedLevel_36 rfl 1 rfl ?_
      refine g_bipush (pc := 37) C 15 dX4_askedLevel_37 (by decide) ?_
      refine g_icmp_gt (pc := 39) C 62 dX4_askedLevel_39 (by decide) (fun c1 => ?_) (fun c1 => ?_)
      · have h2 : zI 16 16 a1_36 := zr_lt2 (zc_lt c1) (zi_c 15 (a := 15) (b := 15) (by decide)) ha1_36 (by decide)
        refine g_bipush (pc := 62) C 16 dX4_askedLevel_62 (by decide) ?_
        exact g_ireturn r dX4_askedLevel_64 rfl (fun _ h => h)
      · have h3 : zI 2 15 a1_36 := zr_le1 (zc_nlt c1) ha1_36 (zi_c 15 (a := 15) (b := 15) (by decide)) (by decide)
        refine g_aload_n (pc := 42) C dX4_askedLevel_42 rfl 0 rfl ?_
        refine gc_19_9 (pc := 43) C wk_234 dX4_askedLevel_43 (fun z4 => ?_)
        refine g_iload_n (pc := 46) C dX4_askedLevel_46 rfl 1 rfl ?_
        refine g_ishr (pc := 47) C dX4_askedLevel_47 (fun z5 ez5 => ?_)
        refine g_iconst (pc := 48) C 1 dX4_askedLevel_48 (by decide) ?_
        refine g_iand (pc := 49) C dX4_askedLevel_49 (fun z6 ez6 => ?_)
        have hz6 : zI 0 1 z6 := zi_and1 (zi_c 1 (a := 0) (b := 1) (by decide)) ez6
        refine g_iconst (pc := 50) C 1 dX4_askedLevel_50 (by decide) ?_
        refine g_icmp_ne (pc := 51) C 56 dX4_askedLevel_51 (by decide) (fun c7 => ?_) (fun c7 => ?_)
        · have h8 : zI 0 0 z6 := zr_neH c7 hz6 (zi_c 1 (a := 1) (b := 1) (by decide)) (by decide)
          obtain ⟨z9, ez9⟩ : ∃ z : Int32, z = a1_36 + 1 := ⟨_, rfl⟩
          have hz9 : zI 3 16 z9 := zi_add h3 (zi_c 1 (a := 1) (b := 1) (by decide)) ez9 (by decide)
          refine g_iinc (pc := 56) C z9 ([(1, .int z9), (0, .ref (ad 19))]) dX4_askedLevel_56 1 rfl (by rw [ez9]; rfl) (Nat.le_of_ble_eq_true rfl) rfl ?_
          refine g_goto (pc := 59) C 36 dX4_askedLevel_59 (by decide) ?_
          exact g_sub [1, 0] rfl (ih (16 - (z9 : Int32).toInt).toNat (by rw [← hn]; exact zdec ez9 h3 (by decide) (zi_w hz9 (a' := 2) (b' := 16) (by decide))) z9 (zi_w hz9 (a' := 2) (b' := 16) (by decide)) rfl)
        · have h10 : zI 1 1 z6 := zr_eq c7 hz6 (zi_c 1 (a := 1) (b := 1) (by decide)) (by decide)
          refine g_iload_n (pc := 54) C dX4_askedLevel_54 rfl 1 rfl ?_
          exact g_ireturn r dX4_askedLevel_55 rfl (fun _ h => h)
  have J24 : zG p l e ({ frames := 1, cells := 0, slots := 0, locals := 21 }) s m args below meth c 2 0 0 A Q (zMc D A ad cy tl) 24 [(0, .ref (ad 19))] [] := by
    refine g_aload_n (pc := 24) C dX4_askedLevel_24 rfl 0 rfl ?_
    refine gc_19_9 (pc := 25) C wk_234 dX4_askedLevel_25 (fun z11 => ?_)
    refine g_if_ne (pc := 28) C 34 dX4_askedLevel_28 (by decide) (fun c12 => ?_) (fun c12 => ?_)
    · refine g_iconst (pc := 34) C 2 dX4_askedLevel_34 (by decide) ?_
      refine g_istore_n (pc := 35) C ([(1, .int 2), (0, .ref (ad 19))]) dX4_askedLevel_35 rfl (Nat.le_of_ble_eq_true rfl) rfl ?_
      exact g_sub [1, 0] rfl (J36 (16 - (2 : Int32).toInt).toNat 2 (zi_c 2 (a := 2) (b := 16) (by decide)) rfl)
    · have h13 : zI 0 0 z11 := zr_eq c12 (zi_full z11) (zi_c 0 (a := 0) (b := 0) (by decide)) (by decide)
      refine g_bipush (pc := 31) C 16 dX4_askedLevel_31 (by decide) ?_
      exact g_ireturn r dX4_askedLevel_33 rfl (fun _ h => h)
  refine g_sub (lv' := [(0, .ref (ad 19))]) [0] rfl ?_
  refine g_aload_n (pc := 0) C dX4_askedLevel_0 rfl 0 rfl ?_
  refine gc_19_1 (pc := 1) C wk_220 dX4_askedLevel_1 ?_
  refine zcallVi (pc := 4) (st := []) C C.2.2.2.2.2 (n_X3_asksForInterrupt l D ad cy tl A ) (cwV 0 C.2.2.2.2.1 gw_RX4_66 rfl rfl rfl cd_X3_asksForInterrupt ⟨Nat.le_of_ble_eq_true rfl, Nat.le_of_ble_eq_true rfl⟩) (hc_3 C) rfl rfl (Nat.le_of_ble_eq_true rfl) ⟨Nat.le_of_ble_eq_true rfl, Nat.le_of_ble_eq_true rfl⟩ dX4_askedLevel_4 (fun r14 => ?_)
  refine g_and (M2 := (zMc D A ad cy tl)) (fun hr14 => ?_)
  refine g_if_eq (pc := 7) C 24 dX4_askedLevel_7 (by decide) (fun c15 => ?_) (fun c15 => ?_)
  · have h16 : zI 0 0 r14 := zr_eq c15 hr14 (zi_c 0 (a := 0) (b := 0) (by decide)) (by decide)
    exact g_sub [0] rfl (J24 )
  · have h17 : zI 1 1 r14 := zr_neL c15 hr14 (zi_c 0 (a := 0) (b := 0) (by decide)) (by decide)
    refine g_aload_n (pc := 10) C dX4_askedLevel_10 rfl 0 rfl ?_
    refine gc_19_2 (pc := 11) C wk_221 dX4_askedLevel_11 ?_
    refine g_iconst (pc := 14) C 2 dX4_askedLevel_14 (by decide) ?_
    refine zcallVi (pc := 15) (st := []) C C.2.2.2.2.2 (n_X5_sent l D ad cy tl A 2) (cwV 1 C.2.2.2.2.1 gw_RX4_73 rfl rfl rfl cd_X5_sent ⟨Nat.le_of_ble_eq_true rfl, Nat.le_of_ble_eq_true rfl⟩) (hc_10 C) rfl rfl (Nat.le_of_ble_eq_true rfl) ⟨Nat.le_of_ble_eq_true rfl, Nat.le_of_ble_eq_true rfl⟩ dX4_askedLevel_15 (fun r18 => ?_)
    refine g_iconst (pc := 18) C 1 dX4_askedLevel_18 (by decide) ?_
    refine g_icmp_ne (pc := 19) C 24 dX4_askedLevel_19 (by decide) (fun c19 => ?_) (fun c19 => ?_)
    · exact g_sub [0] rfl (J24 )
    · have h20 : zI 1 1 r18 := zr_eq c19 (zi_full r18) (zi_c 1 (a := 1) (b := 1) (by decide)) (by decide)
      refine g_iconst (pc := 22) C 1 dX4_askedLevel_22 (by decide) ?_
      exact g_ireturn r dX4_askedLevel_23 rfl (fun _ h => h)

set_option maxHeartbeats 2000000 in
set_option maxRecDepth 100000 in
theorem n_X4_takeInterrupt (l : Launch) (D : va_G) (ad : Nat → Nat) (cy : Nat → ClassId) (tl : Int32) (A : Nat → Prop) : zMv l yX4_takeInterrupt wz_X4_takeInterrupt ({ frames := 5, cells := 0, slots := 0, locals := 119 }) [.ref (ad 19)] D (zTc cy) A (zMc D A ad cy tl) (zMc D A ad cy tl) := by
  refine zstart_v (cc := cX4_takeInterrupt) (maxL := 2) (own := RX4) (by decide) rfl rfl (Nat.le_of_ble_eq_true rfl) (fun p e s m args below meth c Q C r => ?_)
  refine g_sub (lv' := [(0, .ref (ad 19))]) [0] rfl ?_
  refine g_aload_n (pc := 0) C dX4_takeInterrupt_0 rfl 0 rfl ?_
  refine zcallVi (pc := 1) (st := []) C C.2.2.2.2.2 (n_X4_askedLevel l D ad cy tl A ) (cwV 0 C.2.2.2.2.1 gw_RX4_55 rfl rfl rfl cd_X4_askedLevel ⟨Nat.le_of_ble_eq_true rfl, Nat.le_of_ble_eq_true rfl⟩) (hc_19 C) rfl rfl (Nat.le_of_ble_eq_true rfl) ⟨Nat.le_of_ble_eq_true rfl, Nat.le_of_ble_eq_true rfl⟩ dX4_takeInterrupt_1 (fun r1 => ?_)
  refine g_istore_n (pc := 4) C ([(1, .int r1), (0, .ref (ad 19))]) dX4_takeInterrupt_4 rfl (Nat.le_of_ble_eq_true rfl) rfl ?_
  refine g_iload_n (pc := 5) C dX4_takeInterrupt_5 rfl 0 rfl ?_
  refine g_aload_n (pc := 6) C dX4_takeInterrupt_6 rfl 1 rfl ?_
  refine gc_19_5 (pc := 7) C wk_226 dX4_takeInterrupt_7 (fun z2 => ?_)
  refine g_bipush (pc := 10) C 15 dX4_takeInterrupt_10 (by decide) ?_
  refine g_iand (pc := 12) C dX4_takeInterrupt_12 (fun z3 ez3 => ?_)
  have hz3 : zI 0 15 z3 := zi_and1 (zi_c 15 (a := 0) (b := 15) (by decide)) ez3
  refine g_icmp_le (pc := 13) C 17 dX4_takeInterrupt_13 (by decide) (fun c4 => ?_) (fun c4 => ?_)
  · have h5 : zI (-2147483648) 15 r1 := zr_le1 (zc_le c4) (zi_full r1) hz3 (by decide)
    refine g_aload_n (pc := 17) C dX4_takeInterrupt_17 rfl 1 rfl ?_
    refine g_iconst (pc := 18) C 4 dX4_takeInterrupt_18 (by decide) ?_
    refine g_iload_n (pc := 19) C dX4_takeInterrupt_19 rfl 0 rfl ?_
    refine g_imul (pc := 20) C dX4_takeInterrupt_20 (fun z6 ez6 => ?_)
    refine zcallVv (pc := 21) (st := []) C C.2.2.2.2.2 (n_X4_enter l D ad cy tl A z6) (cwV 1 C.2.2.2.2.1 gw_RX4_59 rfl rfl rfl cd_X4_enter ⟨Nat.le_of_ble_eq_true rfl, Nat.le_of_ble_eq_true rfl⟩) (hc_19 C) rfl rfl (Nat.le_of_ble_eq_true rfl) ⟨Nat.le_of_ble_eq_true rfl, Nat.le_of_ble_eq_true rfl⟩ dX4_takeInterrupt_21 ?_
    refine g_aload_n (pc := 24) C dX4_takeInterrupt_24 rfl 1 rfl ?_
    refine g_aload_n (pc := 25) C dX4_takeInterrupt_25 rfl 1 rfl ?_
    refine gc_19_5 (pc := 26) C wk_226 dX4_takeInterrupt_26 (fun z7 => ?_)
    refine g_bipush (pc := 29) C (-16) dX4_takeInterrupt_29 (by decide) ?_
    refine g_iand (pc := 31) C dX4_takeInterrupt_31 (fun z8 ez8 => ?_)
    refine g_iload_n (pc := 32) C dX4_takeInterrupt_32 rfl 0 rfl ?_
    refine g_iconst (pc := 33) C 1 dX4_takeInterrupt_33 (by decide) ?_
    refine g_isub (pc := 34) C dX4_takeInterrupt_34 (fun z9 ez9 => ?_)
    refine g_ior (pc := 35) C dX4_takeInterrupt_35 (fun z10 ez10 => ?_)
    refine pc_19_5 (pc := 36) C wk_226 dX4_takeInterrupt_36 ?_
    refine g_aload_n (pc := 39) C dX4_takeInterrupt_39 rfl 1 rfl ?_
    refine g_dup (pc := 40) C dX4_takeInterrupt_40 rfl ?_
    refine gc_19_9 (pc := 41) C wk_234 dX4_takeInterrupt_41 (fun z11 => ?_)
    refine g_iconst (pc := 44) C 1 dX4_takeInterrupt_44 (by decide) ?_
    refine g_iload_n (pc := 45) C dX4_takeInterrupt_45 rfl 0 rfl ?_
    refine g_ishl (pc := 46) C dX4_takeInterrupt_46 (fun z12 ez12 => ?_)
    refine g_iconst (pc := 47) C (-1) dX4_takeInterrupt_47 (by decide) ?_
    refine g_ixor (pc := 48) C dX4_takeInterrupt_48 (fun z13 ez13 => ?_)
    refine g_iand (pc := 49) C dX4_takeInterrupt_49 (fun z14 ez14 => ?_)
    refine pc_19_9 (pc := 50) C wk_234 dX4_takeInterrupt_50 ?_
    refine g_aload_n (pc := 53) C dX4_takeInterrupt_53 rfl 1 rfl ?_
    refine g_dup (pc := 54) C dX4_takeInterrupt_54 rfl ?_
    refine gc_19_8 (pc := 55) C wk_232 dX4_takeInterrupt_55 (fun z15 => ?_)
    refine g_iconst (pc := 58) C 1 dX4_takeInterrupt_58 (by decide) ?_
    refine g_iadd (pc := 59) C dX4_takeInterrupt_59 (fun z16 ez16 => ?_)
    refine pc_19_8 (pc := 60) C wk_232 dX4_takeInterrupt_60 ?_
    refine g_aload_n (pc := 63) C dX4_takeInterrupt_63 rfl 1 rfl ?_
    refine g_iconst (pc := 64) C 0 dX4_takeInterrupt_64 (by decide) ?_
    refine pc_19_6 (pc := 65) C wk_228 dX4_takeInterrupt_65 ?_
    exact g_return r dX4_takeInterrupt_68 (fun _ h => h)
  · have h17 : zI 1 2147483647 r1 := zr_lt2 (zc_nle c4) hz3 (zi_full r1) (by decide)
    exact g_return r dX4_takeInterrupt_16 (fun _ h => h)

set_option maxHeartbeats 2000000 in
set_option maxRecDepth 100000 in
theorem n_X4_fetch (l : Launch) (D : va_G) (ad : Nat → Nat) (cy : Nat → ClassId) (tl : Int32) (A : Nat → Prop) : zMi l yX4_fetch wz_X4_fetch ({ frames := 6, cells := 0, slots := 0, locals := 142 }) [.ref (ad 19)] D (zTc cy) A (zMc D A ad cy tl) (fun r H => zI 0 1 r ∧ (zMc D A ad cy tl) H) := by
  refine zstart_i (cc := cX4_fetch) (maxL := 1) (ty := .boolean) (own := RX4) (by decide) rfl rfl (Nat.le_of_ble_eq_true rfl) (fun p e s m args below meth c Q C r => ?_)
  have J40 : ∀ (b0_40 : Int32) (_ : zI 0 1 b0_40), zG p l e ({ frames := 6, cells := 0, slots := 0, locals := 142 }) s m args below meth c 1 0 0 A Q (zMc D A ad cy tl) 40 [(0, .ref (ad 19))] [.int b0_40] := by
    intro b0_40 hb0_40
    exact g_ireturn r dX4_fetch_40 (zn_bool hb0_40) (fun _ h => ⟨hb0_40, h⟩)
  have J39 : zG p l e ({ frames := 6, cells := 0, slots := 0, locals := 142 }) s m args below meth c 1 0 0 A Q (zMc D A ad cy tl) 39 [(0, .ref (ad 19))] [] := by
    refine g_iconst (pc := 39) C 0 dX4_fetch_39 (by decide) ?_
    exact g_sub [0] rfl (J40 0 (zi_c 0 (a := 0) (b := 1) (by decide)))
  have J21 : zG p l e ({ frames := 6, cells := 0, slots := 0, locals := 142 }) s m args below meth c 1 0 0 A Q (zMc D A ad cy tl) 21 [(0, .ref (ad 19))] [] := by
    refine g_aload_n (pc := 21) C dX4_fetch_21 rfl 0 rfl ?_
    refine gc_19_6 (pc := 22) C wk_228 dX4_fetch_22 (fun z1 => ?_)
    refine g_if_ne (pc := 25) C 39 dX4_fetch_25 (by decide) (fun c2 => ?_) (fun c2 => ?_)
    · exact g_sub [0] rfl (J39 )
    · have h3 : zI 0 0 z1 := zr_eq c2 (zi_full z1) (zi_c 0 (a := 0) (b := 0) (by decide)) (by decide)
      refine g_aload_n (pc := 28) C dX4_fetch_28 rfl 0 rfl ?_
      refine zcallVi (pc := 29) (st := []) C C.2.2.2.2.2 (n_X4_fetchInstruction l D ad cy tl A ) (cwV 0 C.2.2.2.2.1 gw_RX4_51 rfl rfl rfl cd_X4_fetchInstruction ⟨Nat.le_of_ble_eq_true rfl, Nat.le_of_ble_eq_true rfl⟩) (hc_19 C) rfl rfl (Nat.le_of_ble_eq_true rfl) ⟨Nat.le_of_ble_eq_true rfl, Nat.le_of_ble_eq_true rfl⟩ dX4_fetch_29 (fun r4 => ?_)
      refine g_and (M2 := (zMc D A ad cy tl)) (fun hr4 => ?_)
      refine g_if_eq (pc := 32) C 39 dX4_fetch_32 (by decide) (fun c5 => ?_) (fun c5 => ?_)
      · have h6 : zI 0 0 r4 := zr_eq c5 hr4 (zi_c 0 (a := 0) (b := 0) (by decide)) (by decide)
        exact g_sub [0] rfl (J39 )
      · have h7 : zI 1 1 r4 := zr_neL c5 hr4 (zi_c 0 (a := 0) (b := 0) (by decide)) (by decide)
        refine g_iconst (pc := 35) C 1 dX4_fetch_35 (by decide) ?_
        refine g_goto (pc := 36) C 40 dX4_fetch_36 (by decide) ?_
        exact g_sub [0] rfl (J40 1 (zi_c 1 (a := 0) (b := 1) (by decide)))
  refine g_sub (lv' := [(0, .ref (ad 19))]) [0] rfl ?_
  refine g_aload_n (pc := 0) C dX4_fetch_0 rfl 0 rfl ?_
  refine gc_19_6 (pc := 1) C wk_228 dX4_fetch_1 (fun z8 => ?_)
  refine g_iconst (pc := 4) C 2 dX4_fetch_4 (by decide) ?_
  refine g_icmp_ne (pc := 5) C 10 dX4_fetch_5 (by decide) (fun c9 => ?_) (fun c9 => ?_)
  · refine g_aload_n (pc := 10) C dX4_fetch_10 rfl 0 rfl ?_
    refine gc_19_11 (pc := 11) C wk_237 dX4_fetch_11 (fun z10 => ?_)
    refine g_if_ne (pc := 14) C 21 dX4_fetch_14 (by decide) (fun c11 => ?_) (fun c11 => ?_)
    · exact g_sub [0] rfl (J21 )
    · have h12 : zI 0 0 z10 := zr_eq c11 (zi_full z10) (zi_c 0 (a := 0) (b := 0) (by decide)) (by decide)
      refine g_aload_n (pc := 17) C dX4_fetch_17 rfl 0 rfl ?_
      refine zcallVv (pc := 18) (st := []) C C.2.2.2.2.2 (n_X4_takeInterrupt l D ad cy tl A ) (cwV 0 C.2.2.2.2.1 gw_RX4_48 rfl rfl rfl cd_X4_takeInterrupt ⟨Nat.le_of_ble_eq_true rfl, Nat.le_of_ble_eq_true rfl⟩) (hc_19 C) rfl rfl (Nat.le_of_ble_eq_true rfl) ⟨Nat.le_of_ble_eq_true rfl, Nat.le_of_ble_eq_true rfl⟩ dX4_fetch_18 ?_
      exact g_sub [0] rfl (J21 )
  · have h13 : zI 2 2 z8 := zr_eq c9 (zi_full z8) (zi_c 2 (a := 2) (b := 2) (by decide)) (by decide)
    refine g_iconst (pc := 8) C 0 dX4_fetch_8 (by decide) ?_
    exact g_ireturn r dX4_fetch_9 rfl (fun _ h => ⟨(zi_c 0 (a := 0) (b := 1) (by decide)), h⟩)

