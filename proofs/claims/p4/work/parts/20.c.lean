set_option maxHeartbeats 2000000 in
set_option maxRecDepth 100000 in
theorem n_X0_get_pb (l : Launch) (D : va_G) (ad : Nat → Nat) (cy : Nat → ClassId) (tl : Int32) (A : Nat → Prop) (p0 : Int32) : zMi l yX0_get wz_X0_get ({ frames := 0, cells := 0, slots := 0, locals := 0 }) [.ref (ad 4), .int p0] D (zTc cy) A (zMc D A ad cy tl) (fun r H => zI 0 255 r ∧ (zMc D A ad cy tl) H) := by
  refine zstart_i (cc := cX0_get) (maxL := 3) (ty := .int) (own := RX0) (by decide) rfl rfl (Nat.le_of_ble_eq_true rfl) (fun p e s m args below meth c Q C r => ?_)
  have J17 : ∀ (a2_17 : Int32), zG p l e ({ frames := 0, cells := 0, slots := 0, locals := 0 }) s m args below meth c 3 0 0 A Q (zMc D A ad cy tl) 17 [(0, .ref (ad 4)), (1, .int p0), (2, .int a2_17)] [] := by
    intro a2_17
    refine g_iconst (pc := 17) C 0 dX0_get_17 (by decide) ?_
    exact g_ireturn r dX0_get_18 rfl (fun _ h => ⟨(zi_c 0 (a := 0) (b := 255) (by decide)), h⟩)
  refine g_sub (lv' := [(0, .ref (ad 4)), (1, .int p0)]) [0, 1] rfl ?_
  refine g_iload_n (pc := 0) C dX0_get_0 rfl 1 rfl ?_
  refine g_iconst (pc := 1) C 3 dX0_get_1 (by decide) ?_
  refine g_ishr (pc := 2) C dX0_get_2 (fun z1 ez1 => ?_)
  refine g_istore_n (pc := 3) C ([(2, .int z1), (0, .ref (ad 4)), (1, .int p0)]) dX0_get_3 rfl (Nat.le_of_ble_eq_true rfl) rfl ?_
  refine g_iload_n (pc := 4) C dX0_get_4 rfl 0 rfl ?_
  refine g_if_lt (pc := 5) C 17 dX0_get_5 (by decide) (fun c2 => ?_) (fun c2 => ?_)
  · have h3 : zI (-2147483648) (-1) z1 := zr_lt1 (zc_lt c2) (zi_full z1) (zi_c 0 (a := 0) (b := 0) (by decide)) (by decide)
    exact g_sub [1, 2, 0] rfl (J17 z1)
  · have h4 : zI 0 2147483647 z1 := zr_le2 (zc_nlt c2) (zi_c 0 (a := 0) (b := 0) (by decide)) (zi_full z1) (by decide)
    refine g_iload_n (pc := 8) C dX0_get_8 rfl 0 rfl ?_
    refine g_aload_n (pc := 9) C dX0_get_9 rfl 1 rfl ?_
    refine gc_4_0 (pc := 10) C wk_108 dX0_get_10 ?_
    refine nc_5 (pc := 13) C dX0_get_13 ?_
    refine g_icmp_lt (pc := 14) C 19 dX0_get_14 (by decide) (fun c5 => ?_) (fun c5 => ?_)
    · have h6 : zI 0 2047 z1 := zr_lt1 (zc_lt c5) h4 (zi_c 2048 (a := 2048) (b := 2048) (by decide)) (by decide)
      refine g_aload_n (pc := 19) C dX0_get_19 rfl 1 rfl ?_
      refine gc_4_0 (pc := 20) C wk_108 dX0_get_20 ?_
      refine g_iload_n (pc := 23) C dX0_get_23 rfl 0 rfl ?_
      refine lc_5 (pc := 24) C (zi_in h6 (by decide)) dX0_get_24 (fun z7 => ?_)
      refine g_iload_n (pc := 25) C dX0_get_25 rfl 2 rfl ?_
      refine g_bipush (pc := 26) C 7 dX0_get_26 (by decide) ?_
      refine g_iand (pc := 28) C dX0_get_28 (fun z8 ez8 => ?_)
      have hz8 : zI 0 7 z8 := zi_and1 (zi_c 7 (a := 0) (b := 7) (by decide)) ez8
      refine g_iconst (pc := 29) C 3 dX0_get_29 (by decide) ?_
      refine g_ishl (pc := 30) C dX0_get_30 (fun z9 ez9 => ?_)
      refine g_lushr (pc := 31) C dX0_get_31 (fun z10 ez10 => ?_)
      refine g_l2i (pc := 32) C dX0_get_32 (fun z11 ez11 => ?_)
      refine g_sipush (pc := 33) C 255 dX0_get_33 (by decide) ?_
      refine g_iand (pc := 36) C dX0_get_36 (fun z12 ez12 => ?_)
      have hz12 : zI 0 255 z12 := zi_and1 (zi_c 255 (a := 0) (b := 255) (by decide)) ez12
      exact g_ireturn r dX0_get_37 rfl (fun _ h => ⟨hz12, h⟩)
    · have h13 : zI 2048 2147483647 z1 := zr_le2 (zc_nlt c5) (zi_c 2048 (a := 2048) (b := 2048) (by decide)) h4 (by decide)
      exact g_sub [1, 2, 0] rfl (J17 z1)

set_option maxHeartbeats 2000000 in
set_option maxRecDepth 100000 in
theorem n_X0_get_gb (l : Launch) (D : va_G) (ad : Nat → Nat) (cy : Nat → ClassId) (tl : Int32) (A : Nat → Prop) (p0 : Int32) : zMi l yX0_get wz_X0_get ({ frames := 0, cells := 0, slots := 0, locals := 0 }) [.ref (ad 8), .int p0] D (zTc cy) A (zMc D A ad cy tl) (fun r H => zI 0 255 r ∧ (zMc D A ad cy tl) H) := by
  refine zstart_i (cc := cX0_get) (maxL := 3) (ty := .int) (own := RX0) (by decide) rfl rfl (Nat.le_of_ble_eq_true rfl) (fun p e s m args below meth c Q C r => ?_)
  have J17 : ∀ (a2_17 : Int32), zG p l e ({ frames := 0, cells := 0, slots := 0, locals := 0 }) s m args below meth c 3 0 0 A Q (zMc D A ad cy tl) 17 [(0, .ref (ad 8)), (1, .int p0), (2, .int a2_17)] [] := by
    intro a2_17
    refine g_iconst (pc := 17) C 0 dX0_get_17 (by decide) ?_
    exact g_ireturn r dX0_get_18 rfl (fun _ h => ⟨(zi_c 0 (a := 0) (b := 255) (by decide)), h⟩)
  refine g_sub (lv' := [(0, .ref (ad 8)), (1, .int p0)]) [0, 1] rfl ?_
  refine g_iload_n (pc := 0) C dX0_get_0 rfl 1 rfl ?_
  refine g_iconst (pc := 1) C 3 dX0_get_1 (by decide) ?_
  refine g_ishr (pc := 2) C dX0_get_2 (fun z1 ez1 => ?_)
  refine g_istore_n (pc := 3) C ([(2, .int z1), (0, .ref (ad 8)), (1, .int p0)]) dX0_get_3 rfl (Nat.le_of_ble_eq_true rfl) rfl ?_
  refine g_iload_n (pc := 4) C dX0_get_4 rfl 0 rfl ?_
  refine g_if_lt (pc := 5) C 17 dX0_get_5 (by decide) (fun c2 => ?_) (fun c2 => ?_)
  · have h3 : zI (-2147483648) (-1) z1 := zr_lt1 (zc_lt c2) (zi_full z1) (zi_c 0 (a := 0) (b := 0) (by decide)) (by decide)
    exact g_sub [1, 2, 0] rfl (J17 z1)
  · have h4 : zI 0 2147483647 z1 := zr_le2 (zc_nlt c2) (zi_c 0 (a := 0) (b := 0) (by decide)) (zi_full z1) (by decide)
    refine g_iload_n (pc := 8) C dX0_get_8 rfl 0 rfl ?_
    refine g_aload_n (pc := 9) C dX0_get_9 rfl 1 rfl ?_
    refine gc_8_0 (pc := 10) C wk_108 dX0_get_10 ?_
    refine nc_9 (pc := 13) C dX0_get_13 ?_
    refine g_icmp_lt (pc := 14) C 19 dX0_get_14 (by decide) (fun c5 => ?_) (fun c5 => ?_)
    · have h6 : zI 0 1023 z1 := zr_lt1 (zc_lt c5) h4 (zi_c 1024 (a := 1024) (b := 1024) (by decide)) (by decide)
      refine g_aload_n (pc := 19) C dX0_get_19 rfl 1 rfl ?_
      refine gc_8_0 (pc := 20) C wk_108 dX0_get_20 ?_
      refine g_iload_n (pc := 23) C dX0_get_23 rfl 0 rfl ?_
      refine lc_9 (pc := 24) C (zi_in h6 (by decide)) dX0_get_24 (fun z7 => ?_)
      refine g_iload_n (pc := 25) C dX0_get_25 rfl 2 rfl ?_
      refine g_bipush (pc := 26) C 7 dX0_get_26 (by decide) ?_
      refine g_iand (pc := 28) C dX0_get_28 (fun z8 ez8 => ?_)
      have hz8 : zI 0 7 z8 := zi_and1 (zi_c 7 (a := 0) (b := 7) (by decide)) ez8
      refine g_iconst (pc := 29) C 3 dX0_get_29 (by decide) ?_
      refine g_ishl (pc := 30) C dX0_get_30 (fun z9 ez9 => ?_)
      refine g_lushr (pc := 31) C dX0_get_31 (fun z10 ez10 => ?_)
      refine g_l2i (pc := 32) C dX0_get_32 (fun z11 ez11 => ?_)
      refine g_sipush (pc := 33) C 255 dX0_get_33 (by decide) ?_
      refine g_iand (pc := 36) C dX0_get_36 (fun z12 ez12 => ?_)
      have hz12 : zI 0 255 z12 := zi_and1 (zi_c 255 (a := 0) (b := 255) (by decide)) ez12
      exact g_ireturn r dX0_get_37 rfl (fun _ h => ⟨hz12, h⟩)
    · have h13 : zI 1024 2147483647 z1 := zr_le2 (zc_nlt c5) (zi_c 1024 (a := 1024) (b := 1024) (by decide)) h4 (by decide)
      exact g_sub [1, 2, 0] rfl (J17 z1)

set_option maxHeartbeats 2000000 in
set_option maxRecDepth 100000 in
theorem n_X0_get_rb (l : Launch) (D : va_G) (ad : Nat → Nat) (cy : Nat → ClassId) (tl : Int32) (A : Nat → Prop) (p0 : Int32) : zMi l yX0_get wz_X0_get ({ frames := 0, cells := 0, slots := 0, locals := 0 }) [.ref (ad 13), .int p0] D (zTc cy) A (zMc D A ad cy tl) (fun r H => zI 0 255 r ∧ (zMc D A ad cy tl) H) := by
  refine zstart_i (cc := cX0_get) (maxL := 3) (ty := .int) (own := RX0) (by decide) rfl rfl (Nat.le_of_ble_eq_true rfl) (fun p e s m args below meth c Q C r => ?_)
  have J17 : ∀ (a2_17 : Int32), zG p l e ({ frames := 0, cells := 0, slots := 0, locals := 0 }) s m args below meth c 3 0 0 A Q (zMc D A ad cy tl) 17 [(0, .ref (ad 13)), (1, .int p0), (2, .int a2_17)] [] := by
    intro a2_17
    refine g_iconst (pc := 17) C 0 dX0_get_17 (by decide) ?_
    exact g_ireturn r dX0_get_18 rfl (fun _ h => ⟨(zi_c 0 (a := 0) (b := 255) (by decide)), h⟩)
  refine g_sub (lv' := [(0, .ref (ad 13)), (1, .int p0)]) [0, 1] rfl ?_
  refine g_iload_n (pc := 0) C dX0_get_0 rfl 1 rfl ?_
  refine g_iconst (pc := 1) C 3 dX0_get_1 (by decide) ?_
  refine g_ishr (pc := 2) C dX0_get_2 (fun z1 ez1 => ?_)
  refine g_istore_n (pc := 3) C ([(2, .int z1), (0, .ref (ad 13)), (1, .int p0)]) dX0_get_3 rfl (Nat.le_of_ble_eq_true rfl) rfl ?_
  refine g_iload_n (pc := 4) C dX0_get_4 rfl 0 rfl ?_
  refine g_if_lt (pc := 5) C 17 dX0_get_5 (by decide) (fun c2 => ?_) (fun c2 => ?_)
  · have h3 : zI (-2147483648) (-1) z1 := zr_lt1 (zc_lt c2) (zi_full z1) (zi_c 0 (a := 0) (b := 0) (by decide)) (by decide)
    exact g_sub [1, 2, 0] rfl (J17 z1)
  · have h4 : zI 0 2147483647 z1 := zr_le2 (zc_nlt c2) (zi_c 0 (a := 0) (b := 0) (by decide)) (zi_full z1) (by decide)
    refine g_iload_n (pc := 8) C dX0_get_8 rfl 0 rfl ?_
    refine g_aload_n (pc := 9) C dX0_get_9 rfl 1 rfl ?_
    refine gc_13_0 (pc := 10) C wk_108 dX0_get_10 ?_
    refine nc_14 (pc := 13) C dX0_get_13 ?_
    refine g_icmp_lt (pc := 14) C 19 dX0_get_14 (by decide) (fun c5 => ?_) (fun c5 => ?_)
    · have h6 : zI 0 1023 z1 := zr_lt1 (zc_lt c5) h4 (zi_c 1024 (a := 1024) (b := 1024) (by decide)) (by decide)
      refine g_aload_n (pc := 19) C dX0_get_19 rfl 1 rfl ?_
      refine gc_13_0 (pc := 20) C wk_108 dX0_get_20 ?_
      refine g_iload_n (pc := 23) C dX0_get_23 rfl 0 rfl ?_
      refine lc_14 (pc := 24) C (zi_in h6 (by decide)) dX0_get_24 (fun z7 => ?_)
      refine g_iload_n (pc := 25) C dX0_get_25 rfl 2 rfl ?_
      refine g_bipush (pc := 26) C 7 dX0_get_26 (by decide) ?_
      refine g_iand (pc := 28) C dX0_get_28 (fun z8 ez8 => ?_)
      have hz8 : zI 0 7 z8 := zi_and1 (zi_c 7 (a := 0) (b := 7) (by decide)) ez8
      refine g_iconst (pc := 29) C 3 dX0_get_29 (by decide) ?_
      refine g_ishl (pc := 30) C dX0_get_30 (fun z9 ez9 => ?_)
      refine g_lushr (pc := 31) C dX0_get_31 (fun z10 ez10 => ?_)
      refine g_l2i (pc := 32) C dX0_get_32 (fun z11 ez11 => ?_)
      refine g_sipush (pc := 33) C 255 dX0_get_33 (by decide) ?_
      refine g_iand (pc := 36) C dX0_get_36 (fun z12 ez12 => ?_)
      have hz12 : zI 0 255 z12 := zi_and1 (zi_c 255 (a := 0) (b := 255) (by decide)) ez12
      exact g_ireturn r dX0_get_37 rfl (fun _ h => ⟨hz12, h⟩)
    · have h13 : zI 1024 2147483647 z1 := zr_le2 (zc_nlt c5) (zi_c 1024 (a := 1024) (b := 1024) (by decide)) h4 (by decide)
      exact g_sub [1, 2, 0] rfl (J17 z1)

set_option maxHeartbeats 2000000 in
set_option maxRecDepth 100000 in
theorem n_X0_get_mb (l : Launch) (D : va_G) (ad : Nat → Nat) (cy : Nat → ClassId) (tl : Int32) (A : Nat → Prop) (p0 : Int32) : zMi l yX0_get wz_X0_get ({ frames := 0, cells := 0, slots := 0, locals := 0 }) [.ref (ad 15), .int p0] D (zTc cy) A (zMc D A ad cy tl) (fun r H => zI 0 255 r ∧ (zMc D A ad cy tl) H) := by
  refine zstart_i (cc := cX0_get) (maxL := 3) (ty := .int) (own := RX0) (by decide) rfl rfl (Nat.le_of_ble_eq_true rfl) (fun p e s m args below meth c Q C r => ?_)
  have J17 : ∀ (a2_17 : Int32), zG p l e ({ frames := 0, cells := 0, slots := 0, locals := 0 }) s m args below meth c 3 0 0 A Q (zMc D A ad cy tl) 17 [(0, .ref (ad 15)), (1, .int p0), (2, .int a2_17)] [] := by
    intro a2_17
    refine g_iconst (pc := 17) C 0 dX0_get_17 (by decide) ?_
    exact g_ireturn r dX0_get_18 rfl (fun _ h => ⟨(zi_c 0 (a := 0) (b := 255) (by decide)), h⟩)
  refine g_sub (lv' := [(0, .ref (ad 15)), (1, .int p0)]) [0, 1] rfl ?_
  refine g_iload_n (pc := 0) C dX0_get_0 rfl 1 rfl ?_
  refine g_iconst (pc := 1) C 3 dX0_get_1 (by decide) ?_
  refine g_ishr (pc := 2) C dX0_get_2 (fun z1 ez1 => ?_)
  refine g_istore_n (pc := 3) C ([(2, .int z1), (0, .ref (ad 15)), (1, .int p0)]) dX0_get_3 rfl (Nat.le_of_ble_eq_true rfl) rfl ?_
  refine g_iload_n (pc := 4) C dX0_get_4 rfl 0 rfl ?_
  refine g_if_lt (pc := 5) C 17 dX0_get_5 (by decide) (fun c2 => ?_) (fun c2 => ?_)
  · have h3 : zI (-2147483648) (-1) z1 := zr_lt1 (zc_lt c2) (zi_full z1) (zi_c 0 (a := 0) (b := 0) (by decide)) (by decide)
    exact g_sub [1, 2, 0] rfl (J17 z1)
  · have h4 : zI 0 2147483647 z1 := zr_le2 (zc_nlt c2) (zi_c 0 (a := 0) (b := 0) (by decide)) (zi_full z1) (by decide)
    refine g_iload_n (pc := 8) C dX0_get_8 rfl 0 rfl ?_
    refine g_aload_n (pc := 9) C dX0_get_9 rfl 1 rfl ?_
    refine gc_15_0 (pc := 10) C wk_108 dX0_get_10 ?_
    refine nc_16 (pc := 13) C dX0_get_13 ?_
    refine g_icmp_lt (pc := 14) C 19 dX0_get_14 (by decide) (fun c5 => ?_) (fun c5 => ?_)
    · have h6 : zI 0 4095 z1 := zr_lt1 (zc_lt c5) h4 (zi_c 4096 (a := 4096) (b := 4096) (by decide)) (by decide)
      refine g_aload_n (pc := 19) C dX0_get_19 rfl 1 rfl ?_
      refine gc_15_0 (pc := 20) C wk_108 dX0_get_20 ?_
      refine g_iload_n (pc := 23) C dX0_get_23 rfl 0 rfl ?_
      refine lc_16 (pc := 24) C (zi_in h6 (by decide)) dX0_get_24 (fun z7 => ?_)
      refine g_iload_n (pc := 25) C dX0_get_25 rfl 2 rfl ?_
      refine g_bipush (pc := 26) C 7 dX0_get_26 (by decide) ?_
      refine g_iand (pc := 28) C dX0_get_28 (fun z8 ez8 => ?_)
      have hz8 : zI 0 7 z8 := zi_and1 (zi_c 7 (a := 0) (b := 7) (by decide)) ez8
      refine g_iconst (pc := 29) C 3 dX0_get_29 (by decide) ?_
      refine g_ishl (pc := 30) C dX0_get_30 (fun z9 ez9 => ?_)
      refine g_lushr (pc := 31) C dX0_get_31 (fun z10 ez10 => ?_)
      refine g_l2i (pc := 32) C dX0_get_32 (fun z11 ez11 => ?_)
      refine g_sipush (pc := 33) C 255 dX0_get_33 (by decide) ?_
      refine g_iand (pc := 36) C dX0_get_36 (fun z12 ez12 => ?_)
      have hz12 : zI 0 255 z12 := zi_and1 (zi_c 255 (a := 0) (b := 255) (by decide)) ez12
      exact g_ireturn r dX0_get_37 rfl (fun _ h => ⟨hz12, h⟩)
    · have h13 : zI 4096 2147483647 z1 := zr_le2 (zc_nlt c5) (zi_c 4096 (a := 4096) (b := 4096) (by decide)) h4 (by decide)
      exact g_sub [1, 2, 0] rfl (J17 z1)

set_option maxHeartbeats 2000000 in
set_option maxRecDepth 100000 in
theorem n_X0_get_qb (l : Launch) (D : va_G) (ad : Nat → Nat) (cy : Nat → ClassId) (tl : Int32) (A : Nat → Prop) (p0 : Int32) : zMi l yX0_get wz_X0_get ({ frames := 0, cells := 0, slots := 0, locals := 0 }) [.ref (ad 17), .int p0] D (zTc cy) A (zMc D A ad cy tl) (fun r H => zI 0 255 r ∧ (zMc D A ad cy tl) H) := by
  refine zstart_i (cc := cX0_get) (maxL := 3) (ty := .int) (own := RX0) (by decide) rfl rfl (Nat.le_of_ble_eq_true rfl) (fun p e s m args below meth c Q C r => ?_)
  have J17 : ∀ (a2_17 : Int32), zG p l e ({ frames := 0, cells := 0, slots := 0, locals := 0 }) s m args below meth c 3 0 0 A Q (zMc D A ad cy tl) 17 [(0, .ref (ad 17)), (1, .int p0), (2, .int a2_17)] [] := by
    intro a2_17
    refine g_iconst (pc := 17) C 0 dX0_get_17 (by decide) ?_
    exact g_ireturn r dX0_get_18 rfl (fun _ h => ⟨(zi_c 0 (a := 0) (b := 255) (by decide)), h⟩)
  refine g_sub (lv' := [(0, .ref (ad 17)), (1, .int p0)]) [0, 1] rfl ?_
  refine g_iload_n (pc := 0) C dX0_get_0 rfl 1 rfl ?_
  refine g_iconst (pc := 1) C 3 dX0_get_1 (by decide) ?_
  refine g_ishr (pc := 2) C dX0_get_2 (fun z1 ez1 => ?_)
  refine g_istore_n (pc := 3) C ([(2, .int z1), (0, .ref (ad 17)), (1, .int p0)]) dX0_get_3 rfl (Nat.le_of_ble_eq_true rfl) rfl ?_
  refine g_iload_n (pc := 4) C dX0_get_4 rfl 0 rfl ?_
  refine g_if_lt (pc := 5) C 17 dX0_get_5 (by decide) (fun c2 => ?_) (fun c2 => ?_)
  · have h3 : zI (-2147483648) (-1) z1 := zr_lt1 (zc_lt c2) (zi_full z1) (zi_c 0 (a := 0) (b := 0) (by decide)) (by decide)
    exact g_sub [1, 2, 0] rfl (J17 z1)
  · have h4 : zI 0 2147483647 z1 := zr_le2 (zc_nlt c2) (zi_c 0 (a := 0) (b := 0) (by decide)) (zi_full z1) (by decide)
    refine g_iload_n (pc := 8) C dX0_get_8 rfl 0 rfl ?_
    refine g_aload_n (pc := 9) C dX0_get_9 rfl 1 rfl ?_
    refine gc_17_0 (pc := 10) C wk_108 dX0_get_10 ?_
    refine nc_18 (pc := 13) C dX0_get_13 ?_
    refine g_icmp_lt (pc := 14) C 19 dX0_get_14 (by decide) (fun c5 => ?_) (fun c5 => ?_)
    · have h6 : zI 0 31 z1 := zr_lt1 (zc_lt c5) h4 (zi_c 32 (a := 32) (b := 32) (by decide)) (by decide)
      refine g_aload_n (pc := 19) C dX0_get_19 rfl 1 rfl ?_
      refine gc_17_0 (pc := 20) C wk_108 dX0_get_20 ?_
      refine g_iload_n (pc := 23) C dX0_get_23 rfl 0 rfl ?_
      refine lc_18 (pc := 24) C (zi_in h6 (by decide)) dX0_get_24 (fun z7 => ?_)
      refine g_iload_n (pc := 25) C dX0_get_25 rfl 2 rfl ?_
      refine g_bipush (pc := 26) C 7 dX0_get_26 (by decide) ?_
      refine g_iand (pc := 28) C dX0_get_28 (fun z8 ez8 => ?_)
      have hz8 : zI 0 7 z8 := zi_and1 (zi_c 7 (a := 0) (b := 7) (by decide)) ez8
      refine g_iconst (pc := 29) C 3 dX0_get_29 (by decide) ?_
      refine g_ishl (pc := 30) C dX0_get_30 (fun z9 ez9 => ?_)
      refine g_lushr (pc := 31) C dX0_get_31 (fun z10 ez10 => ?_)
      refine g_l2i (pc := 32) C dX0_get_32 (fun z11 ez11 => ?_)
      refine g_sipush (pc := 33) C 255 dX0_get_33 (by decide) ?_
      refine g_iand (pc := 36) C dX0_get_36 (fun z12 ez12 => ?_)
      have hz12 : zI 0 255 z12 := zi_and1 (zi_c 255 (a := 0) (b := 255) (by decide)) ez12
      exact g_ireturn r dX0_get_37 rfl (fun _ h => ⟨hz12, h⟩)
    · have h13 : zI 32 2147483647 z1 := zr_le2 (zc_nlt c5) (zi_c 32 (a := 32) (b := 32) (by decide)) h4 (by decide)
      exact g_sub [1, 2, 0] rfl (J17 z1)

set_option maxHeartbeats 2000000 in
set_option maxRecDepth 100000 in
theorem n_X0_get_tb (l : Launch) (D : va_G) (ad : Nat → Nat) (cy : Nat → ClassId) (tl : Int32) (A : Nat → Prop) (p0 : Int32) : zMi l yX0_get wz_X0_get ({ frames := 0, cells := 0, slots := 0, locals := 0 }) [.ref (ad 1), .int p0] D (zTc cy) A (zMc D A ad cy tl) (fun r H => zI 0 255 r ∧ (zMc D A ad cy tl) H) := by
  refine zstart_i (cc := cX0_get) (maxL := 3) (ty := .int) (own := RX0) (by decide) rfl rfl (Nat.le_of_ble_eq_true rfl) (fun p e s m args below meth c Q C r => ?_)
  have J17 : ∀ (a2_17 : Int32), zG p l e ({ frames := 0, cells := 0, slots := 0, locals := 0 }) s m args below meth c 3 0 0 A Q (zMc D A ad cy tl) 17 [(0, .ref (ad 1)), (1, .int p0), (2, .int a2_17)] [] := by
    intro a2_17
    refine g_iconst (pc := 17) C 0 dX0_get_17 (by decide) ?_
    exact g_ireturn r dX0_get_18 rfl (fun _ h => ⟨(zi_c 0 (a := 0) (b := 255) (by decide)), h⟩)
  refine g_sub (lv' := [(0, .ref (ad 1)), (1, .int p0)]) [0, 1] rfl ?_
  refine g_iload_n (pc := 0) C dX0_get_0 rfl 1 rfl ?_
  refine g_iconst (pc := 1) C 3 dX0_get_1 (by decide) ?_
  refine g_ishr (pc := 2) C dX0_get_2 (fun z1 ez1 => ?_)
  refine g_istore_n (pc := 3) C ([(2, .int z1), (0, .ref (ad 1)), (1, .int p0)]) dX0_get_3 rfl (Nat.le_of_ble_eq_true rfl) rfl ?_
  refine g_iload_n (pc := 4) C dX0_get_4 rfl 0 rfl ?_
  refine g_if_lt (pc := 5) C 17 dX0_get_5 (by decide) (fun c2 => ?_) (fun c2 => ?_)
  · have h3 : zI (-2147483648) (-1) z1 := zr_lt1 (zc_lt c2) (zi_full z1) (zi_c 0 (a := 0) (b := 0) (by decide)) (by decide)
    exact g_sub [1, 2, 0] rfl (J17 z1)
  · have h4 : zI 0 2147483647 z1 := zr_le2 (zc_nlt c2) (zi_c 0 (a := 0) (b := 0) (by decide)) (zi_full z1) (by decide)
    refine g_iload_n (pc := 8) C dX0_get_8 rfl 0 rfl ?_
    refine g_aload_n (pc := 9) C dX0_get_9 rfl 1 rfl ?_
    refine gc_1_0 (pc := 10) C wk_108 dX0_get_10 ?_
    refine nc_2 (pc := 13) C dX0_get_13 ?_
    refine g_icmp_lt (pc := 14) C 19 dX0_get_14 (by decide) (fun c5 => ?_) (fun c5 => ?_)
    · have h6 : zI 0 124 z1 := zr_lt1 (zc_lt c5) h4 (zi_c 125 (a := 125) (b := 125) (by decide)) (by decide)
      refine g_aload_n (pc := 19) C dX0_get_19 rfl 1 rfl ?_
      refine gc_1_0 (pc := 20) C wk_108 dX0_get_20 ?_
      refine g_iload_n (pc := 23) C dX0_get_23 rfl 0 rfl ?_
      refine lc_2 (pc := 24) C (zi_in h6 (by decide)) dX0_get_24 (fun z7 => ?_)
      refine g_iload_n (pc := 25) C dX0_get_25 rfl 2 rfl ?_
      refine g_bipush (pc := 26) C 7 dX0_get_26 (by decide) ?_
      refine g_iand (pc := 28) C dX0_get_28 (fun z8 ez8 => ?_)
      have hz8 : zI 0 7 z8 := zi_and1 (zi_c 7 (a := 0) (b := 7) (by decide)) ez8
      refine g_iconst (pc := 29) C 3 dX0_get_29 (by decide) ?_
      refine g_ishl (pc := 30) C dX0_get_30 (fun z9 ez9 => ?_)
      refine g_lushr (pc := 31) C dX0_get_31 (fun z10 ez10 => ?_)
      refine g_l2i (pc := 32) C dX0_get_32 (fun z11 ez11 => ?_)
      refine g_sipush (pc := 33) C 255 dX0_get_33 (by decide) ?_
      refine g_iand (pc := 36) C dX0_get_36 (fun z12 ez12 => ?_)
      have hz12 : zI 0 255 z12 := zi_and1 (zi_c 255 (a := 0) (b := 255) (by decide)) ez12
      exact g_ireturn r dX0_get_37 rfl (fun _ h => ⟨hz12, h⟩)
    · have h13 : zI 125 2147483647 z1 := zr_le2 (zc_nlt c5) (zi_c 125 (a := 125) (b := 125) (by decide)) h4 (by decide)
      exact g_sub [1, 2, 0] rfl (J17 z1)

set_option maxHeartbeats 2000000 in
set_option maxRecDepth 100000 in
theorem n_X0_put_pb (l : Launch) (D : va_G) (ad : Nat → Nat) (cy : Nat → ClassId) (tl : Int32) (A : Nat → Prop) (p0 : Int32) (p1 : Int32) : zMv l yX0_put wz_X0_put ({ frames := 0, cells := 0, slots := 0, locals := 0 }) [.ref (ad 4), .int p0, .int p1] D (zTc cy) A (zMc D A ad cy tl) (zMc D A ad cy tl) := by
  refine zstart_v (cc := cX0_put) (maxL := 7) (own := RX0) (by decide) rfl rfl (Nat.le_of_ble_eq_true rfl) (fun p e s m args below meth c Q C r => ?_)
  have J17 : ∀ (a3_17 : Int32), zG p l e ({ frames := 0, cells := 0, slots := 0, locals := 0 }) s m args below meth c 7 0 0 A Q (zMc D A ad cy tl) 17 [(0, .ref (ad 4)), (1, .int p0), (2, .int p1), (3, .int a3_17)] [] := by
    intro a3_17
    exact g_return r dX0_put_17 (fun _ h => h)
  refine g_sub (lv' := [(0, .ref (ad 4)), (1, .int p0), (2, .int p1)]) [0, 1, 2] rfl ?_
  refine g_iload_n (pc := 0) C dX0_put_0 rfl 1 rfl ?_
  refine g_iconst (pc := 1) C 3 dX0_put_1 (by decide) ?_
  refine g_ishr (pc := 2) C dX0_put_2 (fun z1 ez1 => ?_)
  refine g_istore_n (pc := 3) C ([(3, .int z1), (0, .ref (ad 4)), (1, .int p0), (2, .int p1)]) dX0_put_3 rfl (Nat.le_of_ble_eq_true rfl) rfl ?_
  refine g_iload_n (pc := 4) C dX0_put_4 rfl 0 rfl ?_
  refine g_if_lt (pc := 5) C 17 dX0_put_5 (by decide) (fun c2 => ?_) (fun c2 => ?_)
  · have h3 : zI (-2147483648) (-1) z1 := zr_lt1 (zc_lt c2) (zi_full z1) (zi_c 0 (a := 0) (b := 0) (by decide)) (by decide)
    exact g_sub [1, 2, 3, 0] rfl (J17 z1)
  · have h4 : zI 0 2147483647 z1 := zr_le2 (zc_nlt c2) (zi_c 0 (a := 0) (b := 0) (by decide)) (zi_full z1) (by decide)
    refine g_iload_n (pc := 8) C dX0_put_8 rfl 0 rfl ?_
    refine g_aload_n (pc := 9) C dX0_put_9 rfl 1 rfl ?_
    refine gc_4_0 (pc := 10) C wk_108 dX0_put_10 ?_
    refine nc_5 (pc := 13) C dX0_put_13 ?_
    refine g_icmp_lt (pc := 14) C 18 dX0_put_14 (by decide) (fun c5 => ?_) (fun c5 => ?_)
    · have h6 : zI 0 2047 z1 := zr_lt1 (zc_lt c5) h4 (zi_c 2048 (a := 2048) (b := 2048) (by decide)) (by decide)
      refine g_iload_n (pc := 18) C dX0_put_18 rfl 2 rfl ?_
      refine g_bipush (pc := 19) C 7 dX0_put_19 (by decide) ?_
      refine g_iand (pc := 21) C dX0_put_21 (fun z7 ez7 => ?_)
      have hz7 : zI 0 7 z7 := zi_and1 (zi_c 7 (a := 0) (b := 7) (by decide)) ez7
      refine g_iconst (pc := 22) C 3 dX0_put_22 (by decide) ?_
      refine g_ishl (pc := 23) C dX0_put_23 (fun z8 ez8 => ?_)
      refine g_istore (pc := 24) C ([(4, .int z8), (3, .int z1), (0, .ref (ad 4)), (1, .int p0), (2, .int p1)]) dX0_put_24 (Nat.le_of_ble_eq_true rfl) rfl ?_
      refine g_aload_n (pc := 26) C dX0_put_26 rfl 2 rfl ?_
      refine gc_4_0 (pc := 27) C wk_108 dX0_put_27 ?_
      refine g_iload_n (pc := 30) C dX0_put_30 rfl 1 rfl ?_
      refine lc_5 (pc := 31) C (zi_in h6 (by decide)) dX0_put_31 (fun z9 => ?_)
      refine g_ldc2_w (pc := 32) C dX0_put_32 (C.wd wk_296) ?_
      refine g_iload (pc := 35) C dX0_put_35 0 rfl ?_
      refine g_lshl (pc := 37) C dX0_put_37 (fun z10 ez10 => ?_)
      refine g_ldc2_w (pc := 38) C dX0_put_38 (C.wd wk_297) ?_
      refine g_lxor (pc := 41) C dX0_put_41 (fun z11 ez11 => ?_)
      refine g_land (pc := 42) C dX0_put_42 (fun z12 ez12 => ?_)
      refine g_lstore (pc := 43) C ([(5, .long z12), (4, .int z8), (3, .int z1), (0, .ref (ad 4)), (1, .int p0), (2, .int p1)]) dX0_put_43 (Nat.le_of_ble_eq_true rfl) rfl ?_
      refine g_aload_n (pc := 45) C dX0_put_45 rfl 3 rfl ?_
      refine gc_4_0 (pc := 46) C wk_108 dX0_put_46 ?_
      refine g_iload_n (pc := 49) C dX0_put_49 rfl 2 rfl ?_
      refine g_lload (pc := 50) C dX0_put_50 0 rfl ?_
      refine g_iload_n (pc := 52) C dX0_put_52 rfl 5 rfl ?_
      refine g_sipush (pc := 53) C 255 dX0_put_53 (by decide) ?_
      refine g_iand (pc := 56) C dX0_put_56 (fun z13 ez13 => ?_)
      have hz13 : zI 0 255 z13 := zi_and1 (zi_c 255 (a := 0) (b := 255) (by decide)) ez13
      refine g_i2l (pc := 57) C dX0_put_57 (fun z14 ez14 => ?_)
      refine g_iload (pc := 58) C dX0_put_58 1 rfl ?_
      refine g_lshl (pc := 60) C dX0_put_60 (fun z15 ez15 => ?_)
      refine g_lor (pc := 61) C dX0_put_61 (fun z16 ez16 => ?_)
      refine sc_5 (pc := 62) C (zi_in h6 (by decide)) dX0_put_62 ?_
      exact g_return r dX0_put_63 (fun _ h => h)
    · have h17 : zI 2048 2147483647 z1 := zr_le2 (zc_nlt c5) (zi_c 2048 (a := 2048) (b := 2048) (by decide)) h4 (by decide)
      exact g_sub [1, 2, 3, 0] rfl (J17 z1)

set_option maxHeartbeats 2000000 in
set_option maxRecDepth 100000 in
theorem n_X0_put_gb (l : Launch) (D : va_G) (ad : Nat → Nat) (cy : Nat → ClassId) (tl : Int32) (A : Nat → Prop) (p0 : Int32) (p1 : Int32) : zMv l yX0_put wz_X0_put ({ frames := 0, cells := 0, slots := 0, locals := 0 }) [.ref (ad 8), .int p0, .int p1] D (zTc cy) A (zMc D A ad cy tl) (zMc D A ad cy tl) := by
  refine zstart_v (cc := cX0_put) (maxL := 7) (own := RX0) (by decide) rfl rfl (Nat.le_of_ble_eq_true rfl) (fun p e s m args below meth c Q C r => ?_)
  have J17 : ∀ (a3_17 : Int32), zG p l e ({ frames := 0, cells := 0, slots := 0, locals := 0 }) s m args below meth c 7 0 0 A Q (zMc D A ad cy tl) 17 [(0, .ref (ad 8)), (1, .int p0), (2, .int p1), (3, .int a3_17)] [] := by
    intro a3_17
    exact g_return r dX0_put_17 (fun _ h => h)
  refine g_sub (lv' := [(0, .ref (ad 8)), (1, .int p0), (2, .int p1)]) [0, 1, 2] rfl ?_
  refine g_iload_n (pc := 0) C dX0_put_0 rfl 1 rfl ?_
  refine g_iconst (pc := 1) C 3 dX0_put_1 (by decide) ?_
  refine g_ishr (pc := 2) C dX0_put_2 (fun z1 ez1 => ?_)
  refine g_istore_n (pc := 3) C ([(3, .int z1), (0, .ref (ad 8)), (1, .int p0), (2, .int p1)]) dX0_put_3 rfl (Nat.le_of_ble_eq_true rfl) rfl ?_
  refine g_iload_n (pc := 4) C dX0_put_4 rfl 0 rfl ?_
  refine g_if_lt (pc := 5) C 17 dX0_put_5 (by decide) (fun c2 => ?_) (fun c2 => ?_)
  · have h3 : zI (-2147483648) (-1) z1 := zr_lt1 (zc_lt c2) (zi_full z1) (zi_c 0 (a := 0) (b := 0) (by decide)) (by decide)
    exact g_sub [1, 2, 3, 0] rfl (J17 z1)
  · have h4 : zI 0 2147483647 z1 := zr_le2 (zc_nlt c2) (zi_c 0 (a := 0) (b := 0) (by decide)) (zi_full z1) (by decide)
    refine g_iload_n (pc := 8) C dX0_put_8 rfl 0 rfl ?_
    refine g_aload_n (pc := 9) C dX0_put_9 rfl 1 rfl ?_
    refine gc_8_0 (pc := 10) C wk_108 dX0_put_10 ?_
    refine nc_9 (pc := 13) C dX0_put_13 ?_
    refine g_icmp_lt (pc := 14) C 18 dX0_put_14 (by decide) (fun c5 => ?_) (fun c5 => ?_)
    · have h6 : zI 0 1023 z1 := zr_lt1 (zc_lt c5) h4 (zi_c 1024 (a := 1024) (b := 1024) (by decide)) (by decide)
      refine g_iload_n (pc := 18) C dX0_put_18 rfl 2 rfl ?_
      refine g_bipush (pc := 19) C 7 dX0_put_19 (by decide) ?_
      refine g_iand (pc := 21) C dX0_put_21 (fun z7 ez7 => ?_)
      have hz7 : zI 0 7 z7 := zi_and1 (zi_c 7 (a := 0) (b := 7) (by decide)) ez7
      refine g_iconst (pc := 22) C 3 dX0_put_22 (by decide) ?_
      refine g_ishl (pc := 23) C dX0_put_23 (fun z8 ez8 => ?_)
      refine g_istore (pc := 24) C ([(4, .int z8), (3, .int z1), (0, .ref (ad 8)), (1, .int p0), (2, .int p1)]) dX0_put_24 (Nat.le_of_ble_eq_true rfl) rfl ?_
      refine g_aload_n (pc := 26) C dX0_put_26 rfl 2 rfl ?_
      refine gc_8_0 (pc := 27) C wk_108 dX0_put_27 ?_
      refine g_iload_n (pc := 30) C dX0_put_30 rfl 1 rfl ?_
      refine lc_9 (pc := 31) C (zi_in h6 (by decide)) dX0_put_31 (fun z9 => ?_)
      refine g_ldc2_w (pc := 32) C dX0_put_32 (C.wd wk_296) ?_
      refine g_iload (pc := 35) C dX0_put_35 0 rfl ?_
      refine g_lshl (pc := 37) C dX0_put_37 (fun z10 ez10 => ?_)
      refine g_ldc2_w (pc := 38) C dX0_put_38 (C.wd wk_297) ?_
      refine g_lxor (pc := 41) C dX0_put_41 (fun z11 ez11 => ?_)
      refine g_land (pc := 42) C dX0_put_42 (fun z12 ez12 => ?_)
      refine g_lstore (pc := 43) C ([(5, .long z12), (4, .int z8), (3, .int z1), (0, .ref (ad 8)), (1, .int p0), (2, .int p1)]) dX0_put_43 (Nat.le_of_ble_eq_true rfl) rfl ?_
      refine g_aload_n (pc := 45) C dX0_put_45 rfl 3 rfl ?_
      refine gc_8_0 (pc := 46) C wk_108 dX0_put_46 ?_
      refine g_iload_n (pc := 49) C dX0_put_49 rfl 2 rfl ?_
      refine g_lload (pc := 50) C dX0_put_50 0 rfl ?_
      refine g_iload_n (pc := 52) C dX0_put_52 rfl 5 rfl ?_
      refine g_sipush (pc := 53) C 255 dX0_put_53 (by decide) ?_
      refine g_iand (pc := 56) C dX0_put_56 (fun z13 ez13 => ?_)
      have hz13 : zI 0 255 z13 := zi_and1 (zi_c 255 (a := 0) (b := 255) (by decide)) ez13
      refine g_i2l (pc := 57) C dX0_put_57 (fun z14 ez14 => ?_)
      refine g_iload (pc := 58) C dX0_put_58 1 rfl ?_
      refine g_lshl (pc := 60) C dX0_put_60 (fun z15 ez15 => ?_)
      refine g_lor (pc := 61) C dX0_put_61 (fun z16 ez16 => ?_)
      refine sc_9 (pc := 62) C (zi_in h6 (by decide)) dX0_put_62 ?_
      exact g_return r dX0_put_63 (fun _ h => h)
    · have h17 : zI 1024 2147483647 z1 := zr_le2 (zc_nlt c5) (zi_c 1024 (a := 1024) (b := 1024) (by decide)) h4 (by decide)
      exact g_sub [1, 2, 3, 0] rfl (J17 z1)

set_option maxHeartbeats 2000000 in
set_option maxRecDepth 100000 in
theorem n_X0_put_rb (l : Launch) (D : va_G) (ad : Nat → Nat) (cy : Nat → ClassId) (tl : Int32) (A : Nat → Prop) (p0 : Int32) (p1 : Int32) : zMv l yX0_put wz_X0_put ({ frames := 0, cells := 0, slots := 0, locals := 0 }) [.ref (ad 13), .int p0, .int p1] D (zTc cy) A (zMc D A ad cy tl) (zMc D A ad cy tl) := by
  refine zstart_v (cc := cX0_put) (maxL := 7) (own := RX0) (by decide) rfl rfl (Nat.le_of_ble_eq_true rfl) (fun p e s m args below meth c Q C r => ?_)
  have J17 : ∀ (a3_17 : Int32), zG p l e ({ frames := 0, cells := 0, slots := 0, locals := 0 }) s m args below meth c 7 0 0 A Q (zMc D A ad cy tl) 17 [(0, .ref (ad 13)), (1, .int p0), (2, .int p1), (3, .int a3_17)] [] := by
    intro a3_17
    exact g_return r dX0_put_17 (fun _ h => h)
  refine g_sub (lv' := [(0, .ref (ad 13)), (1, .int p0), (2, .int p1)]) [0, 1, 2] rfl ?_
  refine g_iload_n (pc := 0) C dX0_put_0 rfl 1 rfl ?_
  refine g_iconst (pc := 1) C 3 dX0_put_1 (by decide) ?_
  refine g_ishr (pc := 2) C dX0_put_2 (fun z1 ez1 => ?_)
  refine g_istore_n (pc := 3) C ([(3, .int z1), (0, .ref (ad 13)), (1, .int p0), (2, .int p1)]) dX0_put_3 rfl (Nat.le_of_ble_eq_true rfl) rfl ?_
  refine g_iload_n (pc := 4) C dX0_put_4 rfl 0 rfl ?_
  refine g_if_lt (pc := 5) C 17 dX0_put_5 (by decide) (fun c2 => ?_) (fun c2 => ?_)
  · have h3 : zI (-2147483648) (-1) z1 := zr_lt1 (zc_lt c2) (zi_full z1) (zi_c 0 (a := 0) (b := 0) (by decide)) (by decide)
    exact g_sub [1, 2, 3, 0] rfl (J17 z1)
  · have h4 : zI 0 2147483647 z1 := zr_le2 (zc_nlt c2) (zi_c 0 (a := 0) (b := 0) (by decide)) (zi_full z1) (by decide)
    refine g_iload_n (pc := 8) C dX0_put_8 rfl 0 rfl ?_
    refine g_aload_n (pc := 9) C dX0_put_9 rfl 1 rfl ?_
    refine gc_13_0 (pc := 10) C wk_108 dX0_put_10 ?_
    refine nc_14 (pc := 13) C dX0_put_13 ?_
    refine g_icmp_lt (pc := 14) C 18 dX0_put_14 (by decide) (fun c5 => ?_) (fun c5 => ?_)
    · have h6 : zI 0 1023 z1 := zr_lt1 (zc_lt c5) h4 (zi_c 1024 (a := 1024) (b := 1024) (by decide)) (by decide)
      refine g_iload_n (pc := 18) C dX0_put_18 rfl 2 rfl ?_
      refine g_bipush (pc := 19) C 7 dX0_put_19 (by decide) ?_
      refine g_iand (pc := 21) C dX0_put_21 (fun z7 ez7 => ?_)
      have hz7 : zI 0 7 z7 := zi_and1 (zi_c 7 (a := 0) (b := 7) (by decide)) ez7
      refine g_iconst (pc := 22) C 3 dX0_put_22 (by decide) ?_
      refine g_ishl (pc := 23) C dX0_put_23 (fun z8 ez8 => ?_)
      refine g_istore (pc := 24) C ([(4, .int z8), (3, .int z1), (0, .ref (ad 13)), (1, .int p0), (2, .int p1)]) dX0_put_24 (Nat.le_of_ble_eq_true rfl) rfl ?_
      refine g_aload_n (pc := 26) C dX0_put_26 rfl 2 rfl ?_
      refine gc_13_0 (pc := 27) C wk_108 dX0_put_27 ?_
      refine g_iload_n (pc := 30) C dX0_put_30 rfl 1 rfl ?_
      refine lc_14 (pc := 31) C (zi_in h6 (by decide)) dX0_put_31 (fun z9 => ?_)
      refine g_ldc2_w (pc := 32) C dX0_put_32 (C.wd wk_296) ?_
      refine g_iload (pc := 35) C dX0_put_35 0 rfl ?_
      refine g_lshl (pc := 37) C dX0_put_37 (fun z10 ez10 => ?_)
      refine g_ldc2_w (pc := 38) C dX0_put_38 (C.wd wk_297) ?_
      refine g_lxor (pc := 41) C dX0_put_41 (fun z11 ez11 => ?_)
      refine g_land (pc := 42) C dX0_put_42 (fun z12 ez12 => ?_)
      refine g_lstore (pc := 43) C ([(5, .long z12), (4, .int z8), (3, .int z1), (0, .ref (ad 13)), (1, .int p0), (2, .int p1)]) dX0_put_43 (Nat.le_of_ble_eq_true rfl) rfl ?_
      refine g_aload_n (pc := 45) C dX0_put_45 rfl 3 rfl ?_
      refine gc_13_0 (pc := 46) C wk_108 dX0_put_46 ?_
      refine g_iload_n (pc := 49) C dX0_put_49 rfl 2 rfl ?_
      refine g_lload (pc := 50) C dX0_put_50 0 rfl ?_
      refine g_iload_n (pc := 52) C dX0_put_52 rfl 5 rfl ?_
      refine g_sipush (pc := 53) C 255 dX0_put_53 (by decide) ?_
      refine g_iand (pc := 56) C dX0_put_56 (fun z13 ez13 => ?_)
      have hz13 : zI 0 255 z13 := zi_and1 (zi_c 255 (a := 0) (b := 255) (by decide)) ez13
      refine g_i2l (pc := 57) C dX0_put_57 (fun z14 ez14 => ?_)
      refine g_iload (pc := 58) C dX0_put_58 1 rfl ?_
      refine g_lshl (pc := 60) C dX0_put_60 (fun z15 ez15 => ?_)
      refine g_lor (pc := 61) C dX0_put_61 (fun z16 ez16 => ?_)
      refine sc_14 (pc := 62) C (zi_in h6 (by decide)) dX0_put_62 ?_
      exact g_return r dX0_put_63 (fun _ h => h)
    · have h17 : zI 1024 2147483647 z1 := zr_le2 (zc_nlt c5) (zi_c 1024 (a := 1024) (b := 1024) (by decide)) h4 (by decide)
      exact g_sub [1, 2, 3, 0] rfl (J17 z1)

set_option maxHeartbeats 2000000 in
set_option maxRecDepth 100000 in
theorem n_X0_put_mb (l : Launch) (D : va_G) (ad : Nat → Nat) (cy : Nat → ClassId) (tl : Int32) (A : Nat → Prop) (p0 : Int32) (p1 : Int32) : zMv l yX0_put wz_X0_put ({ frames := 0, cells := 0, slots := 0, locals := 0 }) [.ref (ad 15), .int p0, .int p1] D (zTc cy) A (zMc D A ad cy tl) (zMc D A ad cy tl) := by
  refine zstart_v (cc := cX0_put) (maxL := 7) (own := RX0) (by decide) rfl rfl (Nat.le_of_ble_eq_true rfl) (fun p e s m args below meth c Q C r => ?_)
  have J17 : ∀ (a3_17 : Int32), zG p l e ({ frames := 0, cells := 0, slots := 0, locals := 0 }) s m args below meth c 7 0 0 A Q (zMc D A ad cy tl) 17 [(0, .ref (ad 15)), (1, .int p0), (2, .int p1), (3, .int a3_17)] [] := by
    intro a3_17
    exact g_return r dX0_put_17 (fun _ h => h)
  refine g_sub (lv' := [(0, .ref (ad 15)), (1, .int p0), (2, .int p1)]) [0, 1, 2] rfl ?_
  refine g_iload_n (pc := 0) C dX0_put_0 rfl 1 rfl ?_
  refine g_iconst (pc := 1) C 3 dX0_put_1 (by decide) ?_
  refine g_ishr (pc := 2) C dX0_put_2 (fun z1 ez1 => ?_)
  refine g_istore_n (pc := 3) C ([(3, .int z1), (0, .ref (ad 15)), (1, .int p0), (2, .int p1)]) dX0_put_3 rfl (Nat.le_of_ble_eq_true rfl) rfl ?_
  refine g_iload_n (pc := 4) C dX0_put_4 rfl 0 rfl ?_
  refine g_if_lt (pc := 5) C 17 dX0_put_5 (by decide) (fun c2 => ?_) (fun c2 => ?_)
  · have h3 : zI (-2147483648) (-1) z1 := zr_lt1 (zc_lt c2) (zi_full z1) (zi_c 0 (a := 0) (b := 0) (by decide)) (by decide)
    exact g_sub [1, 2, 3, 0] rfl (J17 z1)
  · have h4 : zI 0 2147483647 z1 := zr_le2 (zc_nlt c2) (zi_c 0 (a := 0) (b := 0) (by decide)) (zi_full z1) (by decide)
    refine g_iload_n (pc := 8) C dX0_put_8 rfl 0 rfl ?_
    refine g_aload_n (pc := 9) C dX0_put_9 rfl 1 rfl ?_
    refine gc_15_0 (pc := 10) C wk_108 dX0_put_10 ?_
    refine nc_16 (pc := 13) C dX0_put_13 ?_
    refine g_icmp_lt (pc := 14) C 18 dX0_put_14 (by decide) (fun c5 => ?_) (fun c5 => ?_)
    · have h6 : zI 0 4095 z1 := zr_lt1 (zc_lt c5) h4 (zi_c 4096 (a := 4096) (b := 4096) (by decide)) (by decide)
      refine g_iload_n (pc := 18) C dX0_put_18 rfl 2 rfl ?_
      refine g_bipush (pc := 19) C 7 dX0_put_19 (by decide) ?_
      refine g_iand (pc := 21) C dX0_put_21 (fun z7 ez7 => ?_)
      have hz7 : zI 0 7 z7 := zi_and1 (zi_c 7 (a := 0) (b := 7) (by decide)) ez7
      refine g_iconst (pc := 22) C 3 dX0_put_22 (by decide) ?_
      refine g_ishl (pc := 23) C dX0_put_23 (fun z8 ez8 => ?_)
      refine g_istore (pc := 24) C ([(4, .int z8), (3, .int z1), (0, .ref (ad 15)), (1, .int p0), (2, .int p1)]) dX0_put_24 (Nat.le_of_ble_eq_true rfl) rfl ?_
      refine g_aload_n (pc := 26) C dX0_put_26 rfl 2 rfl ?_
      refine gc_15_0 (pc := 27) C wk_108 dX0_put_27 ?_
      refine g_iload_n (pc := 30) C dX0_put_30 rfl 1 rfl ?_
      refine lc_16 (pc := 31) C (zi_in h6 (by decide)) dX0_put_31 (fun z9 => ?_)
      refine g_ldc2_w (pc := 32) C dX0_put_32 (C.wd wk_296) ?_
      refine g_iload (pc := 35) C dX0_put_35 0 rfl ?_
      refine g_lshl (pc := 37) C dX0_put_37 (fun z10 ez10 => ?_)
      refine g_ldc2_w (pc := 38) C dX0_put_38 (C.wd wk_297) ?_
      refine g_lxor (pc := 41) C dX0_put_41 (fun z11 ez11 => ?_)
      refine g_land (pc := 42) C dX0_put_42 (fun z12 ez12 => ?_)
      refine g_lstore (pc := 43) C ([(5, .long z12), (4, .int z8), (3, .int z1), (0, .ref (ad 15)), (1, .int p0), (2, .int p1)]) dX0_put_43 (Nat.le_of_ble_eq_true rfl) rfl ?_
      refine g_aload_n (pc := 45) C dX0_put_45 rfl 3 rfl ?_
      refine gc_15_0 (pc := 46) C wk_108 dX0_put_46 ?_
      refine g_iload_n (pc := 49) C dX0_put_49 rfl 2 rfl ?_
      refine g_lload (pc := 50) C dX0_put_50 0 rfl ?_
      refine g_iload_n (pc := 52) C dX0_put_52 rfl 5 rfl ?_
      refine g_sipush (pc := 53) C 255 dX0_put_53 (by decide) ?_
      refine g_iand (pc := 56) C dX0_put_56 (fun z13 ez13 => ?_)
      have hz13 : zI 0 255 z13 := zi_and1 (zi_c 255 (a := 0) (b := 255) (by decide)) ez13
      refine g_i2l (pc := 57) C dX0_put_57 (fun z14 ez14 => ?_)
      refine g_iload (pc := 58) C dX0_put_58 1 rfl ?_
      refine g_lshl (pc := 60) C dX0_put_60 (fun z15 ez15 => ?_)
      refine g_lor (pc := 61) C dX0_put_61 (fun z16 ez16 => ?_)
      refine sc_16 (pc := 62) C (zi_in h6 (by decide)) dX0_put_62 ?_
      exact g_return r dX0_put_63 (fun _ h => h)
    · have h17 : zI 4096 2147483647 z1 := zr_le2 (zc_nlt c5) (zi_c 4096 (a := 4096) (b := 4096) (by decide)) h4 (by decide)
      exact g_sub [1, 2, 3, 0] rfl (J17 z1)

set_option maxHeartbeats 2000000 in
set_option maxRecDepth 100000 in
theorem n_X0_put_qb (l : Launch) (D : va_G) (ad : Nat → Nat) (cy : Nat → ClassId) (tl : Int32) (A : Nat → Prop) (p0 : Int32) (p1 : Int32) : zMv l yX0_put wz_X0_put ({ frames := 0, cells := 0, slots := 0, locals := 0 }) [.ref (ad 17), .int p0, .int p1] D (zTc cy) A (zMc D A ad cy tl) (zMc D A ad cy tl) := by
  refine zstart_v (cc := cX0_put) (maxL := 7) (own := RX0) (by decide) rfl rfl (Nat.le_of_ble_eq_true rfl) (fun p e s m args below meth c Q C r => ?_)
  have J17 : ∀ (a3_17 : Int32), zG p l e ({ frames := 0, cells := 0, slots := 0, locals := 0 }) s m args below meth c 7 0 0 A Q (zMc D A ad cy tl) 17 [(0, .ref (ad 17)), (1, .int p0), (2, .int p1), (3, .int a3_17)] [] := by
    intro a3_17
    exact g_return r dX0_put_17 (fun _ h => h)
  refine g_sub (lv' := [(0, .ref (ad 17)), (1, .int p0), (2, .int p1)]) [0, 1, 2] rfl ?_
  refine g_iload_n (pc := 0) C dX0_put_0 rfl 1 rfl ?_
  refine g_iconst (pc := 1) C 3 dX0_put_1 (by decide) ?_
  refine g_ishr (pc := 2) C dX0_put_2 (fun z1 ez1 => ?_)
  refine g_istore_n (pc := 3) C ([(3, .int z1), (0, .ref (ad 17)), (1, .int p0), (2, .int p1)]) dX0_put_3 rfl (Nat.le_of_ble_eq_true rfl) rfl ?_
  refine g_iload_n (pc := 4) C dX0_put_4 rfl 0 rfl ?_
  refine g_if_lt (pc := 5) C 17 dX0_put_5 (by decide) (fun c2 => ?_) (fun c2 => ?_)
  · have h3 : zI (-2147483648) (-1) z1 := zr_lt1 (zc_lt c2) (zi_full z1) (zi_c 0 (a := 0) (b := 0) (by decide)) (by decide)
    exact g_sub [1, 2, 3, 0] rfl (J17 z1)
  · have h4 : zI 0 2147483647 z1 := zr_le2 (zc_nlt c2) (zi_c 0 (a := 0) (b := 0) (by decide)) (zi_full z1) (by decide)
    refine g_iload_n (pc := 8) C dX0_put_8 rfl 0 rfl ?_
    refine g_aload_n (pc := 9) C dX0_put_9 rfl 1 rfl ?_
    refine gc_17_0 (pc := 10) C wk_108 dX0_put_10 ?_
    refine nc_18 (pc := 13) C dX0_put_13 ?_
    refine g_icmp_lt (pc := 14) C 18 dX0_put_14 (by decide) (fun c5 => ?_) (fun c5 => ?_)
    · have h6 : zI 0 31 z1 := zr_lt1 (zc_lt c5) h4 (zi_c 32 (a := 32) (b := 32) (by decide)) (by decide)
      refine g_iload_n (pc := 18) C dX0_put_18 rfl 2 rfl ?_
      refine g_bipush (pc := 19) C 7 dX0_put_19 (by decide) ?_
      refine g_iand (pc := 21) C dX0_put_21 (fun z7 ez7 => ?_)
      have hz7 : zI 0 7 z7 := zi_and1 (zi_c 7 (a := 0) (b := 7) (by decide)) ez7
      refine g_iconst (pc := 22) C 3 dX0_put_22 (by decide) ?_
      refine g_ishl (pc := 23) C dX0_put_23 (fun z8 ez8 => ?_)
      refine g_istore (pc := 24) C ([(4, .int z8), (3, .int z1), (0, .ref (ad 17)), (1, .int p0), (2, .int p1)]) dX0_put_24 (Nat.le_of_ble_eq_true rfl) rfl ?_
      refine g_aload_n (pc := 26) C dX0_put_26 rfl 2 rfl ?_
      refine gc_17_0 (pc := 27) C wk_108 dX0_put_27 ?_
      refine g_iload_n (pc := 30) C dX0_put_30 rfl 1 rfl ?_
      refine lc_18 (pc := 31) C (zi_in h6 (by decide)) dX0_put_31 (fun z9 => ?_)
      refine g_ldc2_w (pc := 32) C dX0_put_32 (C.wd wk_296) ?_
      refine g_iload (pc := 35) C dX0_put_35 0 rfl ?_
      refine g_lshl (pc := 37) C dX0_put_37 (fun z10 ez10 => ?_)
      refine g_ldc2_w (pc := 38) C dX0_put_38 (C.wd wk_297) ?_
      refine g_lxor (pc := 41) C dX0_put_41 (fun z11 ez11 => ?_)
      refine g_land (pc := 42) C dX0_put_42 (fun z12 ez12 => ?_)
      refine g_lstore (pc := 43) C ([(5, .long z12), (4, .int z8), (3, .int z1), (0, .ref (ad 17)), (1, .int p0), (2, .int p1)]) dX0_put_43 (Nat.le_of_ble_eq_true rfl) rfl ?_
      refine g_aload_n (pc := 45) C dX0_put_45 rfl 3 rfl ?_
      refine gc_17_0 (pc := 46) C wk_108 dX0_put_46 ?_
      refine g_iload_n (pc := 49) C dX0_put_49 rfl 2 rfl ?_
      refine g_lload (pc := 50) C dX0_put_50 0 rfl ?_
      refine g_iload_n (pc := 52) C dX0_put_52 rfl 5 rfl ?_
      refine g_sipush (pc := 53) C 255 dX0_put_53 (by decide) ?_
      refine g_iand (pc := 56) C dX0_put_56 (fun z13 ez13 => ?_)
      have hz13 : zI 0 255 z13 := zi_and1 (zi_c 255 (a := 0) (b := 255) (by decide)) ez13
      refine g_i2l (pc := 57) C dX0_put_57 (fun z14 ez14 => ?_)
      refine g_iload (pc := 58) C dX0_put_58 1 rfl ?_
      refine g_lshl (pc := 60) C dX0_put_60 (fun z15 ez15 => ?_)
      refine g_lor (pc := 61) C dX0_put_61 (fun z16 ez16 => ?_)
      refine sc_18 (pc := 62) C (zi_in h6 (by decide)) dX0_put_62 ?_
      exact g_return r dX0_put_63 (fun _ h => h)
    · have h17 : zI 32 2147483647 z1 := zr_le2 (zc_nlt c5) (zi_c 32 (a := 32) (b := 32) (by decide)) h4 (by decide)
      exact g_sub [1, 2, 3, 0] rfl (J17 z1)

set_option maxHeartbeats 2000000 in
set_option maxRecDepth 100000 in
theorem n_X0_put_tb (l : Launch) (D : va_G) (ad : Nat → Nat) (cy : Nat → ClassId) (tl : Int32) (A : Nat → Prop) (p0 : Int32) (p1 : Int32) : zMv l yX0_put wz_X0_put ({ frames := 0, cells := 0, slots := 0, locals := 0 }) [.ref (ad 1), .int p0, .int p1] D (zTc cy) A (zMc D A ad cy tl) (zMc D A ad cy tl) := by
  refine zstart_v (cc := cX0_put) (maxL := 7) (own := RX0) (by decide) rfl rfl (Nat.le_of_ble_eq_true rfl) (fun p e s m args below meth c Q C r => ?_)
  have J17 : ∀ (a3_17 : Int32), zG p l e ({ frames := 0, cells := 0, slots := 0, locals := 0 }) s m args below meth c 7 0 0 A Q (zMc D A ad cy tl) 17 [(0, .ref (ad 1)), (1, .int p0), (2, .int p1), (3, .int a3_17)] [] := by
    intro a3_17
    exact g_return r dX0_put_17 (fun _ h => h)
  refine g_sub (lv' := [(0, .ref (ad 1)), (1, .int p0), (2, .int p1)]) [0, 1, 2] rfl ?_
  refine g_iload_n (pc := 0) C dX0_put_0 rfl 1 rfl ?_
  refine g_iconst (pc := 1) C 3 dX0_put_1 (by decide) ?_
  refine g_ishr (pc := 2) C dX0_put_2 (fun z1 ez1 => ?_)
  refine g_istore_n (pc := 3) C ([(3, .int z1), (0, .ref (ad 1)), (1, .int p0), (2, .int p1)]) dX0_put_3 rfl (Nat.le_of_ble_eq_true rfl) rfl ?_
  refine g_iload_n (pc := 4) C dX0_put_4 rfl 0 rfl ?_
  refine g_if_lt (pc := 5) C 17 dX0_put_5 (by decide) (fun c2 => ?_) (fun c2 => ?_)
  · have h3 : zI (-2147483648) (-1) z1 := zr_lt1 (zc_lt c2) (zi_full z1) (zi_c 0 (a := 0) (b := 0) (by decide)) (by decide)
    exact g_sub [1, 2, 3, 0] rfl (J17 z1)
  · have h4 : zI 0 2147483647 z1 := zr_le2 (zc_nlt c2) (zi_c 0 (a := 0) (b := 0) (by decide)) (zi_full z1) (by decide)
    refine g_iload_n (pc := 8) C dX0_put_8 rfl 0 rfl ?_
    refine g_aload_n (pc := 9) C dX0_put_9 rfl 1 rfl ?_
    refine gc_1_0 (pc := 10) C wk_108 dX0_put_10 ?_
    refine nc_2 (pc := 13) C dX0_put_13 ?_
    refine g_icmp_lt (pc := 14) C 18 dX0_put_14 (by decide) (fun c5 => ?_) (fun c5 => ?_)
    · have h6 : zI 0 124 z1 := zr_lt1 (zc_lt c5) h4 (zi_c 125 (a := 125) (b := 125) (by decide)) (by decide)
      refine g_iload_n (pc := 18) C dX0_put_18 rfl 2 rfl ?_
      refine g_bipush (pc := 19) C 7 dX0_put_19 (by decide) ?_
      refine g_iand (pc := 21) C dX0_put_21 (fun z7 ez7 => ?_)
      have hz7 : zI 0 7 z7 := zi_and1 (zi_c 7 (a := 0) (b := 7) (by decide)) ez7
      refine g_iconst (pc := 22) C 3 dX0_put_22 (by decide) ?_
      refine g_ishl (pc := 23) C dX0_put_23 (fun z8 ez8 => ?_)
      refine g_istore (pc := 24) C ([(4, .int z8), (3, .int z1), (0, .ref (ad 1)), (1, .int p0), (2, .int p1)]) dX0_put_24 (Nat.le_of_ble_eq_true rfl) rfl ?_
      refine g_aload_n (pc := 26) C dX0_put_26 rfl 2 rfl ?_
      refine gc_1_0 (pc := 27) C wk_108 dX0_put_27 ?_
      refine g_iload_n (pc := 30) C dX0_put_30 rfl 1 rfl ?_
      refine lc_2 (pc := 31) C (zi_in h6 (by decide)) dX0_put_31 (fun z9 => ?_)
      refine g_ldc2_w (pc := 32) C dX0_put_32 (C.wd wk_296) ?_
      refine g_iload (pc := 35) C dX0_put_35 0 rfl ?_
      refine g_lshl (pc := 37) C dX0_put_37 (fun z10 ez10 => ?_)
      refine g_ldc2_w (pc := 38) C dX0_put_38 (C.wd wk_297) ?_
      refine g_lxor (pc := 41) C dX0_put_41 (fun z11 ez11 => ?_)
      refine g_land (pc := 42) C dX0_put_42 (fun z12 ez12 => ?_)
      refine g_lstore (pc := 43) C ([(5, .long z12), (4, .int z8), (3, .int z1), (0, .ref (ad 1)), (1, .int p0), (2, .int p1)]) dX0_put_43 (Nat.le_of_ble_eq_true rfl) rfl ?_
      refine g_aload_n (pc := 45) C dX0_put_45 rfl 3 rfl ?_
      refine gc_1_0 (pc := 46) C wk_108 dX0_put_46 ?_
      refine g_iload_n (pc := 49) C dX0_put_49 rfl 2 rfl ?_
      refine g_lload (pc := 50) C dX0_put_50 0 rfl ?_
      refine g_iload_n (pc := 52) C dX0_put_52 rfl 5 rfl ?_
      refine g_sipush (pc := 53) C 255 dX0_put_53 (by decide) ?_
      refine g_iand (pc := 56) C dX0_put_56 (fun z13 ez13 => ?_)
      have hz13 : zI 0 255 z13 := zi_and1 (zi_c 255 (a := 0) (b := 255) (by decide)) ez13
      refine g_i2l (pc := 57) C dX0_put_57 (fun z14 ez14 => ?_)
      refine g_iload (pc := 58) C dX0_put_58 1 rfl ?_
      refine g_lshl (pc := 60) C dX0_put_60 (fun z15 ez15 => ?_)
      refine g_lor (pc := 61) C dX0_put_61 (fun z16 ez16 => ?_)
      refine sc_2 (pc := 62) C (zi_in h6 (by decide)) dX0_put_62 ?_
      exact g_return r dX0_put_63 (fun _ h => h)
    · have h17 : zI 125 2147483647 z1 := zr_le2 (zc_nlt c5) (zi_c 125 (a := 125) (b := 125) (by decide)) h4 (by decide)
      exact g_sub [1, 2, 3, 0] rfl (J17 z1)

