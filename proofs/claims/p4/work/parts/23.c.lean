set_option maxHeartbeats 2000000 in
set_option maxRecDepth 100000 in
theorem n_X4_doImmediate (l : Launch) (D : va_G) (ad : Nat → Nat) (cy : Nat → ClassId) (tl : Int32) (A : Nat → Prop) (p0 : Int32) : zMv l yX4_doImmediate wz_X4_doImmediate ({ frames := 5, cells := 0, slots := 0, locals := 109 }) [.ref (ad 19), .int p0] D (zTc cy) A (zMc D A ad cy tl) (zMc D A ad cy tl) := by
  refine zstart_v (cc := cX4_doImmediate) (maxL := 7) (own := RX4) (by decide) rfl rfl (Nat.le_of_ble_eq_true rfl) (fun p e s m args below meth c Q C r => ?_)
  have J145 : ∀ (a2_145 : Int32) (a3_145 : Int32) (a4_145 : Int32) (a5_145 : Int32) (a6_145 : Int32) (_ : zI 0 65504 a2_145), zG p l e ({ frames := 5, cells := 0, slots := 0, locals := 109 }) s m args below meth c 7 0 0 A Q (zMc D A ad cy tl) 145 [(0, .ref (ad 19)), (1, .int p0), (2, .int a2_145), (3, .int a3_145), (4, .int a4_145), (5, .int a5_145), (6, .int a6_145)] [] := by
    intro a2_145 a3_145 a4_145 a5_145 a6_145 ha2_145
    refine g_aload_n (pc := 145) C dX4_doImmediate_145 rfl 0 rfl ?_
    refine gc_19_0 (pc := 146) C wk_219 dX4_doImmediate_146 ?_
    refine g_iload_n (pc := 149) C dX4_doImmediate_149 rfl 3 rfl ?_
    refine g_iload (pc := 150) C dX4_doImmediate_150 6 rfl ?_
    refine zcallVv (pc := 152) (st := []) C C.2.2.2.2.2 (n_X2_putWord l D ad cy tl A a3_145 a6_145) (cwV 2 C.2.2.2.2.1 gw_RX4_131 rfl rfl rfl cd_X2_putWord ⟨Nat.le_of_ble_eq_true rfl, Nat.le_of_ble_eq_true rfl⟩) (hc_12 C) rfl rfl (Nat.le_of_ble_eq_true rfl) ⟨Nat.le_of_ble_eq_true rfl, Nat.le_of_ble_eq_true rfl⟩ dX4_doImmediate_152 ?_
    exact g_return r dX4_doImmediate_155 (fun _ h => h)
  have J130 : ∀ (a2_130 : Int32) (a3_130 : Int32) (a4_130 : Int32) (a5_130 : Int32) (a6_130 : Int32) (_ : zI 0 65504 a2_130), zG p l e ({ frames := 5, cells := 0, slots := 0, locals := 109 }) s m args below meth c 7 0 0 A Q (zMc D A ad cy tl) 130 [(0, .ref (ad 19)), (1, .int p0), (2, .int a2_130), (3, .int a3_130), (4, .int a4_130), (5, .int a5_130), (6, .int a6_130)] [] := by
    intro a2_130 a3_130 a4_130 a5_130 a6_130 ha2_130
    refine g_iload_n (pc := 130) C dX4_doImmediate_130 rfl 2 rfl ?_
    refine g_sipush (pc := 131) C 544 dX4_doImmediate_131 (by decide) ?_
    refine g_icmp_eq (pc := 134) C 145 dX4_doImmediate_134 (by decide) (fun c1 => ?_) (fun c1 => ?_)
    · have h2 : zI 544 544 a2_130 := zr_eq c1 ha2_130 (zi_c 544 (a := 544) (b := 544) (by decide)) (by decide)
      exact g_sub [0, 1, 2, 3, 4, 5, 6] rfl (J145 a2_130 a3_130 a4_130 a5_130 a6_130 (zi_w h2 (a' := 0) (b' := 65504) (by decide)))
    · refine g_aload_n (pc := 137) C dX4_doImmediate_137 rfl 0 rfl ?_
      refine g_iload (pc := 138) C dX4_doImmediate_138 6 rfl ?_
      refine g_iconst (pc := 140) C 0 dX4_doImmediate_140 (by decide) ?_
      refine g_iconst (pc := 141) C 0 dX4_doImmediate_141 (by decide) ?_
      refine zcallVv (pc := 142) (st := []) C C.2.2.2.2.2 (n_X4_compare l D ad cy tl A a6_130 0 0) (cwV 3 C.2.2.2.2.1 gw_RX4_145 rfl rfl rfl cd_X4_compare ⟨Nat.le_of_ble_eq_true rfl, Nat.le_of_ble_eq_true rfl⟩) (hc_19 C) rfl rfl (Nat.le_of_ble_eq_true rfl) ⟨Nat.le_of_ble_eq_true rfl, Nat.le_of_ble_eq_true rfl⟩ dX4_doImmediate_142 ?_
      exact g_sub [0, 1, 2, 3, 4, 5, 6] rfl (J145 a2_130 a3_130 a4_130 a5_130 a6_130 ha2_130)
  have J33 : ∀ (a2_33 : Int32) (a3_33 : Int32) (b0_33 : Int32) (_ : zI 0 65504 a2_33), zG p l e ({ frames := 5, cells := 0, slots := 0, locals := 109 }) s m args below meth c 7 0 0 A Q (zMc D A ad cy tl) 33 [(0, .ref (ad 19)), (1, .int p0), (2, .int a2_33), (3, .int a3_33)] [.int b0_33] := by
    intro a2_33 a3_33 b0_33 ha2_33
    refine g_istore (pc := 33) C ([(4, .int b0_33), (0, .ref (ad 19)), (1, .int p0), (2, .int a2_33), (3, .int a3_33)]) dX4_doImmediate_33 (Nat.le_of_ble_eq_true rfl) rfl ?_
    refine g_aload_n (pc := 35) C dX4_doImmediate_35 rfl 1 rfl ?_
    refine zcallVi (pc := 36) (st := []) C C.2.2.2.2.2 (n_X4_nextWord l D ad cy tl A ) (cwV 0 C.2.2.2.2.1 gw_RX4_76 rfl rfl rfl cd_X4_nextWord ⟨Nat.le_of_ble_eq_true rfl, Nat.le_of_ble_eq_true rfl⟩) (hc_19 C) rfl rfl (Nat.le_of_ble_eq_true rfl) ⟨Nat.le_of_ble_eq_true rfl, Nat.le_of_ble_eq_true rfl⟩ dX4_doImmediate_36 (fun r3 => ?_)
    refine g_istore (pc := 39) C ([(5, .int r3), (4, .int b0_33), (0, .ref (ad 19)), (1, .int p0), (2, .int a2_33), (3, .int a3_33)]) dX4_doImmediate_39 (Nat.le_of_ble_eq_true rfl) rfl ?_
    refine g_iload_n (pc := 41) C dX4_doImmediate_41 rfl 4 rfl ?_
    refine g_sipush (pc := 42) C 640 dX4_doImmediate_42 (by decide) ?_
    refine g_icmp_ne (pc := 45) C 58 dX4_doImmediate_45 (by decide) (fun c4 => ?_) (fun c4 => ?_)
    · refine g_iload_n (pc := 58) C dX4_doImmediate_58 rfl 4 rfl ?_
      refine g_lookup (pc := 59) C [126, 92, 106, 116] dX4_doImmediate_59 (by decide) (by decide) (List.forall_mem_cons.mpr ⟨?_, (List.forall_mem_cons.mpr ⟨?_, (List.forall_mem_cons.mpr ⟨?_, (List.forall_mem_cons.mpr ⟨?_, fun _ h => absurd h List.not_mem_nil⟩)⟩)⟩)⟩)
      · refine g_iload (pc := 126) C dX4_doImmediate_126 0 rfl ?_
        refine g_istore (pc := 128) C ([(6, .int r3), (5, .int r3), (4, .int b0_33), (0, .ref (ad 19)), (1, .int p0), (2, .int a2_33), (3, .int a3_33)]) dX4_doImmediate_128 (Nat.le_of_ble_eq_true rfl) rfl ?_
        exact g_sub [3, 4, 5, 6, 2, 1, 0] rfl (J130 a2_33 a3_33 b0_33 r3 r3 ha2_33)
      · refine g_aload_n (pc := 92) C dX4_doImmediate_92 rfl 2 rfl ?_
        refine g_iload (pc := 93) C dX4_doImmediate_93 1 rfl ?_
        refine g_iload (pc := 95) C dX4_doImmediate_95 0 rfl ?_
        refine g_iconst (pc := 97) C 0 dX4_doImmediate_97 (by decide) ?_
        refine zcallVi (pc := 98) (st := []) C C.2.2.2.2.2 (n_X4_add l D ad cy tl A b0_33 r3 0) (cwV 3 C.2.2.2.2.1 gw_RX4_150 rfl rfl rfl cd_X4_add ⟨Nat.le_of_ble_eq_true rfl, Nat.le_of_ble_eq_true rfl⟩) (hc_19 C) rfl rfl (Nat.le_of_ble_eq_true rfl) ⟨Nat.le_of_ble_eq_true rfl, Nat.le_of_ble_eq_true rfl⟩ dX4_doImmediate_98 (fun r5 => ?_)
        refine g_istore (pc := 101) C ([(6, .int r5), (5, .int r3), (4, .int b0_33), (0, .ref (ad 19)), (1, .int p0), (2, .int a2_33), (3, .int a3_33)]) dX4_doImmediate_101 (Nat.le_of_ble_eq_true rfl) rfl ?_
        refine g_goto (pc := 103) C 130 dX4_doImmediate_103 (by decide) ?_
        exact g_sub [3, 4, 5, 6, 2, 1, 0] rfl (J130 a2_33 a3_33 b0_33 r3 r5 ha2_33)
      · refine g_iload (pc := 106) C dX4_doImmediate_106 1 rfl ?_
        refine g_iload (pc := 108) C dX4_doImmediate_108 0 rfl ?_
        refine g_iand (pc := 110) C dX4_doImmediate_110 (fun z6 ez6 => ?_)
        refine g_istore (pc := 111) C ([(6, .int z6), (5, .int r3), (4, .int b0_33), (0, .ref (ad 19)), (1, .int p0), (2, .int a2_33), (3, .int a3_33)]) dX4_doImmediate_111 (Nat.le_of_ble_eq_true rfl) rfl ?_
        refine g_goto (pc := 113) C 130 dX4_doImmediate_113 (by decide) ?_
        exact g_sub [3, 4, 5, 6, 2, 1, 0] rfl (J130 a2_33 a3_33 b0_33 r3 z6 ha2_33)
      · refine g_iload (pc := 116) C dX4_doImmediate_116 1 rfl ?_
        refine g_iload (pc := 118) C dX4_doImmediate_118 0 rfl ?_
        refine g_ior (pc := 120) C dX4_doImmediate_120 (fun z7 ez7 => ?_)
        refine g_istore (pc := 121) C ([(6, .int z7), (5, .int r3), (4, .int b0_33), (0, .ref (ad 19)), (1, .int p0), (2, .int a2_33), (3, .int a3_33)]) dX4_doImmediate_121 (Nat.le_of_ble_eq_true rfl) rfl ?_
        refine g_goto (pc := 123) C 130 dX4_doImmediate_123 (by decide) ?_
        exact g_sub [3, 4, 5, 6, 2, 1, 0] rfl (J130 a2_33 a3_33 b0_33 r3 z7 ha2_33)
    · have h8 : zI 640 640 a2_33 := zr_eq c4 ha2_33 (zi_c 640 (a := 640) (b := 640) (by decide)) (by decide)
      refine g_aload_n (pc := 48) C dX4_doImmediate_48 rfl 2 rfl ?_
      refine g_iload (pc := 49) C dX4_doImmediate_49 1 rfl ?_
      refine g_iload (pc := 51) C dX4_doImmediate_51 0 rfl ?_
      refine g_iconst (pc := 53) C 0 dX4_doImmediate_53 (by decide) ?_
      refine zcallVv (pc := 54) (st := []) C C.2.2.2.2.2 (n_X4_compare l D ad cy tl A b0_33 r3 0) (cwV 3 C.2.2.2.2.1 gw_RX4_145 rfl rfl rfl cd_X4_compare ⟨Nat.le_of_ble_eq_true rfl, Nat.le_of_ble_eq_true rfl⟩) (hc_19 C) rfl rfl (Nat.le_of_ble_eq_true rfl) ⟨Nat.le_of_ble_eq_true rfl, Nat.le_of_ble_eq_true rfl⟩ dX4_doImmediate_54 ?_
      exact g_return r dX4_doImmediate_57 (fun _ h => h)
  refine g_sub (lv' := [(0, .ref (ad 19)), (1, .int p0)]) [0, 1] rfl ?_
  refine g_iload_n (pc := 0) C dX4_doImmediate_0 rfl 1 rfl ?_
  refine g_ldc (pc := 1) C dX4_doImmediate_1 (C.wd wk_567) ?_
  refine g_iand (pc := 3) C dX4_doImmediate_3 (fun z9 ez9 => ?_)
  have hz9 : zI 0 65504 z9 := zi_and1 (zi_c 65504 (a := 0) (b := 65504) (by decide)) ez9
  refine g_istore_n (pc := 4) C ([(2, .int z9), (0, .ref (ad 19)), (1, .int p0)]) dX4_doImmediate_4 rfl (Nat.le_of_ble_eq_true rfl) rfl ?_
  refine g_aload_n (pc := 5) C dX4_doImmediate_5 rfl 1 rfl ?_
  refine g_iload_n (pc := 6) C dX4_doImmediate_6 rfl 2 rfl ?_
  refine g_bipush (pc := 7) C 15 dX4_doImmediate_7 (by decide) ?_
  refine g_iand (pc := 9) C dX4_doImmediate_9 (fun z10 ez10 => ?_)
  have hz10 : zI 0 15 z10 := zi_and1 (zi_c 15 (a := 0) (b := 15) (by decide)) ez10
  refine zcallVi (pc := 10) (st := []) C C.2.2.2.2.2 (n_X4_registerAddress l D ad cy tl A z10) (cwV 1 C.2.2.2.2.1 gw_RX4_128 rfl rfl rfl cd_X4_registerAddress ⟨Nat.le_of_ble_eq_true rfl, Nat.le_of_ble_eq_true rfl⟩) (hc_19 C) rfl rfl (Nat.le_of_ble_eq_true rfl) ⟨Nat.le_of_ble_eq_true rfl, Nat.le_of_ble_eq_true rfl⟩ dX4_doImmediate_10 (fun r11 => ?_)
  refine g_istore_n (pc := 13) C ([(3, .int r11), (2, .int z9), (0, .ref (ad 19)), (1, .int p0)]) dX4_doImmediate_13 rfl (Nat.le_of_ble_eq_true rfl) rfl ?_
  refine g_iload_n (pc := 14) C dX4_doImmediate_14 rfl 1 rfl ?_
  refine g_sipush (pc := 15) C 512 dX4_doImmediate_15 (by decide) ?_
  refine g_icmp_ne (pc := 18) C 25 dX4_doImmediate_18 (by decide) (fun c12 => ?_) (fun c12 => ?_)
  · refine g_aload_n (pc := 25) C dX4_doImmediate_25 rfl 2 rfl ?_
    refine gc_19_0 (pc := 26) C wk_219 dX4_doImmediate_26 ?_
    refine g_iload_n (pc := 29) C dX4_doImmediate_29 rfl 0 rfl ?_
    refine zcallVi (pc := 30) (st := []) C C.2.2.2.2.2 (n_X2_wordAt l D ad cy tl A r11) (cwV 1 C.2.2.2.2.1 gw_RX4_25 rfl rfl rfl cd_X2_wordAt ⟨Nat.le_of_ble_eq_true rfl, Nat.le_of_ble_eq_true rfl⟩) (hc_12 C) rfl rfl (Nat.le_of_ble_eq_true rfl) ⟨Nat.le_of_ble_eq_true rfl, Nat.le_of_ble_eq_true rfl⟩ dX4_doImmediate_30 (fun r13 => ?_)
    exact g_sub [2, 3, 1, 0] rfl (J33 z9 r11 r13 hz9)
  · have h14 : zI 512 512 z9 := zr_eq c12 hz9 (zi_c 512 (a := 512) (b := 512) (by decide)) (by decide)
    refine g_iconst (pc := 21) C 0 dX4_doImmediate_21 (by decide) ?_
    refine g_goto (pc := 22) C 33 dX4_doImmediate_22 (by decide) ?_
    exact g_sub [2, 3, 1, 0] rfl (J33 z9 r11 0 (zi_w h14 (a' := 0) (b' := 65504) (by decide)))

set_option maxHeartbeats 2000000 in
set_option maxRecDepth 100000 in
theorem n_X4_giveBack (l : Launch) (D : va_G) (ad : Nat → Nat) (cy : Nat → ClassId) (tl : Int32) (A : Nat → Prop) : zMv l yX4_giveBack wz_X4_giveBack ({ frames := 4, cells := 0, slots := 0, locals := 88 }) [.ref (ad 19)] D (zTc cy) A (zMc D A ad cy tl) (zMc D A ad cy tl) := by
  refine zstart_v (cc := cX4_giveBack) (maxL := 4) (own := RX4) (by decide) rfl rfl (Nat.le_of_ble_eq_true rfl) (fun p e s m args below meth c Q C r => ?_)
  refine g_sub (lv' := [(0, .ref (ad 19))]) [0] rfl ?_
  refine g_aload_n (pc := 0) C dX4_giveBack_0 rfl 0 rfl ?_
  refine gc_19_0 (pc := 1) C wk_219 dX4_giveBack_1 ?_
  refine g_aload_n (pc := 4) C dX4_giveBack_4 rfl 0 rfl ?_
  refine g_bipush (pc := 5) C 15 dX4_giveBack_5 (by decide) ?_
  refine zcallVi (pc := 7) (st := [.ref (ad 12)]) C C.2.2.2.2.2 (n_X4_registerAddress l D ad cy tl A 15) (cwV 1 C.2.2.2.2.1 gw_RX4_128 rfl rfl rfl cd_X4_registerAddress ⟨Nat.le_of_ble_eq_true rfl, Nat.le_of_ble_eq_true rfl⟩) (hc_19 C) rfl rfl (Nat.le_of_ble_eq_true rfl) ⟨Nat.le_of_ble_eq_true rfl, Nat.le_of_ble_eq_true rfl⟩ dX4_giveBack_7 (fun r1 => ?_)
  refine zcallVi (pc := 10) (st := []) C C.2.2.2.2.2 (n_X2_wordAt l D ad cy tl A r1) (cwV 1 C.2.2.2.2.1 gw_RX4_25 rfl rfl rfl cd_X2_wordAt ⟨Nat.le_of_ble_eq_true rfl, Nat.le_of_ble_eq_true rfl⟩) (hc_12 C) rfl rfl (Nat.le_of_ble_eq_true rfl) ⟨Nat.le_of_ble_eq_true rfl, Nat.le_of_ble_eq_true rfl⟩ dX4_giveBack_10 (fun r2 => ?_)
  refine g_istore_n (pc := 13) C ([(1, .int r2), (0, .ref (ad 19))]) dX4_giveBack_13 rfl (Nat.le_of_ble_eq_true rfl) rfl ?_
  refine g_aload_n (pc := 14) C dX4_giveBack_14 rfl 1 rfl ?_
  refine gc_19_0 (pc := 15) C wk_219 dX4_giveBack_15 ?_
  refine g_aload_n (pc := 18) C dX4_giveBack_18 rfl 1 rfl ?_
  refine g_bipush (pc := 19) C 14 dX4_giveBack_19 (by decide) ?_
  refine zcallVi (pc := 21) (st := [.ref (ad 12)]) C C.2.2.2.2.2 (n_X4_registerAddress l D ad cy tl A 14) (cwV 1 C.2.2.2.2.1 gw_RX4_128 rfl rfl rfl cd_X4_registerAddress ⟨Nat.le_of_ble_eq_true rfl, Nat.le_of_ble_eq_true rfl⟩) (hc_19 C) rfl rfl (Nat.le_of_ble_eq_true rfl) ⟨Nat.le_of_ble_eq_true rfl, Nat.le_of_ble_eq_true rfl⟩ dX4_giveBack_21 (fun r3 => ?_)
  refine zcallVi (pc := 24) (st := []) C C.2.2.2.2.2 (n_X2_wordAt l D ad cy tl A r3) (cwV 1 C.2.2.2.2.1 gw_RX4_25 rfl rfl rfl cd_X2_wordAt ⟨Nat.le_of_ble_eq_true rfl, Nat.le_of_ble_eq_true rfl⟩) (hc_12 C) rfl rfl (Nat.le_of_ble_eq_true rfl) ⟨Nat.le_of_ble_eq_true rfl, Nat.le_of_ble_eq_true rfl⟩ dX4_giveBack_24 (fun r4 => ?_)
  refine g_istore_n (pc := 27) C ([(2, .int r4), (1, .int r2), (0, .ref (ad 19))]) dX4_giveBack_27 rfl (Nat.le_of_ble_eq_true rfl) rfl ?_
  refine g_aload_n (pc := 28) C dX4_giveBack_28 rfl 2 rfl ?_
  refine gc_19_0 (pc := 29) C wk_219 dX4_giveBack_29 ?_
  refine g_aload_n (pc := 32) C dX4_giveBack_32 rfl 2 rfl ?_
  refine g_bipush (pc := 33) C 13 dX4_giveBack_33 (by decide) ?_
  refine zcallVi (pc := 35) (st := [.ref (ad 12)]) C C.2.2.2.2.2 (n_X4_registerAddress l D ad cy tl A 13) (cwV 1 C.2.2.2.2.1 gw_RX4_128 rfl rfl rfl cd_X4_registerAddress ⟨Nat.le_of_ble_eq_true rfl, Nat.le_of_ble_eq_true rfl⟩) (hc_19 C) rfl rfl (Nat.le_of_ble_eq_true rfl) ⟨Nat.le_of_ble_eq_true rfl, Nat.le_of_ble_eq_true rfl⟩ dX4_giveBack_35 (fun r5 => ?_)
  refine zcallVi (pc := 38) (st := []) C C.2.2.2.2.2 (n_X2_wordAt l D ad cy tl A r5) (cwV 1 C.2.2.2.2.1 gw_RX4_25 rfl rfl rfl cd_X2_wordAt ⟨Nat.le_of_ble_eq_true rfl, Nat.le_of_ble_eq_true rfl⟩) (hc_12 C) rfl rfl (Nat.le_of_ble_eq_true rfl) ⟨Nat.le_of_ble_eq_true rfl, Nat.le_of_ble_eq_true rfl⟩ dX4_giveBack_38 (fun r6 => ?_)
  refine g_istore_n (pc := 41) C ([(3, .int r6), (2, .int r4), (1, .int r2), (0, .ref (ad 19))]) dX4_giveBack_41 rfl (Nat.le_of_ble_eq_true rfl) rfl ?_
  refine g_aload_n (pc := 42) C dX4_giveBack_42 rfl 3 rfl ?_
  refine g_iload_n (pc := 43) C dX4_giveBack_43 rfl 2 rfl ?_
  refine g_ldc (pc := 44) C dX4_giveBack_44 (C.wd wk_584) ?_
  refine g_iand (pc := 46) C dX4_giveBack_46 (fun z7 ez7 => ?_)
  have hz7 : zI 0 65039 z7 := zi_and1 (zi_c 65039 (a := 0) (b := 65039) (by decide)) ez7
  refine pc_19_5 (pc := 47) C wk_226 dX4_giveBack_47 ?_
  refine g_aload_n (pc := 50) C dX4_giveBack_50 rfl 3 rfl ?_
  refine g_iload_n (pc := 51) C dX4_giveBack_51 rfl 1 rfl ?_
  refine g_ldc (pc := 52) C dX4_giveBack_52 (C.wd wk_384) ?_
  refine g_iand (pc := 54) C dX4_giveBack_54 (fun z8 ez8 => ?_)
  have hz8 : zI 0 65534 z8 := zi_and1 (zi_c 65534 (a := 0) (b := 65534) (by decide)) ez8
  refine pc_19_3 (pc := 55) C wk_222 dX4_giveBack_55 ?_
  refine g_aload_n (pc := 58) C dX4_giveBack_58 rfl 3 rfl ?_
  refine g_iload_n (pc := 59) C dX4_giveBack_59 rfl 0 rfl ?_
  refine g_ldc (pc := 60) C dX4_giveBack_60 (C.wd wk_384) ?_
  refine g_iand (pc := 62) C dX4_giveBack_62 (fun z9 ez9 => ?_)
  have hz9 : zI 0 65534 z9 := zi_and1 (zi_c 65534 (a := 0) (b := 65534) (by decide)) ez9
  refine pc_19_4 (pc := 63) C wk_224 dX4_giveBack_63 ?_
  exact g_return r dX4_giveBack_66 (fun _ h => h)

set_option maxHeartbeats 2000000 in
set_option maxRecDepth 100000 in
theorem n_X4_doControl (l : Launch) (D : va_G) (ad : Nat → Nat) (cy : Nat → ClassId) (tl : Int32) (A : Nat → Prop) (p0 : Int32) : zMv l yX4_doControl wz_X4_doControl ({ frames := 5, cells := 0, slots := 0, locals := 111 }) [.ref (ad 19), .int p0] D (zTc cy) A (zMc D A ad cy tl) (zMc D A ad cy tl) := by
  refine zstart_v (cc := cX4_doControl) (maxL := 2) (own := RX4) (by decide) rfl rfl (Nat.le_of_ble_eq_true rfl) (fun p e s m args below meth c Q C r => ?_)
  have J181 : zG p l e ({ frames := 5, cells := 0, slots := 0, locals := 111 }) s m args below meth c 2 0 0 A Q (zMc D A ad cy tl) 181 [(0, .ref (ad 19)), (1, .int p0)] [] := by
    exact g_return r dX4_doControl_181 (fun _ h => h)
  refine g_sub (lv' := [(0, .ref (ad 19)), (1, .int p0)]) [0, 1] rfl ?_
  refine g_iload_n (pc := 0) C dX4_doControl_0 rfl 1 rfl ?_
  refine g_ldc (pc := 1) C dX4_doControl_1 (C.wd wk_567) ?_
  refine g_iand (pc := 3) C dX4_doControl_3 (fun z1 ez1 => ?_)
  have hz1 : zI 0 65504 z1 := zi_and1 (zi_c 65504 (a := 0) (b := 65504) (by decide)) ez1
  refine g_lookup (pc := 4) C [181, 72, 94, 116, 130, 152, 160, 174] dX4_doControl_4 (by decide) (by decide) (List.forall_mem_cons.mpr ⟨?_, (List.forall_mem_cons.mpr ⟨?_, (List.forall_mem_cons.mpr ⟨?_, (List.forall_mem_cons.mpr ⟨?_, (List.forall_mem_cons.mpr ⟨?_, (List.forall_mem_cons.mpr ⟨?_, (List.forall_mem_cons.mpr ⟨?_, (List.forall_mem_cons.mpr ⟨?_, fun _ h => absurd h List.not_mem_nil⟩)⟩)⟩)⟩)⟩)⟩)⟩)⟩)
  · exact g_sub [0, 1] rfl (J181 )
  · refine g_aload_n (pc := 72) C dX4_doControl_72 rfl 0 rfl ?_
    refine gc_19_0 (pc := 73) C wk_219 dX4_doControl_73 ?_
    refine g_aload_n (pc := 76) C dX4_doControl_76 rfl 0 rfl ?_
    refine g_iload_n (pc := 77) C dX4_doControl_77 rfl 1 rfl ?_
    refine g_bipush (pc := 78) C 15 dX4_doControl_78 (by decide) ?_
    refine g_iand (pc := 80) C dX4_doControl_80 (fun z2 ez2 => ?_)
    have hz2 : zI 0 15 z2 := zi_and1 (zi_c 15 (a := 0) (b := 15) (by decide)) ez2
    refine zcallVi (pc := 81) (st := [.ref (ad 12)]) C C.2.2.2.2.2 (n_X4_registerAddress l D ad cy tl A z2) (cwV 1 C.2.2.2.2.1 gw_RX4_128 rfl rfl rfl cd_X4_registerAddress ⟨Nat.le_of_ble_eq_true rfl, Nat.le_of_ble_eq_true rfl⟩) (hc_19 C) rfl rfl (Nat.le_of_ble_eq_true rfl) ⟨Nat.le_of_ble_eq_true rfl, Nat.le_of_ble_eq_true rfl⟩ dX4_doControl_81 (fun r3 => ?_)
    refine g_aload_n (pc := 84) C dX4_doControl_84 rfl 0 rfl ?_
    refine gc_19_4 (pc := 85) C wk_224 dX4_doControl_85 (fun z4 => ?_)
    refine zcallVv (pc := 88) (st := []) C C.2.2.2.2.2 (n_X2_putWord l D ad cy tl A r3 z4) (cwV 2 C.2.2.2.2.1 gw_RX4_131 rfl rfl rfl cd_X2_putWord ⟨Nat.le_of_ble_eq_true rfl, Nat.le_of_ble_eq_true rfl⟩) (hc_12 C) rfl rfl (Nat.le_of_ble_eq_true rfl) ⟨Nat.le_of_ble_eq_true rfl, Nat.le_of_ble_eq_true rfl⟩ dX4_doControl_88 ?_
    refine g_goto (pc := 91) C 181 dX4_doControl_91 (by decide) ?_
    exact g_sub [0, 1] rfl (J181 )
  · refine g_aload_n (pc := 94) C dX4_doControl_94 rfl 0 rfl ?_
    refine gc_19_0 (pc := 95) C wk_219 dX4_doControl_95 ?_
    refine g_aload_n (pc := 98) C dX4_doControl_98 rfl 0 rfl ?_
    refine g_iload_n (pc := 99) C dX4_doControl_99 rfl 1 rfl ?_
    refine g_bipush (pc := 100) C 15 dX4_doControl_100 (by decide) ?_
    refine g_iand (pc := 102) C dX4_doControl_102 (fun z5 ez5 => ?_)
    have hz5 : zI 0 15 z5 := zi_and1 (zi_c 15 (a := 0) (b := 15) (by decide)) ez5
    refine zcallVi (pc := 103) (st := [.ref (ad 12)]) C C.2.2.2.2.2 (n_X4_registerAddress l D ad cy tl A z5) (cwV 1 C.2.2.2.2.1 gw_RX4_128 rfl rfl rfl cd_X4_registerAddress ⟨Nat.le_of_ble_eq_true rfl, Nat.le_of_ble_eq_true rfl⟩) (hc_19 C) rfl rfl (Nat.le_of_ble_eq_true rfl) ⟨Nat.le_of_ble_eq_true rfl, Nat.le_of_ble_eq_true rfl⟩ dX4_doControl_103 (fun r6 => ?_)
    refine g_aload_n (pc := 106) C dX4_doControl_106 rfl 0 rfl ?_
    refine gc_19_5 (pc := 107) C wk_226 dX4_doControl_107 (fun z7 => ?_)
    refine zcallVv (pc := 110) (st := []) C C.2.2.2.2.2 (n_X2_putWord l D ad cy tl A r6 z7) (cwV 2 C.2.2.2.2.1 gw_RX4_131 rfl rfl rfl cd_X2_putWord ⟨Nat.le_of_ble_eq_true rfl, Nat.le_of_ble_eq_true rfl⟩) (hc_12 C) rfl rfl (Nat.le_of_ble_eq_true rfl) ⟨Nat.le_of_ble_eq_true rfl, Nat.le_of_ble_eq_true rfl⟩ dX4_doControl_110 ?_
    refine g_goto (pc := 113) C 181 dX4_doControl_113 (by decide) ?_
    exact g_sub [0, 1] rfl (J181 )
  · refine g_aload_n (pc := 116) C dX4_doControl_116 rfl 0 rfl ?_
    refine g_aload_n (pc := 117) C dX4_doControl_117 rfl 0 rfl ?_
    refine zcallVi (pc := 118) (st := [.ref (ad 19)]) C C.2.2.2.2.2 (n_X4_nextWord l D ad cy tl A ) (cwV 0 C.2.2.2.2.1 gw_RX4_76 rfl rfl rfl cd_X4_nextWord ⟨Nat.le_of_ble_eq_true rfl, Nat.le_of_ble_eq_true rfl⟩) (hc_19 C) rfl rfl (Nat.le_of_ble_eq_true rfl) ⟨Nat.le_of_ble_eq_true rfl, Nat.le_of_ble_eq_true rfl⟩ dX4_doControl_118 (fun r8 => ?_)
    refine g_ldc (pc := 121) C dX4_doControl_121 (C.wd wk_384) ?_
    refine g_iand (pc := 123) C dX4_doControl_123 (fun z9 ez9 => ?_)
    have hz9 : zI 0 65534 z9 := zi_and1 (zi_c 65534 (a := 0) (b := 65534) (by decide)) ez9
    refine pc_19_4 (pc := 124) C wk_224 dX4_doControl_124 ?_
    refine g_goto (pc := 127) C 181 dX4_doControl_127 (by decide) ?_
    exact g_sub [0, 1] rfl (J181 )
  · refine g_aload_n (pc := 130) C dX4_doControl_130 rfl 0 rfl ?_
    refine g_aload_n (pc := 131) C dX4_doControl_131 rfl 0 rfl ?_
    refine gc_19_5 (pc := 132) C wk_226 dX4_doControl_132 (fun z10 => ?_)
    refine g_bipush (pc := 135) C (-16) dX4_doControl_135 (by decide) ?_
    refine g_iand (pc := 137) C dX4_doControl_137 (fun z11 ez11 => ?_)
    refine g_aload_n (pc := 138) C dX4_doControl_138 rfl 0 rfl ?_
    refine zcallVi (pc := 139) (st := [.int z11, .ref (ad 19)]) C C.2.2.2.2.2 (n_X4_nextWord l D ad cy tl A ) (cwV 0 C.2.2.2.2.1 gw_RX4_76 rfl rfl rfl cd_X4_nextWord ⟨Nat.le_of_ble_eq_true rfl, Nat.le_of_ble_eq_true rfl⟩) (hc_19 C) rfl rfl (Nat.le_of_ble_eq_true rfl) ⟨Nat.le_of_ble_eq_true rfl, Nat.le_of_ble_eq_true rfl⟩ dX4_doControl_139 (fun r12 => ?_)
    refine g_bipush (pc := 142) C 15 dX4_doControl_142 (by decide) ?_
    refine g_iand (pc := 144) C dX4_doControl_144 (fun z13 ez13 => ?_)
    have hz13 : zI 0 15 z13 := zi_and1 (zi_c 15 (a := 0) (b := 15) (by decide)) ez13
    refine g_ior (pc := 145) C dX4_doControl_145 (fun z14 ez14 => ?_)
    refine pc_19_5 (pc := 146) C wk_226 dX4_doControl_146 ?_
    refine g_goto (pc := 149) C 181 dX4_doControl_149 (by decide) ?_
    exact g_sub [0, 1] rfl (J181 )
  · refine g_aload_n (pc := 152) C dX4_doControl_152 rfl 0 rfl ?_
    refine g_iconst (pc := 153) C 1 dX4_doControl_153 (by decide) ?_
    refine pc_19_6 (pc := 154) C wk_228 dX4_doControl_154 ?_
    refine g_goto (pc := 157) C 181 dX4_doControl_157 (by decide) ?_
    exact g_sub [0, 1] rfl (J181 )
  · refine g_aload_n (pc := 160) C dX4_doControl_160 rfl 0 rfl ?_
    refine g_dup (pc := 161) C dX4_doControl_161 rfl ?_
    refine gc_19_5 (pc := 162) C wk_226 dX4_doControl_162 (fun z15 => ?_)
    refine g_bipush (pc := 165) C (-16) dX4_doControl_165 (by decide) ?_
    refine g_iand (pc := 167) C dX4_doControl_167 (fun z16 ez16 => ?_)
    refine pc_19_5 (pc := 168) C wk_226 dX4_doControl_168 ?_
    refine g_goto (pc := 171) C 181 dX4_doControl_171 (by decide) ?_
    exact g_sub [0, 1] rfl (J181 )
  · refine g_aload_n (pc := 174) C dX4_doControl_174 rfl 0 rfl ?_
    refine zcallVv (pc := 175) (st := []) C C.2.2.2.2.2 (n_X4_giveBack l D ad cy tl A ) (cwV 0 C.2.2.2.2.1 gw_RX4_154 rfl rfl rfl cd_X4_giveBack ⟨Nat.le_of_ble_eq_true rfl, Nat.le_of_ble_eq_true rfl⟩) (hc_19 C) rfl rfl (Nat.le_of_ble_eq_true rfl) ⟨Nat.le_of_ble_eq_true rfl, Nat.le_of_ble_eq_true rfl⟩ dX4_doControl_175 ?_
    refine g_goto (pc := 178) C 181 dX4_doControl_178 (by decide) ?_
    exact g_sub [0, 1] rfl (J181 )

set_option maxHeartbeats 2000000 in
set_option maxRecDepth 100000 in
theorem n_X4_inverted (l : Launch) (D : va_G) (ad : Nat → Nat) (cy : Nat → ClassId) (tl : Int32) (A : Nat → Prop) (p0 : Int32) : zMi l yX4_inverted wz_X4_inverted ({ frames := 2, cells := 0, slots := 0, locals := 47 }) [.ref (ad 19), .int p0] D (zTc cy) A (zMc D A ad cy tl) (fun _ => (zMc D A ad cy tl)) := by
  refine zstart_i (cc := cX4_inverted) (maxL := 3) (ty := .int) (own := RX4) (by decide) rfl rfl (Nat.le_of_ble_eq_true rfl) (fun p e s m args below meth c Q C r => ?_)
  refine g_sub (lv' := [(0, .ref (ad 19)), (1, .int p0)]) [0, 1] rfl ?_
  refine g_iload_n (pc := 0) C dX4_inverted_0 rfl 1 rfl ?_
  refine g_iconst (pc := 1) C (-1) dX4_inverted_1 (by decide) ?_
  refine g_ixor (pc := 2) C dX4_inverted_2 (fun z1 ez1 => ?_)
  refine g_ldc (pc := 3) C dX4_inverted_3 (C.wd wk_538) ?_
  refine g_iand (pc := 5) C dX4_inverted_5 (fun z2 ez2 => ?_)
  have hz2 : zI 0 65535 z2 := zi_and1 (zi_c 65535 (a := 0) (b := 65535) (by decide)) ez2
  refine g_istore_n (pc := 6) C ([(2, .int z2), (0, .ref (ad 19)), (1, .int p0)]) dX4_inverted_6 rfl (Nat.le_of_ble_eq_true rfl) rfl ?_
  refine g_aload_n (pc := 7) C dX4_inverted_7 rfl 1 rfl ?_
  refine g_iload_n (pc := 8) C dX4_inverted_8 rfl 0 rfl ?_
  refine g_iconst (pc := 9) C 0 dX4_inverted_9 (by decide) ?_
  refine g_iconst (pc := 10) C 0 dX4_inverted_10 (by decide) ?_
  refine zcallVv (pc := 11) (st := []) C C.2.2.2.2.2 (n_X4_compare l D ad cy tl A z2 0 0) (cwV 3 C.2.2.2.2.1 gw_RX4_145 rfl rfl rfl cd_X4_compare ⟨Nat.le_of_ble_eq_true rfl, Nat.le_of_ble_eq_true rfl⟩) (hc_19 C) rfl rfl (Nat.le_of_ble_eq_true rfl) ⟨Nat.le_of_ble_eq_true rfl, Nat.le_of_ble_eq_true rfl⟩ dX4_inverted_11 ?_
  refine g_iload_n (pc := 14) C dX4_inverted_14 rfl 0 rfl ?_
  exact g_ireturn r dX4_inverted_15 rfl (fun _ h => h)

set_option maxHeartbeats 2000000 in
set_option maxRecDepth 100000 in
theorem n_X4_sizeOf (l : Launch) (D : va_G) (ad : Nat → Nat) (cy : Nat → ClassId) (tl : Int32) (A : Nat → Prop) (p0 : Int32) : zMi l yX4_sizeOf wz_X4_sizeOf ({ frames := 2, cells := 0, slots := 0, locals := 47 }) [.ref (ad 19), .int p0] D (zTc cy) A (zMc D A ad cy tl) (fun _ => (zMc D A ad cy tl)) := by
  refine zstart_i (cc := cX4_sizeOf) (maxL := 2) (ty := .int) (own := RX4) (by decide) rfl rfl (Nat.le_of_ble_eq_true rfl) (fun p e s m args below meth c Q C r => ?_)
  have J48 : ∀ (b0_48 : Int32) (_ : zI (-2147483648) 65535 b0_48), zG p l e ({ frames := 2, cells := 0, slots := 0, locals := 47 }) s m args below meth c 2 0 0 A Q (zMc D A ad cy tl) 48 [(0, .ref (ad 19)), (1, .int p0)] [.int b0_48] := by
    intro b0_48 hb0_48
    exact g_ireturn r dX4_sizeOf_48 rfl (fun _ h => h)
  have J30 : ∀ (b0_30 : Int32) (_ : zI 0 1 b0_30), zG p l e ({ frames := 2, cells := 0, slots := 0, locals := 47 }) s m args below meth c 2 0 0 A Q (zMc D A ad cy tl) 30 [(0, .ref (ad 19)), (1, .int p0)] [.int b0_30, .int 2048, .ref (ad 19)] := by
    intro b0_30 hb0_30
    refine zcallVv (pc := 30) (st := []) C C.2.2.2.2.2 (n_X4_flag l D ad cy tl A 2048 b0_30) (cwV 2 C.2.2.2.2.1 gw_RX4_136 rfl rfl rfl cd_X4_flag ⟨Nat.le_of_ble_eq_true rfl, Nat.le_of_ble_eq_true rfl⟩) (hc_19 C) rfl rfl (Nat.le_of_ble_eq_true rfl) ⟨Nat.le_of_ble_eq_true rfl, Nat.le_of_ble_eq_true rfl⟩ dX4_sizeOf_30 ?_
    refine g_iload_n (pc := 33) C dX4_sizeOf_33 rfl 1 rfl ?_
    refine g_ldc (pc := 34) C dX4_sizeOf_34 (C.wd wk_571) ?_
    refine g_icmp_lt (pc := 36) C 47 dX4_sizeOf_36 (by decide) (fun c1 => ?_) (fun c1 => ?_)
    · have h2 : zI (-2147483648) 32767 p0 := zr_lt1 (zc_lt c1) (zi_full p0) (zi_c 32768 (a := 32768) (b := 32768) (by decide)) (by decide)
      refine g_iload_n (pc := 47) C dX4_sizeOf_47 rfl 1 rfl ?_
      exact g_sub [0, 1] rfl (J48 p0 (zi_w h2 (a' := (-2147483648)) (b' := 65535) (by decide)))
    · have h3 : zI 32768 2147483647 p0 := zr_le2 (zc_nlt c1) (zi_c 32768 (a := 32768) (b := 32768) (by decide)) (zi_full p0) (by decide)
      refine g_iload_n (pc := 39) C dX4_sizeOf_39 rfl 1 rfl ?_
      refine g_ineg (pc := 40) C dX4_sizeOf_40 (fun z4 ez4 => ?_)
      refine g_ldc (pc := 41) C dX4_sizeOf_41 (C.wd wk_538) ?_
      refine g_iand (pc := 43) C dX4_sizeOf_43 (fun z5 ez5 => ?_)
      have hz5 : zI 0 65535 z5 := zi_and1 (zi_c 65535 (a := 0) (b := 65535) (by decide)) ez5
      refine g_goto (pc := 44) C 48 dX4_sizeOf_44 (by decide) ?_
      exact g_sub [0, 1] rfl (J48 z5 (zi_w hz5 (a' := (-2147483648)) (b' := 65535) (by decide)))
  refine g_sub (lv' := [(0, .ref (ad 19)), (1, .int p0)]) [0, 1] rfl ?_
  refine g_aload_n (pc := 0) C dX4_sizeOf_0 rfl 0 rfl ?_
  refine g_iload_n (pc := 1) C dX4_sizeOf_1 rfl 1 rfl ?_
  refine g_iconst (pc := 2) C 0 dX4_sizeOf_2 (by decide) ?_
  refine g_iconst (pc := 3) C 0 dX4_sizeOf_3 (by decide) ?_
  refine zcallVv (pc := 4) (st := []) C C.2.2.2.2.2 (n_X4_compare l D ad cy tl A p0 0 0) (cwV 3 C.2.2.2.2.1 gw_RX4_145 rfl rfl rfl cd_X4_compare ⟨Nat.le_of_ble_eq_true rfl, Nat.le_of_ble_eq_true rfl⟩) (hc_19 C) rfl rfl (Nat.le_of_ble_eq_true rfl) ⟨Nat.le_of_ble_eq_true rfl, Nat.le_of_ble_eq_true rfl⟩ dX4_sizeOf_4 ?_
  refine g_aload_n (pc := 7) C dX4_sizeOf_7 rfl 0 rfl ?_
  refine g_sipush (pc := 8) C 4096 dX4_sizeOf_8 (by decide) ?_
  refine g_iconst (pc := 11) C 0 dX4_sizeOf_11 (by decide) ?_
  refine zcallVv (pc := 12) (st := []) C C.2.2.2.2.2 (n_X4_flag l D ad cy tl A 4096 0) (cwV 2 C.2.2.2.2.1 gw_RX4_136 rfl rfl rfl cd_X4_flag ⟨Nat.le_of_ble_eq_true rfl, Nat.le_of_ble_eq_true rfl⟩) (hc_19 C) rfl rfl (Nat.le_of_ble_eq_true rfl) ⟨Nat.le_of_ble_eq_true rfl, Nat.le_of_ble_eq_true rfl⟩ dX4_sizeOf_12 ?_
  refine g_aload_n (pc := 15) C dX4_sizeOf_15 rfl 0 rfl ?_
  refine g_sipush (pc := 16) C 2048 dX4_sizeOf_16 (by decide) ?_
  refine g_iload_n (pc := 19) C dX4_sizeOf_19 rfl 1 rfl ?_
  refine g_ldc (pc := 20) C dX4_sizeOf_20 (C.wd wk_571) ?_
  refine g_icmp_ne (pc := 22) C 29 dX4_sizeOf_22 (by decide) (fun c6 => ?_) (fun c6 => ?_)
  · refine g_iconst (pc := 29) C 0 dX4_sizeOf_29 (by decide) ?_
    exact g_sub [0, 1] rfl (J30 0 (zi_c 0 (a := 0) (b := 1) (by decide)))
  · have h7 : zI 32768 32768 p0 := zr_eq c6 (zi_full p0) (zi_c 32768 (a := 32768) (b := 32768) (by decide)) (by decide)
    refine g_iconst (pc := 25) C 1 dX4_sizeOf_25 (by decide) ?_
    refine g_goto (pc := 26) C 30 dX4_sizeOf_26 (by decide) ?_
    exact g_sub [0, 1] rfl (J30 1 (zi_c 1 (a := 0) (b := 1) (by decide)))

set_option maxHeartbeats 2000000 in
set_option maxRecDepth 100000 in
theorem n_X4_changed (l : Launch) (D : va_G) (ad : Nat → Nat) (cy : Nat → ClassId) (tl : Int32) (A : Nat → Prop) (p0 : Int32) (p1 : Int32) : zMi l yX4_changed wz_X4_changed ({ frames := 3, cells := 0, slots := 0, locals := 74 }) [.ref (ad 19), .int p0, .int p1] D (zTc cy) A (zMc D A ad cy tl) (fun _ => (zMc D A ad cy tl)) := by
  refine zstart_i (cc := cX4_changed) (maxL := 3) (ty := .int) (own := RX4) (by decide) rfl rfl (Nat.le_of_ble_eq_true rfl) (fun p e s m args below meth c Q C r => ?_)
  refine g_sub (lv' := [(0, .ref (ad 19)), (1, .int p0), (2, .int p1)]) [0, 1, 2] rfl ?_
  refine g_iload_n (pc := 0) C dX4_changed_0 rfl 1 rfl ?_
  refine g_lookup (pc := 1) C [164, 92, 94, 102, 108, 116, 124, 133, 142, 155, 158] dX4_changed_1 (by decide) (by decide) (List.forall_mem_cons.mpr ⟨?_, (List.forall_mem_cons.mpr ⟨?_, (List.forall_mem_cons.mpr ⟨?_, (List.forall_mem_cons.mpr ⟨?_, (List.forall_mem_cons.mpr ⟨?_, (List.forall_mem_cons.mpr ⟨?_, (List.forall_mem_cons.mpr ⟨?_, (List.forall_mem_cons.mpr ⟨?_, (List.forall_mem_cons.mpr ⟨?_, (List.forall_mem_cons.mpr ⟨?_, (List.forall_mem_cons.mpr ⟨?_, fun _ h => absurd h List.not_mem_nil⟩)⟩)⟩)⟩)⟩)⟩)⟩)⟩)⟩)⟩)⟩)
  · refine g_iload_n (pc := 164) C dX4_changed_164 rfl 2 rfl ?_
    exact g_ireturn r dX4_changed_165 rfl (fun _ h => h)
  · refine g_iconst (pc := 92) C 0 dX4_changed_92 (by decide) ?_
    exact g_ireturn r dX4_changed_93 rfl (fun _ h => h)
  · refine g_aload_n (pc := 94) C dX4_changed_94 rfl 0 rfl ?_
    refine g_iconst (pc := 95) C 0 dX4_changed_95 (by decide) ?_
    refine g_iload_n (pc := 96) C dX4_changed_96 rfl 2 rfl ?_
    refine g_iconst (pc := 97) C 0 dX4_changed_97 (by decide) ?_
    refine zcallVi (pc := 98) (st := []) C C.2.2.2.2.2 (n_X4_subtract l D ad cy tl A 0 p1 0) (cwV 3 C.2.2.2.2.1 gw_RX4_162 rfl rfl rfl cd_X4_subtract ⟨Nat.le_of_ble_eq_true rfl, Nat.le_of_ble_eq_true rfl⟩) (hc_19 C) rfl rfl (Nat.le_of_ble_eq_true rfl) ⟨Nat.le_of_ble_eq_true rfl, Nat.le_of_ble_eq_true rfl⟩ dX4_changed_98 (fun r1 => ?_)
    exact g_ireturn r dX4_changed_101 rfl (fun _ h => h)
  · refine g_aload_n (pc := 102) C dX4_changed_102 rfl 0 rfl ?_
    refine g_iload_n (pc := 103) C dX4_changed_103 rfl 2 rfl ?_
    refine zcallVi (pc := 104) (st := []) C C.2.2.2.2.2 (n_X4_inverted l D ad cy tl A p1) (cwV 1 C.2.2.2.2.1 gw_RX4_165 rfl rfl rfl cd_X4_inverted ⟨Nat.le_of_ble_eq_true rfl, Nat.le_of_ble_eq_true rfl⟩) (hc_19 C) rfl rfl (Nat.le_of_ble_eq_true rfl) ⟨Nat.le_of_ble_eq_true rfl, Nat.le_of_ble_eq_true rfl⟩ dX4_changed_104 (fun r2 => ?_)
    exact g_ireturn r dX4_changed_107 rfl (fun _ h => h)
  · refine g_aload_n (pc := 108) C dX4_changed_108 rfl 0 rfl ?_
    refine g_iload_n (pc := 109) C dX4_changed_109 rfl 2 rfl ?_
    refine g_iconst (pc := 110) C 1 dX4_changed_110 (by decide) ?_
    refine g_iconst (pc := 111) C 0 dX4_changed_111 (by decide) ?_
    refine zcallVi (pc := 112) (st := []) C C.2.2.2.2.2 (n_X4_add l D ad cy tl A p1 1 0) (cwV 3 C.2.2.2.2.1 gw_RX4_150 rfl rfl rfl cd_X4_add ⟨Nat.le_of_ble_eq_true rfl, Nat.le_of_ble_eq_true rfl⟩) (hc_19 C) rfl rfl (Nat.le_of_ble_eq_true rfl) ⟨Nat.le_of_ble_eq_true rfl, Nat.le_of_ble_eq_true rfl⟩ dX4_changed_112 (fun r3 => ?_)
    exact g_ireturn r dX4_changed_115 rfl (fun _ h => h)
  · refine g_aload_n (pc := 116) C dX4_changed_116 rfl 0 rfl ?_
    refine g_iload_n (pc := 117) C dX4_changed_117 rfl 2 rfl ?_
    refine g_iconst (pc := 118) C 2 dX4_changed_118 (by decide) ?_
    refine g_iconst (pc := 119) C 0 dX4_changed_119 (by decide) ?_
    refine zcallVi (pc := 120) (st := []) C C.2.2.2.2.2 (n_X4_add l D ad cy tl A p1 2 0) (cwV 3 C.2.2.2.2.1 gw_RX4_150 rfl rfl rfl cd_X4_add ⟨Nat.le_of_ble_eq_true rfl, Nat.le_of_ble_eq_true rfl⟩) (hc_19 C) rfl rfl (Nat.le_of_ble_eq_true rfl) ⟨Nat.le_of_ble_eq_true rfl, Nat.le_of_ble_eq_true rfl⟩ dX4_changed_120 (fun r4 => ?_)
    exact g_ireturn r dX4_changed_123 rfl (fun _ h => h)
  · refine g_aload_n (pc := 124) C dX4_changed_124 rfl 0 rfl ?_
    refine g_iload_n (pc := 125) C dX4_changed_125 rfl 2 rfl ?_
    refine g_ldc (pc := 126) C dX4_changed_126 (C.wd wk_538) ?_
    refine g_iconst (pc := 128) C 0 dX4_changed_128 (by decide) ?_
    refine zcallVi (pc := 129) (st := []) C C.2.2.2.2.2 (n_X4_add l D ad cy tl A p1 65535 0) (cwV 3 C.2.2.2.2.1 gw_RX4_150 rfl rfl rfl cd_X4_add ⟨Nat.le_of_ble_eq_true rfl, Nat.le_of_ble_eq_true rfl⟩) (hc_19 C) rfl rfl (Nat.le_of_ble_eq_true rfl) ⟨Nat.le_of_ble_eq_true rfl, Nat.le_of_ble_eq_true rfl⟩ dX4_changed_129 (fun r5 => ?_)
    exact g_ireturn r dX4_changed_132 rfl (fun _ h => h)
  · refine g_aload_n (pc := 133) C dX4_changed_133 rfl 0 rfl ?_
    refine g_iload_n (pc := 134) C dX4_changed_134 rfl 2 rfl ?_
    refine g_ldc (pc := 135) C dX4_changed_135 (C.wd wk_384) ?_
    refine g_iconst (pc := 137) C 0 dX4_changed_137 (by decide) ?_
    refine zcallVi (pc := 138) (st := []) C C.2.2.2.2.2 (n_X4_add l D ad cy tl A p1 65534 0) (cwV 3 C.2.2.2.2.1 gw_RX4_150 rfl rfl rfl cd_X4_add ⟨Nat.le_of_ble_eq_true rfl, Nat.le_of_ble_eq_true rfl⟩) (hc_19 C) rfl rfl (Nat.le_of_ble_eq_true rfl) ⟨Nat.le_of_ble_eq_true rfl, Nat.le_of_ble_eq_true rfl⟩ dX4_changed_138 (fun r6 => ?_)
    exact g_ireturn r dX4_changed_141 rfl (fun _ h => h)
  · refine g_iload_n (pc := 142) C dX4_changed_142 rfl 2 rfl ?_
    refine g_bipush (pc := 143) C 8 dX4_changed_143 (by decide) ?_
    refine g_ishl (pc := 145) C dX4_changed_145 (fun z7 ez7 => ?_)
    refine g_iload_n (pc := 146) C dX4_changed_146 rfl 2 rfl ?_
    refine g_bipush (pc := 147) C 8 dX4_changed_147 (by decide) ?_
    refine g_ishr (pc := 149) C dX4_changed_149 (fun z8 ez8 => ?_)
    refine g_ior (pc := 150) C dX4_changed_150 (fun z9 ez9 => ?_)
    refine g_ldc (pc := 151) C dX4_changed_151 (C.wd wk_538) ?_
    refine g_iand (pc := 153) C dX4_changed_153 (fun z10 ez10 => ?_)
    have hz10 : zI 0 65535 z10 := zi_and1 (zi_c 65535 (a := 0) (b := 65535) (by decide)) ez10
    exact g_ireturn r dX4_changed_154 rfl (fun _ h => h)
  · refine g_ldc (pc := 155) C dX4_changed_155 (C.wd wk_538) ?_
    exact g_ireturn r dX4_changed_157 rfl (fun _ h => h)
  · refine g_aload_n (pc := 158) C dX4_changed_158 rfl 0 rfl ?_
    refine g_iload_n (pc := 159) C dX4_changed_159 rfl 2 rfl ?_
    refine zcallVi (pc := 160) (st := []) C C.2.2.2.2.2 (n_X4_sizeOf l D ad cy tl A p1) (cwV 1 C.2.2.2.2.1 gw_RX4_168 rfl rfl rfl cd_X4_sizeOf ⟨Nat.le_of_ble_eq_true rfl, Nat.le_of_ble_eq_true rfl⟩) (hc_19 C) rfl rfl (Nat.le_of_ble_eq_true rfl) ⟨Nat.le_of_ble_eq_true rfl, Nat.le_of_ble_eq_true rfl⟩ dX4_changed_160 (fun r11 => ?_)
    exact g_ireturn r dX4_changed_163 rfl (fun _ h => h)

set_option maxHeartbeats 2000000 in
set_option maxRecDepth 100000 in
theorem n_X4_doOneOperand (l : Launch) (D : va_G) (ad : Nat → Nat) (cy : Nat → ClassId) (tl : Int32) (A : Nat → Prop) (p0 : Int32) : zMv l yX4_doOneOperand wz_X4_doOneOperand ({ frames := 5, cells := 0, slots := 0, locals := 120 }) [.ref (ad 19), .int p0] D (zTc cy) A (zMc D A ad cy tl) (zMc D A ad cy tl) := by
  refine zstart_v (cc := cX4_doOneOperand) (maxL := 4) (own := RX4) (by decide) rfl rfl (Nat.le_of_ble_eq_true rfl) (fun p e s m args below meth c Q C r => ?_)
  have J116 : ∀ (a2_116 : Int32) (a3_116 : Int32) (_ : zI 0 65472 a3_116), zG p l e ({ frames := 5, cells := 0, slots := 0, locals := 120 }) s m args below meth c 4 0 0 A Q (zMc D A ad cy tl) 116 [(0, .ref (ad 19)), (1, .int p0), (2, .int a2_116), (3, .int a3_116)] [] := by
    intro a2_116 a3_116 ha3_116
    exact g_return r dX4_doOneOperand_116 (fun _ h => h)
  refine g_sub (lv' := [(0, .ref (ad 19)), (1, .int p0)]) [0, 1] rfl ?_
  refine g_aload_n (pc := 0) C dX4_doOneOperand_0 rfl 0 rfl ?_
  refine g_iload_n (pc := 1) C dX4_doOneOperand_1 rfl 1 rfl ?_
  refine g_iconst (pc := 2) C 0 dX4_doOneOperand_2 (by decide) ?_
  refine zcallVi (pc := 3) (st := []) C C.2.2.2.2.2 (n_X4_operandAddress l D ad cy tl A p0 0) (cwV 2 C.2.2.2.2.1 gw_RX4_89 rfl rfl rfl cd_X4_operandAddress ⟨Nat.le_of_ble_eq_true rfl, Nat.le_of_ble_eq_true rfl⟩) (hc_19 C) rfl rfl (Nat.le_of_ble_eq_true rfl) ⟨Nat.le_of_ble_eq_true rfl, Nat.le_of_ble_eq_true rfl⟩ dX4_doOneOperand_3 (fun r1 => ?_)
  refine g_istore_n (pc := 6) C ([(2, .int r1), (0, .ref (ad 19)), (1, .int p0)]) dX4_doOneOperand_6 rfl (Nat.le_of_ble_eq_true rfl) rfl ?_
  refine g_iload_n (pc := 7) C dX4_doOneOperand_7 rfl 2 rfl ?_
  refine g_ldc (pc := 8) C dX4_doOneOperand_8 (C.wd wk_556) ?_
  refine g_iand (pc := 10) C dX4_doOneOperand_10 (fun z2 ez2 => ?_)
  have hz2 : zI 0 65472 z2 := zi_and1 (zi_c 65472 (a := 0) (b := 65472) (by decide)) ez2
  refine g_istore_n (pc := 11) C ([(3, .int z2), (2, .int r1), (0, .ref (ad 19)), (1, .int p0)]) dX4_doOneOperand_11 rfl (Nat.le_of_ble_eq_true rfl) rfl ?_
  refine g_iload_n (pc := 12) C dX4_doOneOperand_12 rfl 0 rfl ?_
  refine g_lookup (pc := 13) C [95, 48, 56, 67] dX4_doOneOperand_13 (by decide) (by decide) (List.forall_mem_cons.mpr ⟨?_, (List.forall_mem_cons.mpr ⟨?_, (List.forall_mem_cons.mpr ⟨?_, (List.forall_mem_cons.mpr ⟨?_, fun _ h => absurd h List.not_mem_nil⟩)⟩)⟩)⟩)
  · refine g_aload_n (pc := 95) C dX4_doOneOperand_95 rfl 2 rfl ?_
    refine gc_19_0 (pc := 96) C wk_219 dX4_doOneOperand_96 ?_
    refine g_iload_n (pc := 99) C dX4_doOneOperand_99 rfl 1 rfl ?_
    refine g_aload_n (pc := 100) C dX4_doOneOperand_100 rfl 2 rfl ?_
    refine g_iload_n (pc := 101) C dX4_doOneOperand_101 rfl 0 rfl ?_
    refine g_aload_n (pc := 102) C dX4_doOneOperand_102 rfl 2 rfl ?_
    refine gc_19_0 (pc := 103) C wk_219 dX4_doOneOperand_103 ?_
    refine g_iload_n (pc := 106) C dX4_doOneOperand_106 rfl 1 rfl ?_
    refine zcallVi (pc := 107) (st := [.int z2, .ref (ad 19), .int r1, .ref (ad 12)]) C C.2.2.2.2.2 (n_X2_wordAt l D ad cy tl A r1) (cwV 1 C.2.2.2.2.1 gw_RX4_25 rfl rfl rfl cd_X2_wordAt ⟨Nat.le_of_ble_eq_true rfl, Nat.le_of_ble_eq_true rfl⟩) (hc_12 C) rfl rfl (Nat.le_of_ble_eq_true rfl) ⟨Nat.le_of_ble_eq_true rfl, Nat.le_of_ble_eq_true rfl⟩ dX4_doOneOperand_107 (fun r3 => ?_)
    refine zcallVi (pc := 110) (st := [.int r1, .ref (ad 12)]) C C.2.2.2.2.2 (n_X4_changed l D ad cy tl A z2 r3) (cwV 2 C.2.2.2.2.1 gw_RX4_158 rfl rfl rfl cd_X4_changed ⟨Nat.le_of_ble_eq_true rfl, Nat.le_of_ble_eq_true rfl⟩) (hc_19 C) rfl rfl (Nat.le_of_ble_eq_true rfl) ⟨Nat.le_of_ble_eq_true rfl, Nat.le_of_ble_eq_true rfl⟩ dX4_doOneOperand_110 (fun r4 => ?_)
    refine zcallVv (pc := 113) (st := []) C C.2.2.2.2.2 (n_X2_putWord l D ad cy tl A r1 r4) (cwV 2 C.2.2.2.2.1 gw_RX4_131 rfl rfl rfl cd_X2_putWord ⟨Nat.le_of_ble_eq_true rfl, Nat.le_of_ble_eq_true rfl⟩) (hc_12 C) rfl rfl (Nat.le_of_ble_eq_true rfl) ⟨Nat.le_of_ble_eq_true rfl, Nat.le_of_ble_eq_true rfl⟩ dX4_doOneOperand_113 ?_
    exact g_sub [2, 3, 1, 0] rfl (J116 r1 z2 hz2)
  · refine g_aload_n (pc := 48) C dX4_doOneOperand_48 rfl 2 rfl ?_
    refine g_iload_n (pc := 49) C dX4_doOneOperand_49 rfl 1 rfl ?_
    refine zcallVv (pc := 50) (st := []) C C.2.2.2.2.2 (n_X4_enter l D ad cy tl A r1) (cwV 1 C.2.2.2.2.1 gw_RX4_59 rfl rfl rfl cd_X4_enter ⟨Nat.le_of_ble_eq_true rfl, Nat.le_of_ble_eq_true rfl⟩) (hc_19 C) rfl rfl (Nat.le_of_ble_eq_true rfl) ⟨Nat.le_of_ble_eq_true rfl, Nat.le_of_ble_eq_true rfl⟩ dX4_doOneOperand_50 ?_
    refine g_goto (pc := 53) C 116 dX4_doOneOperand_53 (by decide) ?_
    exact g_sub [2, 3, 1, 0] rfl (J116 r1 z2 hz2)
  · refine g_aload_n (pc := 56) C dX4_doOneOperand_56 rfl 2 rfl ?_
    refine g_iload_n (pc := 57) C dX4_doOneOperand_57 rfl 1 rfl ?_
    refine g_ldc (pc := 58) C dX4_doOneOperand_58 (C.wd wk_384) ?_
    refine g_iand (pc := 60) C dX4_doOneOperand_60 (fun z5 ez5 => ?_)
    have hz5 : zI 0 65534 z5 := zi_and1 (zi_c 65534 (a := 0) (b := 65534) (by decide)) ez5
    refine pc_19_3 (pc := 61) C wk_222 dX4_doOneOperand_61 ?_
    refine g_goto (pc := 64) C 116 dX4_doOneOperand_64 (by decide) ?_
    exact g_sub [2, 3, 1, 0] rfl (J116 r1 z2 hz2)
  · refine g_aload_n (pc := 67) C dX4_doOneOperand_67 rfl 2 rfl ?_
    refine gc_19_0 (pc := 68) C wk_219 dX4_doOneOperand_68 ?_
    refine g_aload_n (pc := 71) C dX4_doOneOperand_71 rfl 2 rfl ?_
    refine g_bipush (pc := 72) C 11 dX4_doOneOperand_72 (by decide) ?_
    refine zcallVi (pc := 74) (st := [.ref (ad 12)]) C C.2.2.2.2.2 (n_X4_registerAddress l D ad cy tl A 11) (cwV 1 C.2.2.2.2.1 gw_RX4_128 rfl rfl rfl cd_X4_registerAddress ⟨Nat.le_of_ble_eq_true rfl, Nat.le_of_ble_eq_true rfl⟩) (hc_19 C) rfl rfl (Nat.le_of_ble_eq_true rfl) ⟨Nat.le_of_ble_eq_true rfl, Nat.le_of_ble_eq_true rfl⟩ dX4_doOneOperand_74 (fun r6 => ?_)
    refine g_aload_n (pc := 77) C dX4_doOneOperand_77 rfl 2 rfl ?_
    refine gc_19_3 (pc := 78) C wk_222 dX4_doOneOperand_78 (fun z7 => ?_)
    refine zcallVv (pc := 81) (st := []) C C.2.2.2.2.2 (n_X2_putWord l D ad cy tl A r6 z7) (cwV 2 C.2.2.2.2.1 gw_RX4_131 rfl rfl rfl cd_X2_putWord ⟨Nat.le_of_ble_eq_true rfl, Nat.le_of_ble_eq_true rfl⟩) (hc_12 C) rfl rfl (Nat.le_of_ble_eq_true rfl) ⟨Nat.le_of_ble_eq_true rfl, Nat.le_of_ble_eq_true rfl⟩ dX4_doOneOperand_81 ?_
    refine g_aload_n (pc := 84) C dX4_doOneOperand_84 rfl 2 rfl ?_
    refine g_iload_n (pc := 85) C dX4_doOneOperand_85 rfl 1 rfl ?_
    refine g_ldc (pc := 86) C dX4_doOneOperand_86 (C.wd wk_384) ?_
    refine g_iand (pc := 88) C dX4_doOneOperand_88 (fun z8 ez8 => ?_)
    have hz8 : zI 0 65534 z8 := zi_and1 (zi_c 65534 (a := 0) (b := 65534) (by decide)) ez8
    refine pc_19_3 (pc := 89) C wk_222 dX4_doOneOperand_89 ?_
    refine g_goto (pc := 92) C 116 dX4_doOneOperand_92 (by decide) ?_
    exact g_sub [2, 3, 1, 0] rfl (J116 r1 z2 hz2)

set_option maxHeartbeats 2000000 in
set_option maxRecDepth 100000 in
theorem n_X4_shifted (l : Launch) (D : va_G) (ad : Nat → Nat) (cy : Nat → ClassId) (tl : Int32) (A : Nat → Prop) (p0 : Int32) (p1 : Int32) : zMi l yX4_shifted wz_X4_shifted ({ frames := 0, cells := 0, slots := 0, locals := 0 }) [.int p0, .int p1] D (zTc cy) A (zMc D A ad cy tl) (fun _ => (zMc D A ad cy tl)) := by
  refine zstart_i (cc := cX4_shifted) (maxL := 2) (ty := .int) (own := RX4) (by decide) rfl rfl (Nat.le_of_ble_eq_true rfl) (fun p e s m args below meth c Q C r => ?_)
  refine g_sub (lv' := [(0, .int p0), (1, .int p1)]) [0, 1] rfl ?_
  refine g_iload_n (pc := 0) C dX4_shifted_0 rfl 0 rfl ?_
  refine g_lookup (pc := 1) C [56, 36, 45, 49] dX4_shifted_1 (by decide) (by decide) (List.forall_mem_cons.mpr ⟨?_, (List.forall_mem_cons.mpr ⟨?_, (List.forall_mem_cons.mpr ⟨?_, (List.forall_mem_cons.mpr ⟨?_, fun _ h => absurd h List.not_mem_nil⟩)⟩)⟩)⟩)
  · refine g_iload_n (pc := 56) C dX4_shifted_56 rfl 1 rfl ?_
    refine g_iconst (pc := 57) C 1 dX4_shifted_57 (by decide) ?_
    refine g_ishr (pc := 58) C dX4_shifted_58 (fun z1 ez1 => ?_)
    refine g_iload_n (pc := 59) C dX4_shifted_59 rfl 1 rfl ?_
    refine g_iconst (pc := 60) C 1 dX4_shifted_60 (by decide) ?_
    refine g_iand (pc := 61) C dX4_shifted_61 (fun z2 ez2 => ?_)
    have hz2 : zI 0 1 z2 := zi_and1 (zi_c 1 (a := 0) (b := 1) (by decide)) ez2
    refine g_bipush (pc := 62) C 15 dX4_shifted_62 (by decide) ?_
    refine g_ishl (pc := 64) C dX4_shifted_64 (fun z3 ez3 => ?_)
    refine g_ior (pc := 65) C dX4_shifted_65 (fun z4 ez4 => ?_)
    exact g_ireturn r dX4_shifted_66 rfl (fun _ h => h)
  · refine g_iload_n (pc := 36) C dX4_shifted_36 rfl 1 rfl ?_
    refine g_iconst (pc := 37) C 1 dX4_shifted_37 (by decide) ?_
    refine g_ishr (pc := 38) C dX4_shifted_38 (fun z5 ez5 => ?_)
    refine g_iload_n (pc := 39) C dX4_shifted_39 rfl 1 rfl ?_
    refine g_ldc (pc := 40) C dX4_shifted_40 (C.wd wk_571) ?_
    refine g_iand (pc := 42) C dX4_shifted_42 (fun z6 ez6 => ?_)
    have hz6 : zI 0 32768 z6 := zi_and1 (zi_c 32768 (a := 0) (b := 32768) (by decide)) ez6
    refine g_ior (pc := 43) C dX4_shifted_43 (fun z7 ez7 => ?_)
    exact g_ireturn r dX4_shifted_44 rfl (fun _ h => h)
  · refine g_iload_n (pc := 45) C dX4_shifted_45 rfl 1 rfl ?_
    refine g_iconst (pc := 46) C 1 dX4_shifted_46 (by decide) ?_
    refine g_ishr (pc := 47) C dX4_shifted_47 (fun z8 ez8 => ?_)
    exact g_ireturn r dX4_shifted_48 rfl (fun _ h => h)
  · refine g_iload_n (pc := 49) C dX4_shifted_49 rfl 1 rfl ?_
    refine g_iconst (pc := 50) C 1 dX4_shifted_50 (by decide) ?_
    refine g_ishl (pc := 51) C dX4_shifted_51 (fun z9 ez9 => ?_)
    refine g_ldc (pc := 52) C dX4_shifted_52 (C.wd wk_538) ?_
    refine g_iand (pc := 54) C dX4_shifted_54 (fun z10 ez10 => ?_)
    have hz10 : zI 0 65535 z10 := zi_and1 (zi_c 65535 (a := 0) (b := 65535) (by decide)) ez10
    exact g_ireturn r dX4_shifted_55 rfl (fun _ h => h)

set_option maxHeartbeats 2000000 in
set_option maxRecDepth 100000 in
theorem n_X4_doShift (l : Launch) (D : va_G) (ad : Nat → Nat) (cy : Nat → ClassId) (tl : Int32) (A : Nat → Prop) (p0 : Int32) : zMv l yX4_doShift wz_X4_doShift ({ frames := 4, cells := 0, slots := 0, locals := 95 }) [.ref (ad 19), .int p0] D (zTc cy) A (zMc D A ad cy tl) (zMc D A ad cy tl) := by
  refine zstart_v (cc := cX4_doShift) (maxL := 10) (own := RX4) (by decide) rfl rfl (Nat.le_of_ble_eq_true rfl) (fun p e s m args below meth c Q C r => ?_)
  have J180 : ∀ (a2_180 : Int32) (a3_180 : Int32) (a4_180 : Int32) (a5_180 : Int32) (a6_180 : Int32) (a7_180 : Int32) (a8_180 : Int32) (_ : zI 0 65280 a2_180) (_ : zI 1 16 a5_180) (_ : zI 1 16 a8_180), zG p l e ({ frames := 4, cells := 0, slots := 0, locals := 95 }) s m args below meth c 10 0 0 A Q (zMc D A ad cy tl) 180 [(0, .ref (ad 19)), (1, .int p0), (2, .int a2_180), (3, .int a3_180), (4, .int a4_180), (5, .int a5_180), (6, .int a6_180), (7, .int a7_180), (8, .int a8_180)] [] := by
    intro a2_180 a3_180 a4_180 a5_180 a6_180 a7_180 a8_180 ha2_180 ha5_180 ha8_180
    refine g_aload_n (pc := 180) C dX4_doShift_180 rfl 0 rfl ?_
    refine gc_19_0 (pc := 181) C wk_219 dX4_doShift_181 ?_
    refine g_iload_n (pc := 184) C dX4_doShift_184 rfl 3 rfl ?_
    refine g_iload (pc := 185) C dX4_doShift_185 4 rfl ?_
    refine zcallVv (pc := 187) (st := []) C C.2.2.2.2.2 (n_X2_putWord l D ad cy tl A a3_180 a4_180) (cwV 2 C.2.2.2.2.1 gw_RX4_131 rfl rfl rfl cd_X2_putWord ⟨Nat.le_of_ble_eq_true rfl, Nat.le_of_ble_eq_true rfl⟩) (hc_12 C) rfl rfl (Nat.le_of_ble_eq_true rfl) ⟨Nat.le_of_ble_eq_true rfl, Nat.le_of_ble_eq_true rfl⟩ dX4_doShift_187 ?_
    exact g_return r dX4_doShift_190 (fun _ h => h)
  have J161 : ∀ (a2_161 : Int32) (a3_161 : Int32) (a4_161 : Int32) (a5_161 : Int32) (a6_161 : Int32) (a7_161 : Int32) (a8_161 : Int32) (b0_161 : Int32) (_ : zI 0 65280 a2_161) (_ : zI 1 16 a5_161) (_ : zI 1 16 a8_161) (_ : zI 0 1 b0_161), zG p l e ({ frames := 4, cells := 0, slots := 0, locals := 95 }) s m args below meth c 10 0 0 A Q (zMc D A ad cy tl) 161 [(0, .ref (ad 19)), (1, .int p0), (2, .int a2_161), (3, .int a3_161), (4, .int a4_161), (5, .int a5_161), (6, .int a6_161), (7, .int a7_161), (8, .int a8_161)] [.int b0_161, .int 4096, .ref (ad 19)] := by
    intro a2_161 a3_161 a4_161 a5_161 a6_161 a7_161 a8_161 b0_161 ha2_161 ha5_161 ha8_161 hb0_161
    refine zcallVv (pc := 161) (st := []) C C.2.2.2.2.2 (n_X4_flag l D ad cy tl A 4096 b0_161) (cwV 2 C.2.2.2.2.1 gw_RX4_136 rfl rfl rfl cd_X4_flag ⟨Nat.le_of_ble_eq_true rfl, Nat.le_of_ble_eq_true rfl⟩) (hc_19 C) rfl rfl (Nat.le_of_ble_eq_true rfl) ⟨Nat.le_of_ble_eq_true rfl, Nat.le_of_ble_eq_true rfl⟩ dX4_doShift_161 ?_
    refine g_iload_n (pc := 164) C dX4_doShift_164 rfl 2 rfl ?_
    refine g_sipush (pc := 165) C 2560 dX4_doShift_165 (by decide) ?_
    refine g_icmp_ne (pc := 168) C 180 dX4_doShift_168 (by decide) (fun c1 => ?_) (fun c1 => ?_)
    · exact g_sub [0, 1, 2, 3, 4, 5, 6, 7, 8] rfl (J180 a2_161 a3_161 a4_161 a5_161 a6_161 a7_161 a8_161 ha2_161 ha5_161 ha8_161)
    · have h2 : zI 2560 2560 a2_161 := zr_eq c1 ha2_161 (zi_c 2560 (a := 2560) (b := 2560) (by decide)) (by decide)
      refine g_aload_n (pc := 171) C dX4_doShift_171 rfl 0 rfl ?_
      refine g_sipush (pc := 172) C 2048 dX4_doShift_172 (by decide) ?_
      refine g_iload (pc := 175) C dX4_doShift_175 6 rfl ?_
      refine zcallVv (pc := 177) (st := []) C C.2.2.2.2.2 (n_X4_flag l D ad cy tl A 2048 a6_161) (cwV 2 C.2.2.2.2.1 gw_RX4_136 rfl rfl rfl cd_X4_flag ⟨Nat.le_of_ble_eq_true rfl, Nat.le_of_ble_eq_true rfl⟩) (hc_19 C) rfl rfl (Nat.le_of_ble_eq_true rfl) ⟨Nat.le_of_ble_eq_true rfl, Nat.le_of_ble_eq_true rfl⟩ dX4_doShift_177 ?_
      exact g_sub [0, 1, 2, 3, 4, 5, 6, 7, 8] rfl (J180 a2_161 a3_161 a4_161 a5_161 a6_161 a7_161 a8_161 (zi_w h2 (a' := 0) (b' := 65280) (by decide)) ha5_161 ha8_161)
  have J71 : ∀ (n : Nat) (a2_71 : Int32) (a3_71 : Int32) (a4_71 : Int32) (a5_71 : Int32) (a6_71 : Int32) (a7_71 : Int32) (a8_71 : Int32) (_ : zI 0 65280 a2_71) (_ : zI 1 16 a5_71) (_ : zI 0 16 a8_71) (_ : (16 - (a8_71 : Int32).toInt).toNat = n), zG p l e ({ frames := 4, cells := 0, slots := 0, locals := 95 }) s m args below meth c 10 0 0 A Q (zMc D A ad cy tl) 71 [(0, .ref (ad 19)), (1, .int p0), (2, .int a2_71), (3, .int a3_71), (4, .int a4_71), (5, .int a5_71), (6, .int a6_71), (7, .int a7_71), (8, .int a8_71)] [] := by
    intro n
    induction n using Nat.strongRecOn with
    | ind n ih =>
      intro a2_71 a3_71 a4_71 a5_71 a6_71 a7_71 a8_71 ha2_71 ha5_71 ha8_71 hn
      have J125 : ∀ (a7_125 : Int32) (a9_125 : Int32) (b0_125 : Int32) (_ : zI 0 15 a8_71) (_ : zI 0 1 b0_125), zG p l e ({ frames := 4, cells := 0, slots := 0, locals := 95 }) s m args below meth c 10 0 0 A Q (zMc D A ad cy tl) 125 [(0, .ref (ad 19)), (1, .int p0), (2, .int a2_71), (3, .int a3_71), (4, .int a4_71), (5, .int a5_71), (6, .int a6_71), (7, .int a7_125), (8, .int a8_71), (9, .int a9_125)] [.int b0_125, .int a6_71] := by
        intro a7_125 a9_125 b0_125 hc_a8_125 hb0_125
        refine g_ior (pc := 125) C dX4_doShift_125 (fun z3 ez3 => ?_)
        refine g_istore (pc := 126) C ([(6, .int z3), (0, .ref (ad 19)), (1, .int p0), (2, .int a2_71), (3, .int a3_71), (4, .int a4_71), (5, .int a5_71), (7, .int a7_125), (8, .int a8_71), (9, .int a9_125)]) dX4_doShift_126 (Nat.le_of_ble_eq_true rfl) rfl ?_
        refine g_iload (pc := 128) C dX4_doShift_128 9 rfl ?_
        refine g_istore (pc := 130) C ([(4, .int a9_125), (6, .int z3), (0, .ref (ad 19)), (1, .int p0), (2, .int a2_71), (3, .int a3_71), (5, .int a5_71), (7, .int a7_125), (8, .int a8_71), (9, .int a9_125)]) dX4_doShift_130 (Nat.le_of_ble_eq_true rfl) rfl ?_
        obtain ⟨z4, ez4⟩ : ∃ z : Int32, z = a8_71 + 1 := ⟨_, rfl⟩
        have hz4 : zI 1 16 z4 := zi_add hc_a8_125 (zi_c 1 (a := 1) (b := 1) (by decide)) ez4 (by decide)
        refine g_iinc (pc := 132) C z4 ([(8, .int z4), (4, .int a9_125), (6, .int z3), (0, .ref (ad 19)), (1, .int p0), (2, .int a2_71), (3, .int a3_71), (5, .int a5_71), (7, .int a7_125), (9, .int a9_125)]) dX4_doShift_132 8 rfl (by rw [ez4]; rfl) (Nat.le_of_ble_eq_true rfl) rfl ?_
        refine g_goto (pc := 135) C 71 dX4_doShift_135 (by decide) ?_
        exact g_sub [3, 4, 5, 6, 1, 7, 2, 8, 0] rfl (ih (16 - (z4 : Int32).toInt).toNat (by rw [← hn]; exact zdec ez4 hc_a8_125 (by decide) (zi_w hz4 (a' := 0) (b' := 16) (by decide))) a2_71 a3_71 a9_125 a5_71 z3 a7_125 z4 ha2_71 ha5_71 (zi_w hz4 (a' := 0) (b' := 16) (by decide)) rfl)
      have J97 : ∀ (b0_97 : Int32) (_ : zI 0 15 a8_71), zG p l e ({ frames := 4, cells := 0, slots := 0, locals := 95 }) s m args below meth c 10 0 0 A Q (zMc D A ad cy tl) 97 [(0, .ref (ad 19)), (1, .int p0), (2, .int a2_71), (3, .int a3_71), (4, .int a4_71), (5, .int a5_71), (6, .int a6_71), (7, .int a7_71), (8, .int a8_71)] [.int b0_97] := by
        intro b0_97 hc_a8_97
        refine g_istore (pc := 97) C ([(7, .int b0_97), (0, .ref (ad 19)), (1, .int p0), (2, .int a2_71), (3, .int a3_71), (4, .int a4_71), (5, .int a5_71), (6, .int a6_71), (8, .int a8_71)]) dX4_doShift_97 (Nat.le_of_ble_eq_true rfl) rfl ?_
        refine g_iload_n (pc := 99) C dX4_doShift_99 rfl 3 rfl ?_
        refine g_iload (pc := 100) C dX4_doShift_100 5 rfl ?_
        refine zcallSi (pc := 102) (st := []) C C.2.2.2.2.2 (n_X4_shifted l D ad cy tl A a2_71 a4_71) (va_cwS 2 C.2.2.2.2.1 gw_RX4_172 rfl rfl rfl cs_X4_shifted ⟨Nat.le_of_ble_eq_true rfl, Nat.le_of_ble_eq_true rfl⟩) rfl rfl (Nat.le_of_ble_eq_true rfl) ⟨Nat.le_of_ble_eq_true rfl, Nat.le_of_ble_eq_true rfl⟩ dX4_doShift_102 (fun r5 => ?_)
        refine g_istore (pc := 105) C ([(9, .int r5), (7, .int b0_97), (0, .ref (ad 19)), (1, .int p0), (2, .int a2_71), (3, .int a3_71), (4, .int a4_71), (5, .int a5_71), (6, .int a6_71), (8, .int a8_71)]) dX4_doShift_105 (Nat.le_of_ble_eq_true rfl) rfl ?_
        refine g_iload (pc := 107) C dX4_doShift_107 8 rfl ?_
        refine g_iload (pc := 109) C dX4_doShift_109 0 rfl ?_
        refine g_iload (pc := 111) C dX4_doShift_111 6 rfl ?_
        refine g_ixor (pc := 113) C dX4_doShift_113 (fun z6 ez6 => ?_)
        refine g_ldc (pc := 114) C dX4_doShift_114 (C.wd wk_571) ?_
        refine g_iand (pc := 116) C dX4_doShift_116 (fun z7 ez7 => ?_)
        have hz7 : zI 0 32768 z7 := zi_and1 (zi_c 32768 (a := 0) (b := 32768) (by decide)) ez7
        refine g_if_eq (pc := 117) C 124 dX4_doShift_117 (by decide) (fun c8 => ?_) (fun c8 => ?_)
        · have h9 : zI 0 0 z7 := zr_eq c8 hz7 (zi_c 0 (a := 0) (b := 0) (by decide)) (by decide)
          refine g_iconst (pc := 124) C 0 dX4_doShift_124 (by decide) ?_
          exact g_sub [2, 3, 4, 5, 6, 7, 8, 1, 9, 0] rfl (J125 b0_97 r5 0 hc_a8_97 (zi_c 0 (a := 0) (b := 1) (by decide)))
        · have h10 : zI 1 32768 z7 := zr_neL c8 hz7 (zi_c 0 (a := 0) (b := 0) (by decide)) (by decide)
          refine g_iconst (pc := 120) C 1 dX4_doShift_120 (by decide) ?_
          refine g_goto (pc := 121) C 125 dX4_doShift_121 (by decide) ?_
          exact g_sub [2, 3, 4, 5, 6, 7, 8, 1, 9, 0] rfl (J125 b0_97 r5 1 hc_a8_97 (zi_c 1 (a := 0) (b := 1) (by decide)))
      refine g_iload (pc := 71) C dX4_doShift_71 8 rfl ?_
      refine g_iload (pc := 73) C dX4_doShift_73 5 rfl ?_
      refine g_icmp_ge (pc := 75) C 138 dX4_doShift_75 (by decide) (fun c11 => ?_) (fun c11 => ?_)
      · have h12 : zI 1 16 a8_71 := zr_le2 (zc_le c11) ha5_71 ha8_71 (by decide)
        refine g_aload_n (pc := 138) C dX4_doShift_138 rfl 0 rfl ?_
        refine g_iload (pc := 139) C dX4_doShift_139 4 rfl ?_
        refine g_iconst (pc := 141) C 0 dX4_doShift_141 (by decide) ?_
        refine g_iconst (pc := 142) C 0 dX4_doShift_142 (by decide) ?_
        refine zcallVv (pc := 143) (st := []) C C.2.2.2.2.2 (n_X4_compare l D ad cy tl A a4_71 0 0) (cwV 3 C.2.2.2.2.1 gw_RX4_145 rfl rfl rfl cd_X4_compare ⟨Nat.le_of_ble_eq_true rfl, Nat.le_of_ble_eq_true rfl⟩) (hc_19 C) rfl rfl (Nat.le_of_ble_eq_true rfl) ⟨Nat.le_of_ble_eq_true rfl, Nat.le_of_ble_eq_true rfl⟩ dX4_doShift_143 ?_
        refine g_aload_n (pc := 146) C dX4_doShift_146 rfl 0 rfl ?_
        refine g_sipush (pc := 147) C 4096 dX4_doShift_147 (by decide) ?_
        refine g_iload (pc := 150) C dX4_doShift_150 7 rfl ?_
        refine g_iconst (pc := 152) C 1 dX4_doShift_152 (by decide) ?_
        refine g_icmp_ne (pc := 153) C 160 dX4_doShift_153 (by decide) (fun c13 => ?_) (fun c13 => ?_)
        · refine g_iconst (pc := 160) C 0 dX4_doShift_160 (by decide) ?_
          exact g_sub [0, 1, 2, 3, 4, 5, 6, 7, 8] rfl (J161 a2_71 a3_71 a4_71 a5_71 a6_71 a7_71 a8_71 0 ha2_71 ha5_71 h12 (zi_c 0 (a := 0) (b := 1) (by decide)))
        · have h14 : zI 1 1 a7_71 := zr_eq c13 (zi_full a7_71) (zi_c 1 (a := 1) (b := 1) (by decide)) (by decide)
          refine g_iconst (pc := 156) C 1 dX4_doShift_156 (by decide) ?_
          refine g_goto (pc := 157) C 161 dX4_doShift_157 (by decide) ?_
          exact g_sub [0, 1, 2, 3, 4, 5, 6, 7, 8] rfl (J161 a2_71 a3_71 a4_71 a5_71 a6_71 a7_71 a8_71 1 ha2_71 ha5_71 h12 (zi_c 1 (a := 0) (b := 1) (by decide)))
      · have h15 : zI 0 15 a8_71 := zr_lt1 (zc_nle c11) ha8_71 ha5_71 (by decide)
        refine g_iload_n (pc := 78) C dX4_doShift_78 rfl 2 rfl ?_
        refine g_sipush (pc := 79) C 2560 dX4_doShift_79 (by decide) ?_
        refine g_icmp_ne (pc := 82) C 93 dX4_doShift_82 (by decide) (fun c16 => ?_) (fun c16 => ?_)
        · refine g_iload (pc := 93) C dX4_doShift_93 4 rfl ?_
          refine g_iconst (pc := 95) C 1 dX4_doShift_95 (by decide) ?_
          refine g_iand (pc := 96) C dX4_doShift_96 (fun z17 ez17 => ?_)
          have hz17 : zI 0 1 z17 := zi_and1 (zi_c 1 (a := 0) (b := 1) (by decide)) ez17
          exact g_sub [0, 1, 2, 3, 4, 5, 6, 7, 8] rfl (J97 z17 h15)
        · have h18 : zI 2560 2560 a2_71 := zr_eq c16 ha2_71 (zi_c 2560 (a := 2560) (b := 2560) (by decide)) (by decide)
          refine g_iload (pc := 85) C dX4_doShift_85 4 rfl ?_
          refine g_bipush (pc := 87) C 15 dX4_doShift_87 (by decide) ?_
          refine g_ishr (pc := 89) C dX4_doShift_89 (fun z19 ez19 => ?_)
          refine g_goto (pc := 90) C 97 dX4_doShift_90 (by decide) ?_
          exact g_sub [0, 1, 2, 3, 4, 5, 6, 7, 8] rfl (J97 z19 h15)
  have J62 : ∀ (a2_62 : Int32) (a3_62 : Int32) (a4_62 : Int32) (a5_62 : Int32) (_ : zI 0 65280 a2_62) (_ : zI 1 16 a5_62), zG p l e ({ frames := 4, cells := 0, slots := 0, locals := 95 }) s m args below meth c 10 0 0 A Q (zMc D A ad cy tl) 62 [(0, .ref (ad 19)), (1, .int p0), (2, .int a2_62), (3, .int a3_62), (4, .int a4_62), (5, .int a5_62)] [] := by
    intro a2_62 a3_62 a4_62 a5_62 ha2_62 ha5_62
    refine g_iconst (pc := 62) C 0 dX4_doShift_62 (by decide) ?_
    refine g_istore (pc := 63) C ([(6, .int 0), (0, .ref (ad 19)), (1, .int p0), (2, .int a2_62), (3, .int a3_62), (4, .int a4_62), (5, .int a5_62)]) dX4_doShift_63 (Nat.le_of_ble_eq_true rfl) rfl ?_
    refine g_iconst (pc := 65) C 0 dX4_doShift_65 (by decide) ?_
    refine g_istore (pc := 66) C ([(7, .int 0), (6, .int 0), (0, .ref (ad 19)), (1, .int p0), (2, .int a2_62), (3, .int a3_62), (4, .int a4_62), (5, .int a5_62)]) dX4_doShift_66 (Nat.le_of_ble_eq_true rfl) rfl ?_
    refine g_iconst (pc := 68) C 0 dX4_doShift_68 (by decide) ?_
    refine g_istore (pc := 69) C ([(8, .int 0), (7, .int 0), (6, .int 0), (0, .ref (ad 19)), (1, .int p0), (2, .int a2_62), (3, .int a3_62), (4, .int a4_62), (5, .int a5_62)]) dX4_doShift_69 (Nat.le_of_ble_eq_true rfl) rfl ?_
    exact g_sub [3, 4, 5, 6, 7, 8, 2, 1, 0] rfl (J71 (16 - (0 : Int32).toInt).toNat a2_62 a3_62 a4_62 a5_62 0 0 0 ha2_62 ha5_62 (zi_c 0 (a := 0) (b := 16) (by decide)) rfl)
  have J53 : ∀ (a2_53 : Int32) (a3_53 : Int32) (a4_53 : Int32) (a5_53 : Int32) (_ : zI 0 65280 a2_53) (_ : zI 0 15 a5_53), zG p l e ({ frames := 4, cells := 0, slots := 0, locals := 95 }) s m args below meth c 10 0 0 A Q (zMc D A ad cy tl) 53 [(0, .ref (ad 19)), (1, .int p0), (2, .int a2_53), (3, .int a3_53), (4, .int a4_53), (5, .int a5_53)] [] := by
    intro a2_53 a3_53 a4_53 a5_53 ha2_53 ha5_53
    refine g_iload (pc := 53) C dX4_doShift_53 5 rfl ?_
    refine g_if_ne (pc := 55) C 62 dX4_doShift_55 (by decide) (fun c20 => ?_) (fun c20 => ?_)
    · have h21 : zI 1 15 a5_53 := zr_neL c20 ha5_53 (zi_c 0 (a := 0) (b := 0) (by decide)) (by decide)
      exact g_sub [0, 1, 2, 3, 4, 5] rfl (J62 a2_53 a3_53 a4_53 a5_53 ha2_53 (zi_w h21 (a' := 1) (b' := 16) (by decide)))
    · have h22 : zI 0 0 a5_53 := zr_eq c20 ha5_53 (zi_c 0 (a := 0) (b := 0) (by decide)) (by decide)
      refine g_bipush (pc := 58) C 16 dX4_doShift_58 (by decide) ?_
      refine g_istore (pc := 60) C ([(5, .int 16), (0, .ref (ad 19)), (1, .int p0), (2, .int a2_53), (3, .int a3_53), (4, .int a4_53)]) dX4_doShift_60 (Nat.le_of_ble_eq_true rfl) rfl ?_
      exact g_sub [1, 2, 3, 4, 5, 0] rfl (J62 a2_53 a3_53 a4_53 16 ha2_53 (zi_c 16 (a := 1) (b := 16) (by decide)))
  refine g_sub (lv' := [(0, .ref (ad 19)), (1, .int p0)]) [0, 1] rfl ?_
  refine g_iload_n (pc := 0) C dX4_doShift_0 rfl 1 rfl ?_
  refine g_ldc (pc := 1) C dX4_doShift_1 (C.wd wk_603) ?_
  refine g_iand (pc := 3) C dX4_doShift_3 (fun z23 ez23 => ?_)
  have hz23 : zI 0 65280 z23 := zi_and1 (zi_c 65280 (a := 0) (b := 65280) (by decide)) ez23
  refine g_istore_n (pc := 4) C ([(2, .int z23), (0, .ref (ad 19)), (1, .int p0)]) dX4_doShift_4 rfl (Nat.le_of_ble_eq_true rfl) rfl ?_
  refine g_aload_n (pc := 5) C dX4_doShift_5 rfl 1 rfl ?_
  refine g_iload_n (pc := 6) C dX4_doShift_6 rfl 2 rfl ?_
  refine g_bipush (pc := 7) C 15 dX4_doShift_7 (by decide) ?_
  refine g_iand (pc := 9) C dX4_doShift_9 (fun z24 ez24 => ?_)
  have hz24 : zI 0 15 z24 := zi_and1 (zi_c 15 (a := 0) (b := 15) (by decide)) ez24
  refine zcallVi (pc := 10) (st := []) C C.2.2.2.2.2 (n_X4_registerAddress l D ad cy tl A z24) (cwV 1 C.2.2.2.2.1 gw_RX4_128 rfl rfl rfl cd_X4_registerAddress ⟨Nat.le_of_ble_eq_true rfl, Nat.le_of_ble_eq_true rfl⟩) (hc_19 C) rfl rfl (Nat.le_of_ble_eq_true rfl) ⟨Nat.le_of_ble_eq_true rfl, Nat.le_of_ble_eq_true rfl⟩ dX4_doShift_10 (fun r25 => ?_)
  refine g_istore_n (pc := 13) C ([(3, .int r25), (2, .int z23), (0, .ref (ad 19)), (1, .int p0)]) dX4_doShift_13 rfl (Nat.le_of_ble_eq_true rfl) rfl ?_
  refine g_aload_n (pc := 14) C dX4_doShift_14 rfl 2 rfl ?_
  refine gc_19_0 (pc := 15) C wk_219 dX4_doShift_15 ?_
  refine g_iload_n (pc := 18) C dX4_doShift_18 rfl 0 rfl ?_
  refine zcallVi (pc := 19) (st := []) C C.2.2.2.2.2 (n_X2_wordAt l D ad cy tl A r25) (cwV 1 C.2.2.2.2.1 gw_RX4_25 rfl rfl rfl cd_X2_wordAt ⟨Nat.le_of_ble_eq_true rfl, Nat.le_of_ble_eq_true rfl⟩) (hc_12 C) rfl rfl (Nat.le_of_ble_eq_true rfl) ⟨Nat.le_of_ble_eq_true rfl, Nat.le_of_ble_eq_true rfl⟩ dX4_doShift_19 (fun r26 => ?_)
  refine g_istore (pc := 22) C ([(4, .int r26), (3, .int r25), (2, .int z23), (0, .ref (ad 19)), (1, .int p0)]) dX4_doShift_22 (Nat.le_of_ble_eq_true rfl) rfl ?_
  refine g_iload_n (pc := 24) C dX4_doShift_24 rfl 4 rfl ?_
  refine g_iconst (pc := 25) C 4 dX4_doShift_25 (by decide) ?_
  refine g_ishr (pc := 26) C dX4_doShift_26 (fun z27 ez27 => ?_)
  refine g_bipush (pc := 27) C 15 dX4_doShift_27 (by decide) ?_
  refine g_iand (pc := 29) C dX4_doShift_29 (fun z28 ez28 => ?_)
  have hz28 : zI 0 15 z28 := zi_and1 (zi_c 15 (a := 0) (b := 15) (by decide)) ez28
  refine g_istore (pc := 30) C ([(5, .int z28), (4, .int r26), (3, .int r25), (2, .int z23), (0, .ref (ad 19)), (1, .int p0)]) dX4_doShift_30 (Nat.le_of_ble_eq_true rfl) rfl ?_
  refine g_iload (pc := 32) C dX4_doShift_32 0 rfl ?_
  refine g_if_ne (pc := 34) C 53 dX4_doShift_34 (by decide) (fun c29 => ?_) (fun c29 => ?_)
  · have h30 : zI 1 15 z28 := zr_neL c29 hz28 (zi_c 0 (a := 0) (b := 0) (by decide)) (by decide)
    exact g_sub [4, 5, 3, 2, 1, 0] rfl (J53 z23 r25 r26 z28 hz23 (zi_w h30 (a' := 0) (b' := 15) (by decide)))
  · have h31 : zI 0 0 z28 := zr_eq c29 hz28 (zi_c 0 (a := 0) (b := 0) (by decide)) (by decide)
    refine g_aload_n (pc := 37) C dX4_doShift_37 rfl 4 rfl ?_
    refine gc_19_0 (pc := 38) C wk_219 dX4_doShift_38 ?_
    refine g_aload_n (pc := 41) C dX4_doShift_41 rfl 4 rfl ?_
    refine gc_19_4 (pc := 42) C wk_224 dX4_doShift_42 (fun z32 => ?_)
    refine zcallVi (pc := 45) (st := []) C C.2.2.2.2.2 (n_X2_wordAt l D ad cy tl A z32) (cwV 1 C.2.2.2.2.1 gw_RX4_25 rfl rfl rfl cd_X2_wordAt ⟨Nat.le_of_ble_eq_true rfl, Nat.le_of_ble_eq_true rfl⟩) (hc_12 C) rfl rfl (Nat.le_of_ble_eq_true rfl) ⟨Nat.le_of_ble_eq_true rfl, Nat.le_of_ble_eq_true rfl⟩ dX4_doShift_45 (fun r33 => ?_)
    refine g_bipush (pc := 48) C 15 dX4_doShift_48 (by decide) ?_
    refine g_iand (pc := 50) C dX4_doShift_50 (fun z34 ez34 => ?_)
    have hz34 : zI 0 15 z34 := zi_and1 (zi_c 15 (a := 0) (b := 15) (by decide)) ez34
    refine g_istore (pc := 51) C ([(5, .int z34), (4, .int r26), (3, .int r25), (2, .int z23), (0, .ref (ad 19)), (1, .int p0)]) dX4_doShift_51 (Nat.le_of_ble_eq_true rfl) rfl ?_
    exact g_sub [4, 5, 3, 2, 1, 0] rfl (J53 z23 r25 r26 z34 hz23 hz34)

