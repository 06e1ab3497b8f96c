set_option maxHeartbeats 2000000 in
set_option maxRecDepth 100000 in
theorem n_X7_in (l : Launch) (D : va_G) (ad : Nat → Nat) (cy : Nat → ClassId) (tl : Int32) (A : Nat → Prop) (p0 : Int32) (p1 : Int32) (p2 : Int32) (za zb : Int) (ha : p1.toInt = za) (hb : p2.toInt = zb) : zMi l yX7_in wz_X7_in ({ frames := 0, cells := 0, slots := 0, locals := 0 }) [.int p0, .int p1, .int p2] D (zTr cy) A (zMr D A ad cy tl) (fun r H => zin za zb p0 r ∧ (zMr D A ad cy tl) H) := by
  refine zstart_i (cc := cX7_in) (maxL := 3) (ty := .boolean) (own := RX7) (by decide) rfl rfl (Nat.le_of_ble_eq_true rfl) (fun p e s m args below meth c Q C r => ?_)
  refine g_sub (lv' := [(0, .int p0), (1, .int p1), (2, .int p2)]) [0, 1, 2] rfl ?_
  refine g_iload_n (pc := 0) C dX7_in_0 rfl 0 rfl ?_
  refine g_iload_n (pc := 1) C dX7_in_1 rfl 1 rfl ?_
  refine g_icmp_lt (pc := 2) C 14 dX7_in_2 (by decide) (fun c1 => ?_) (fun c1 => ?_)
  · have h2 : zI (-2147483648) 2147483646 p0 := zr_lt1 (zc_lt c1) (zi_full p0) (zi_full p1) (by decide)
    have h3 : zI (-2147483647) 2147483647 p1 := zr_lt2 (zc_lt c1) (zi_full p0) (zi_full p1) (by decide)
    refine g_iconst (pc := 14) C 0 dX7_in_14 (by decide) ?_
    have kc0 := (zc_lt c1)
    exact g_ireturn r dX7_in_15 rfl (fun _ h => ⟨Or.inr ⟨fun q => by have q1 := q.1; have q2 := q.2; omega, rfl⟩, h⟩)
  · refine g_iload_n (pc := 5) C dX7_in_5 rfl 0 rfl ?_
    refine g_iload_n (pc := 6) C dX7_in_6 rfl 2 rfl ?_
    refine g_icmp_gt (pc := 7) C 14 dX7_in_7 (by decide) (fun c4 => ?_) (fun c4 => ?_)
    · have h5 : zI (-2147483648) 2147483646 p2 := zr_lt1 (zc_lt c4) (zi_full p2) (zi_full p0) (by decide)
      have h6 : zI (-2147483647) 2147483647 p0 := zr_lt2 (zc_lt c4) (zi_full p2) (zi_full p0) (by decide)
      refine g_iconst (pc := 14) C 0 dX7_in_14 (by decide) ?_
      have kc0 := (zc_nlt c1)
      have kc1 := (zc_lt c4)
      exact g_ireturn r dX7_in_15 rfl (fun _ h => ⟨Or.inr ⟨fun q => by have q1 := q.1; have q2 := q.2; omega, rfl⟩, h⟩)
    · refine g_iconst (pc := 10) C 1 dX7_in_10 (by decide) ?_
      refine g_goto (pc := 11) C 15 dX7_in_11 (by decide) ?_
      have kc0 := (zc_nlt c1)
      have kc1 := (zc_nlt c4)
      exact g_ireturn r dX7_in_15 rfl (fun _ h => ⟨Or.inl ⟨⟨by omega, by omega⟩, rfl⟩, h⟩)

set_option maxHeartbeats 2000000 in
set_option maxRecDepth 100000 in
theorem n_X7_plain (l : Launch) (D : va_G) (ad : Nat → Nat) (cy : Nat → ClassId) (tl : Int32) (A : Nat → Prop) (p0 : Int32) (hp0 : zI 0 65535 p0) : zMi l yX7_plain wz_X7_plain ({ frames := 1, cells := 0, slots := 0, locals := 22 }) [.ref (ad 0), .int p0] D (zTr cy) A (zMr D A ad cy tl) (fun r H => zI 0 255 r ∧ (zMr D A ad cy tl) H) := by
  refine zstart_i (cc := cX7_plain) (maxL := 2) (ty := .int) (own := RX7) (by decide) rfl rfl (Nat.le_of_ble_eq_true rfl) (fun p e s m args below meth c Q C r => ?_)
  have J37 : ∀ (_ : zI 8192 65535 p0), zG p l e ({ frames := 1, cells := 0, slots := 0, locals := 22 }) s m args below meth c 2 0 0 A Q (zMr D A ad cy tl) 37 [(0, .ref (ad 0)), (1, .int p0)] [] := by
    intro hc_a1_37
    refine g_aload_n (pc := 37) C dX7_plain_37 rfl 0 rfl ?_
    refine gr_0_2 (pc := 38) C wk_695 dX7_plain_38 ?_
    refine g_iload_n (pc := 41) C dX7_plain_41 rfl 1 rfl ?_
    refine lr_2 (pc := 42) C (zi_in hc_a1_37 (by decide)) dX7_plain_42 (fun z1 => ?_)
    refine g_sipush (pc := 43) C 255 dX7_plain_43 (by decide) ?_
    refine g_iand (pc := 46) C dX7_plain_46 (fun z2 ez2 => ?_)
    have hz2 : zI 0 255 z2 := zi_and1 (zi_c 255 (a := 0) (b := 255) (by decide)) ez2
    exact g_ireturn r dX7_plain_47 rfl (fun _ h => ⟨hz2, h⟩)
  have J80 : ∀ (b0_80 : Int32) (_ : zI 8192 40959 p0) (_ : zI 0 255 b0_80), zG p l e ({ frames := 1, cells := 0, slots := 0, locals := 22 }) s m args below meth c 2 0 0 A Q (zMr D A ad cy tl) 80 [(0, .ref (ad 0)), (1, .int p0)] [.int b0_80] := by
    intro b0_80 hc_a1_80 hb0_80
    exact g_ireturn r dX7_plain_80 rfl (fun _ h => ⟨hb0_80, h⟩)
  refine g_sub (lv' := [(0, .ref (ad 0)), (1, .int p0)]) [0, 1] rfl ?_
  refine g_iload_n (pc := 0) C dX7_plain_0 rfl 1 rfl ?_
  refine g_sipush (pc := 1) C 8192 dX7_plain_1 (by decide) ?_
  refine g_icmp_ge (pc := 4) C 18 dX7_plain_4 (by decide) (fun c3 => ?_) (fun c3 => ?_)
  · have h4 : zI 8192 65535 p0 := zr_le2 (zc_le c3) (zi_c 8192 (a := 8192) (b := 8192) (by decide)) hp0 (by decide)
    refine g_iload_n (pc := 18) C dX7_plain_18 rfl 1 rfl ?_
    refine g_sipush (pc := 19) C 8192 dX7_plain_19 (by decide) ?_
    refine g_sipush (pc := 22) C 16383 dX7_plain_22 (by decide) ?_
    refine zcallSi (pc := 25) (st := []) C C.2.2.2.2.2 (n_X7_in l D ad cy tl A p0 8192 16383 8192 16383 (by decide) (by decide)) (va_cwS 3 C.2.2.2.2.1 gw_RX7_47 rfl rfl rfl cs_X7_in ⟨Nat.le_of_ble_eq_true rfl, Nat.le_of_ble_eq_true rfl⟩) rfl rfl (Nat.le_of_ble_eq_true rfl) ⟨Nat.le_of_ble_eq_true rfl, Nat.le_of_ble_eq_true rfl⟩ dX7_plain_25 (fun r5 => ?_)
    refine g_and (M2 := (zMr D A ad cy tl)) (fun hr5 => ?_)
    have kr5 := zin_01 hr5
    refine g_if_ne (pc := 28) C 37 dX7_plain_28 (by decide) (fun c6 => ?_) (fun c6 => ?_)
    · have h7 : zI 8192 16383 p0 := zin_1 hr5 c6
      have h8 : zI 1 1 r5 := zr_neL c6 kr5 (zi_c 0 (a := 0) (b := 0) (by decide)) (by decide)
      exact g_sub [0, 1] rfl (J37 (zi_w h7 (a' := 8192) (b' := 65535) (by decide)))
    · have h9 : zI 0 0 r5 := zr_eq c6 kr5 (zi_c 0 (a := 0) (b := 0) (by decide)) (by decide)
      refine g_iload_n (pc := 31) C dX7_plain_31 rfl 1 rfl ?_
      refine g_ldc (pc := 32) C dX7_plain_32 (C.wd wk_813) ?_
      refine g_icmp_lt (pc := 34) C 48 dX7_plain_34 (by decide) (fun c10 => ?_) (fun c10 => ?_)
      · have h11 : zI 8192 40959 p0 := zr_lt1 (zc_lt c10) h4 (zi_c 40960 (a := 40960) (b := 40960) (by decide)) (by decide)
        refine g_iload_n (pc := 48) C dX7_plain_48 rfl 1 rfl ?_
        refine g_ldc (pc := 49) C dX7_plain_49 (C.wd wk_814) ?_
        refine g_ldc (pc := 51) C dX7_plain_51 (C.wd wk_815) ?_
        refine zcallSi (pc := 53) (st := []) C C.2.2.2.2.2 (n_X7_in l D ad cy tl A p0 32768 33791 32768 33791 (by decide) (by decide)) (va_cwS 3 C.2.2.2.2.1 gw_RX7_47 rfl rfl rfl cs_X7_in ⟨Nat.le_of_ble_eq_true rfl, Nat.le_of_ble_eq_true rfl⟩) rfl rfl (Nat.le_of_ble_eq_true rfl) ⟨Nat.le_of_ble_eq_true rfl, Nat.le_of_ble_eq_true rfl⟩ dX7_plain_53 (fun r12 => ?_)
        refine g_and (M2 := (zMr D A ad cy tl)) (fun hr12 => ?_)
        have kr12 := zin_01 hr12
        refine g_if_eq (pc := 56) C 79 dX7_plain_56 (by decide) (fun c13 => ?_) (fun c13 => ?_)
        · have h14 : zI 0 0 r12 := zr_eq c13 kr12 (zi_c 0 (a := 0) (b := 0) (by decide)) (by decide)
          refine g_iconst (pc := 79) C 0 dX7_plain_79 (by decide) ?_
          exact g_sub [0, 1] rfl (J80 0 h11 (zi_c 0 (a := 0) (b := 255) (by decide)))
        · have h15 : zI 32768 33791 p0 := zin_1 hr12 c13
          have h16 : zI 1 1 r12 := zr_neL c13 kr12 (zi_c 0 (a := 0) (b := 0) (by decide)) (by decide)
          refine g_aload_n (pc := 59) C dX7_plain_59 rfl 0 rfl ?_
          refine gr_0_2 (pc := 60) C wk_695 dX7_plain_60 ?_
          refine g_ldc (pc := 63) C dX7_plain_63 (C.wd wk_814) ?_
          refine g_iload_n (pc := 65) C dX7_plain_65 rfl 1 rfl ?_
          refine g_sipush (pc := 66) C 256 dX7_plain_66 (by decide) ?_
          refine g_irem (pc := 69) C dX7_plain_69 (by decide) (fun z17 ez17 => ?_)
          have hz17 : zI 0 255 z17 := zi_rem h15 (zi_c 256 (a := 256) (b := 256) (by decide)) ez17 (by decide)
          refine g_iadd (pc := 70) C dX7_plain_70 (fun z18 ez18 => ?_)
          have hz18 : zI 32768 33023 z18 := zi_add (zi_c 32768 (a := 32768) (b := 32768) (by decide)) hz17 ez18 (by decide)
          refine lr_2 (pc := 71) C (zi_in hz18 (by decide)) dX7_plain_71 (fun z19 => ?_)
          refine g_sipush (pc := 72) C 255 dX7_plain_72 (by decide) ?_
          refine g_iand (pc := 75) C dX7_plain_75 (fun z20 ez20 => ?_)
          have hz20 : zI 0 255 z20 := zi_and1 (zi_c 255 (a := 0) (b := 255) (by decide)) ez20
          refine g_goto (pc := 76) C 80 dX7_plain_76 (by decide) ?_
          exact g_sub [0, 1] rfl (J80 z20 (zi_w h15 (a' := 8192) (b' := 40959) (by decide)) hz20)
      · have h21 : zI 40960 65535 p0 := zr_le2 (zc_nlt c10) (zi_c 40960 (a := 40960) (b := 40960) (by decide)) h4 (by decide)
        exact g_sub [0, 1] rfl (J37 (zi_w h21 (a' := 8192) (b' := 65535) (by decide)))
  · have h22 : zI 0 8191 p0 := zr_lt1 (zc_nle c3) hp0 (zi_c 8192 (a := 8192) (b := 8192) (by decide)) (by decide)
    refine g_aload_n (pc := 7) C dX7_plain_7 rfl 0 rfl ?_
    refine gr_0_1 (pc := 8) C wk_694 dX7_plain_8 ?_
    refine g_iload_n (pc := 11) C dX7_plain_11 rfl 1 rfl ?_
    refine lr_1 (pc := 12) C (zi_in h22 (by decide)) dX7_plain_12 (fun z23 => ?_)
    refine g_sipush (pc := 13) C 255 dX7_plain_13 (by decide) ?_
    refine g_iand (pc := 16) C dX7_plain_16 (fun z24 ez24 => ?_)
    have hz24 : zI 0 255 z24 := zi_and1 (zi_c 255 (a := 0) (b := 255) (by decide)) ez24
    exact g_ireturn r dX7_plain_17 rfl (fun _ h => ⟨hz24, h⟩)

set_option maxHeartbeats 2000000 in
set_option maxRecDepth 100000 in
theorem n_X7_isPort (l : Launch) (D : va_G) (ad : Nat → Nat) (cy : Nat → ClassId) (tl : Int32) (A : Nat → Prop) (p0 : Int32) : zMi l yX7_isPort wz_X7_isPort ({ frames := 1, cells := 0, slots := 0, locals := 22 }) [.int p0] D (zTr cy) A (zMr D A ad cy tl) (fun r H => zI 0 1 r ∧ (zMr D A ad cy tl) H) := by
  refine zstart_i (cc := cX7_isPort) (maxL := 1) (ty := .boolean) (own := RX7) (by decide) rfl rfl (Nat.le_of_ble_eq_true rfl) (fun p e s m args below meth c Q C r => ?_)
  have J22 : ∀ (b0_22 : Int32) (_ : zI 0 1 b0_22), zG p l e ({ frames := 1, cells := 0, slots := 0, locals := 22 }) s m args below meth c 1 0 0 A Q (zMr D A ad cy tl) 22 [(0, .int p0)] [.int b0_22] := by
    intro b0_22 hb0_22
    exact g_ireturn r dX7_isPort_22 (zn_bool hb0_22) (fun _ h => ⟨hb0_22, h⟩)
  have J21 : zG p l e ({ frames := 1, cells := 0, slots := 0, locals := 22 }) s m args below meth c 1 0 0 A Q (zMr D A ad cy tl) 21 [(0, .int p0)] [] := by
    refine g_iconst (pc := 21) C 0 dX7_isPort_21 (by decide) ?_
    exact g_sub [0] rfl (J22 0 (zi_c 0 (a := 0) (b := 1) (by decide)))
  refine g_sub (lv' := [(0, .int p0)]) [0] rfl ?_
  refine g_iload_n (pc := 0) C dX7_isPort_0 rfl 0 rfl ?_
  refine g_ldc (pc := 1) C dX7_isPort_1 (C.wd wk_799) ?_
  refine g_ldc (pc := 3) C dX7_isPort_3 (C.wd wk_800) ?_
  refine zcallSi (pc := 5) (st := []) C C.2.2.2.2.2 (n_X7_in l D ad cy tl A p0 34816 40959 34816 40959 (by decide) (by decide)) (va_cwS 3 C.2.2.2.2.1 gw_RX7_47 rfl rfl rfl cs_X7_in ⟨Nat.le_of_ble_eq_true rfl, Nat.le_of_ble_eq_true rfl⟩) rfl rfl (Nat.le_of_ble_eq_true rfl) ⟨Nat.le_of_ble_eq_true rfl, Nat.le_of_ble_eq_true rfl⟩ dX7_isPort_5 (fun r1 => ?_)
  refine g_and (M2 := (zMr D A ad cy tl)) (fun hr1 => ?_)
  have kr1 := zin_01 hr1
  refine g_if_eq (pc := 8) C 21 dX7_isPort_8 (by decide) (fun c2 => ?_) (fun c2 => ?_)
  · have h3 : zI 0 0 r1 := zr_eq c2 kr1 (zi_c 0 (a := 0) (b := 0) (by decide)) (by decide)
    exact g_sub [0] rfl (J21 )
  · have h4 : zI 34816 40959 p0 := zin_1 hr1 c2
    have h5 : zI 1 1 r1 := zr_neL c2 kr1 (zi_c 0 (a := 0) (b := 0) (by decide)) (by decide)
    refine g_iload_n (pc := 11) C dX7_isPort_11 rfl 0 rfl ?_
    refine g_iconst (pc := 12) C 2 dX7_isPort_12 (by decide) ?_
    refine g_irem (pc := 13) C dX7_isPort_13 (by decide) (fun z6 ez6 => ?_)
    have hz6 : zI 0 1 z6 := zi_rem h4 (zi_c 2 (a := 2) (b := 2) (by decide)) ez6 (by decide)
    refine g_if_ne (pc := 14) C 21 dX7_isPort_14 (by decide) (fun c7 => ?_) (fun c7 => ?_)
    · have h8 : zI 1 1 z6 := zr_neL c7 hz6 (zi_c 0 (a := 0) (b := 0) (by decide)) (by decide)
      exact g_sub [0] rfl (J21 )
    · have h9 : zI 0 0 z6 := zr_eq c7 hz6 (zi_c 0 (a := 0) (b := 0) (by decide)) (by decide)
      refine g_iconst (pc := 17) C 1 dX7_isPort_17 (by decide) ?_
      refine g_goto (pc := 18) C 22 dX7_isPort_18 (by decide) ?_
      exact g_sub [0] rfl (J22 1 (zi_c 1 (a := 0) (b := 1) (by decide)))

set_option maxHeartbeats 2000000 in
set_option maxRecDepth 100000 in
theorem n_X7_nextPicture (l : Launch) (D : va_G) (ad : Nat → Nat) (cy : Nat → ClassId) (tl : Int32) (A : Nat → Prop) : zMv l yX7_nextPicture wz_X7_nextPicture ({ frames := 0, cells := 0, slots := 0, locals := 0 }) [.ref (ad 0)] D (zTr cy) A (zMr D A ad cy tl) (zMr D A ad cy tl) := by
  refine zstart_v (cc := cX7_nextPicture) (maxL := 1) (own := RX7) (by decide) rfl rfl (Nat.le_of_ble_eq_true rfl) (fun p e s m args below meth c Q C r => ?_)
  refine g_sub (lv' := [(0, .ref (ad 0))]) [0] rfl ?_
  refine g_aload_n (pc := 0) C dX7_nextPicture_0 rfl 0 rfl ?_
  refine g_aload_n (pc := 1) C dX7_nextPicture_1 rfl 0 rfl ?_
  refine gr_0_3 (pc := 2) C wk_696 dX7_nextPicture_2 ?_
  refine g_aload_n (pc := 5) C dX7_nextPicture_5 rfl 0 rfl ?_
  refine gr_0_5 (pc := 6) C wk_698 dX7_nextPicture_6 (fun z1 hz1 => ?_)
  refine lr_3 (pc := 9) C (zi_in hz1 (by decide)) dX7_nextPicture_9 (fun z2 => ?_)
  refine g_sipush (pc := 10) C 255 dX7_nextPicture_10 (by decide) ?_
  refine g_iand (pc := 13) C dX7_nextPicture_13 (fun z3 ez3 => ?_)
  have hz3 : zI 0 255 z3 := zi_and1 (zi_c 255 (a := 0) (b := 255) (by decide)) ez3
  refine pr_0_6 (pc := 14) C wk_699 hz3 dX7_nextPicture_14 ?_
  refine g_aload_n (pc := 17) C dX7_nextPicture_17 rfl 0 rfl ?_
  refine g_aload_n (pc := 18) C dX7_nextPicture_18 rfl 0 rfl ?_
  refine gr_0_5 (pc := 19) C wk_698 dX7_nextPicture_19 (fun z4 hz4 => ?_)
  refine g_iconst (pc := 22) C 1 dX7_nextPicture_22 (by decide) ?_
  refine g_iadd (pc := 23) C dX7_nextPicture_23 (fun z5 ez5 => ?_)
  have hz5 : zI 1 16384 z5 := zi_add hz4 (zi_c 1 (a := 1) (b := 1) (by decide)) ez5 (by decide)
  refine g_sipush (pc := 24) C 16384 dX7_nextPicture_24 (by decide) ?_
  refine g_irem (pc := 27) C dX7_nextPicture_27 (by decide) (fun z6 ez6 => ?_)
  have hz6 : zI 0 16383 z6 := zi_rem hz5 (zi_c 16384 (a := 16384) (b := 16384) (by decide)) ez6 (by decide)
  refine pr_0_5 (pc := 28) C wk_698 hz6 dX7_nextPicture_28 ?_
  exact g_return r dX7_nextPicture_31 (fun _ h => h)

set_option maxHeartbeats 2000000 in
set_option maxRecDepth 100000 in
theorem n_X7_nextGrom (l : Launch) (D : va_G) (ad : Nat → Nat) (cy : Nat → ClassId) (tl : Int32) (A : Nat → Prop) : zMv l yX7_nextGrom wz_X7_nextGrom ({ frames := 0, cells := 0, slots := 0, locals := 0 }) [.ref (ad 0)] D (zTr cy) A (zMr D A ad cy tl) (zMr D A ad cy tl) := by
  refine zstart_v (cc := cX7_nextGrom) (maxL := 1) (own := RX7) (by decide) rfl rfl (Nat.le_of_ble_eq_true rfl) (fun p e s m args below meth c Q C r => ?_)
  have J28 : ∀ (b0_28 : Int32) (_ : zI 0 255 b0_28), zG p l e ({ frames := 0, cells := 0, slots := 0, locals := 0 }) s m args below meth c 1 0 0 A Q (zMr D A ad cy tl) 28 [(0, .ref (ad 0))] [.int b0_28, .ref (ad 0)] := by
    intro b0_28 hb0_28
    refine pr_0_12 (pc := 28) C wk_705 hb0_28 dX7_nextGrom_28 ?_
    refine g_aload_n (pc := 31) C dX7_nextGrom_31 rfl 0 rfl ?_
    refine g_aload_n (pc := 32) C dX7_nextGrom_32 rfl 0 rfl ?_
    refine gr_0_11 (pc := 33) C wk_704 dX7_nextGrom_33 (fun z1 hz1 => ?_)
    refine g_sipush (pc := 36) C 8192 dX7_nextGrom_36 (by decide) ?_
    refine g_idiv (pc := 39) C dX7_nextGrom_39 (by decide) (fun z2 ez2 => ?_)
    have hz2 : zI 0 7 z2 := zi_div hz1 (zi_c 8192 (a := 8192) (b := 8192) (by decide)) ez2 (by decide)
    refine g_sipush (pc := 40) C 8192 dX7_nextGrom_40 (by decide) ?_
    refine g_imul (pc := 43) C dX7_nextGrom_43 (fun z3 ez3 => ?_)
    have hz3 : zI 0 57344 z3 := zi_mul hz2 (zi_c 8192 (a := 8192) (b := 8192) (by decide)) ez3 (by decide)
    refine g_aload_n (pc := 44) C dX7_nextGrom_44 rfl 0 rfl ?_
    refine gr_0_11 (pc := 45) C wk_704 dX7_nextGrom_45 (fun z4 hz4 => ?_)
    refine g_iconst (pc := 48) C 1 dX7_nextGrom_48 (by decide) ?_
    refine g_iadd (pc := 49) C dX7_nextGrom_49 (fun z5 ez5 => ?_)
    have hz5 : zI 1 65536 z5 := zi_add hz4 (zi_c 1 (a := 1) (b := 1) (by decide)) ez5 (by decide)
    refine g_sipush (pc := 50) C 8192 dX7_nextGrom_50 (by decide) ?_
    refine g_irem (pc := 53) C dX7_nextGrom_53 (by decide) (fun z6 ez6 => ?_)
    have hz6 : zI 0 8191 z6 := zi_rem hz5 (zi_c 8192 (a := 8192) (b := 8192) (by decide)) ez6 (by decide)
    refine g_iadd (pc := 54) C dX7_nextGrom_54 (fun z7 ez7 => ?_)
    have hz7 : zI 0 65535 z7 := zi_add hz3 hz6 ez7 (by decide)
    refine pr_0_11 (pc := 55) C wk_704 hz7 dX7_nextGrom_55 ?_
    exact g_return r dX7_nextGrom_58 (fun _ h => h)
  refine g_sub (lv' := [(0, .ref (ad 0))]) [0] rfl ?_
  refine g_aload_n (pc := 0) C dX7_nextGrom_0 rfl 0 rfl ?_
  refine g_aload_n (pc := 1) C dX7_nextGrom_1 rfl 0 rfl ?_
  refine zfix (fun x => x.1 11) (P := zI 0 65535) (fun _ h => h.2.2.2.1) (fun zf hzf => ?_)
  refine zget (pc := 2) C (fun w h => List.mem_cons_of_mem _ (inz_X7 w h)) 0 (fun _ => rfl) (ci := 7) rfl 11 (by decide) (C.wd wk_704) (fun _ => rfl) dX7_nextGrom_2 (fun x hx => ?_)
  rw [hx.2]
  refine g_sipush (pc := 5) C 8192 dX7_nextGrom_5 (by decide) ?_
  refine g_icmp_ge (pc := 8) C 27 dX7_nextGrom_8 (by decide) (fun c8 => ?_) (fun c8 => ?_)
  · have h9 : zI 8192 65535 zf := zr_le2 (zc_le c8) (zi_c 8192 (a := 8192) (b := 8192) (by decide)) hzf (by decide)
    refine g_weak (M2 := zMr D A ad cy tl) (fun _ => zM_mono (fun _ q => q.1)) ?_
    refine g_iconst (pc := 27) C 0 dX7_nextGrom_27 (by decide) ?_
    exact g_sub [0] rfl (J28 0 (zi_c 0 (a := 0) (b := 255) (by decide)))
  · have h10 : zI 0 8191 zf := zr_lt1 (zc_nle c8) hzf (zi_c 8192 (a := 8192) (b := 8192) (by decide)) (by decide)
    refine g_aload_n (pc := 11) C dX7_nextGrom_11 rfl 0 rfl ?_
    refine zget (pc := 12) C (fun w h => List.mem_cons_of_mem _ (inz_X7 w h)) 0 (fun _ => rfl) (ci := 7) rfl 4 (by decide) (C.wd wk_697) (fun _ => rfl) dX7_nextGrom_12 (fun x hx => ?_)
    refine g_aload_n (pc := 15) C dX7_nextGrom_15 rfl 0 rfl ?_
    refine zget (pc := 16) C (fun w h => List.mem_cons_of_mem _ (inz_X7 w h)) 0 (fun _ => rfl) (ci := 7) rfl 11 (by decide) (C.wd wk_704) (fun _ => rfl) dX7_nextGrom_16 (fun x hx => ?_)
    rw [hx.2]
    refine g_weak (M2 := zMr D A ad cy tl) (fun _ => zM_mono (fun _ q => q.1)) ?_
    refine lr_4 (pc := 19) C (zi_in h10 (by decide)) dX7_nextGrom_19 (fun z11 => ?_)
    refine g_sipush (pc := 20) C 255 dX7_nextGrom_20 (by decide) ?_
    refine g_iand (pc := 23) C dX7_nextGrom_23 (fun z12 ez12 => ?_)
    have hz12 : zI 0 255 z12 := zi_and1 (zi_c 255 (a := 0) (b := 255) (by decide)) ez12
    refine g_goto (pc := 24) C 28 dX7_nextGrom_24 (by decide) ?_
    exact g_sub [0] rfl (J28 z12 hz12)

set_option maxHeartbeats 2000000 in
set_option maxRecDepth 100000 in
theorem n_X7_readPort (l : Launch) (D : va_G) (ad : Nat → Nat) (cy : Nat → ClassId) (tl : Int32) (A : Nat → Prop) (p0 : Int32) (p1 : Int32) : zMi l yX7_readPort wz_X7_readPort ({ frames := 1, cells := 0, slots := 0, locals := 20 }) [.ref (ad 0), .int p0, .int p1] D (zTr cy) A (zMr D A ad cy tl) (fun r H => zI 0 255 r ∧ (zMr D A ad cy tl) H) := by
  refine zstart_i (cc := cX7_readPort) (maxL := 4) (ty := .int) (own := RX7) (by decide) rfl rfl (Nat.le_of_ble_eq_true rfl) (fun p e s m args below meth c Q C r => ?_)
  have J126 : ∀ (a3_126 : Int32) (_ : zI 0 255 a3_126), zG p l e ({ frames := 1, cells := 0, slots := 0, locals := 20 }) s m args below meth c 4 0 0 A Q (zMr D A ad cy tl) 126 [(0, .ref (ad 0)), (1, .int p0), (2, .int p1), (3, .int a3_126)] [] := by
    intro a3_126 ha3_126
    refine g_iload_n (pc := 126) C dX7_readPort_126 rfl 3 rfl ?_
    exact g_ireturn r dX7_readPort_127 rfl (fun _ h => ⟨ha3_126, h⟩)
  have J49 : ∀ (b0_49 : Int32) (_ : zI 34 34 p0) (_ : zI 0 128 b0_49), zG p l e ({ frames := 1, cells := 0, slots := 0, locals := 20 }) s m args below meth c 4 0 0 A Q (zMr D A ad cy tl) 49 [(0, .ref (ad 0)), (1, .int p0), (2, .int p1), (3, .int 0)] [.int b0_49] := by
    intro b0_49 hc_a1_49 hb0_49
    refine g_istore_n (pc := 49) C ([(3, .int b0_49), (0, .ref (ad 0)), (1, .int p0), (2, .int p1)]) dX7_readPort_49 rfl (Nat.le_of_ble_eq_true rfl) rfl ?_
    refine g_aload_n (pc := 50) C dX7_readPort_50 rfl 1 rfl ?_
    refine g_iconst (pc := 51) C 0 dX7_readPort_51 (by decide) ?_
    refine pr_0_9 (pc := 52) C wk_702 (zi_c 0 (a := 0) (b := 1) (by decide)) dX7_readPort_52 ?_
    refine g_aload_n (pc := 55) C dX7_readPort_55 rfl 1 rfl ?_
    refine g_iconst (pc := 56) C 0 dX7_readPort_56 (by decide) ?_
    refine pr_0_8 (pc := 57) C wk_701 (zi_c 0 (a := 0) (b := 1) (by decide)) dX7_readPort_57 ?_
    refine g_goto (pc := 60) C 126 dX7_readPort_60 (by decide) ?_
    exact g_sub [1, 2, 3, 0] rfl (J126 b0_49 (zi_w hb0_49 (a' := 0) (b' := 255) (by decide)))
  have J90 : zG p l e ({ frames := 1, cells := 0, slots := 0, locals := 20 }) s m args below meth c 4 0 0 A Q (zMr D A ad cy tl) 90 [(0, .ref (ad 0)), (1, .int p0), (2, .int p1), (3, .int 0)] [] := by
    refine g_iload_n (pc := 90) C dX7_readPort_90 rfl 1 rfl ?_
    refine g_bipush (pc := 91) C 38 dX7_readPort_91 (by decide) ?_
    refine g_icmp_ne (pc := 93) C 126 dX7_readPort_93 (by decide) (fun c1 => ?_) (fun c1 => ?_)
    · exact g_sub [0, 1, 2, 3] rfl (J126 0 (zi_c 0 (a := 0) (b := 255) (by decide)))
    · have h2 : zI 38 38 p0 := zr_eq c1 (zi_full p0) (zi_c 38 (a := 38) (b := 38) (by decide)) (by decide)
      refine g_aload_n (pc := 96) C dX7_readPort_96 rfl 0 rfl ?_
      refine gr_0_11 (pc := 97) C wk_704 dX7_readPort_97 (fun z3 hz3 => ?_)
      refine g_sipush (pc := 100) C 256 dX7_readPort_100 (by decide) ?_
      refine g_idiv (pc := 103) C dX7_readPort_103 (by decide) (fun z4 ez4 => ?_)
      have hz4 : zI 0 255 z4 := zi_div hz3 (zi_c 256 (a := 256) (b := 256) (by decide)) ez4 (by decide)
      refine g_istore_n (pc := 104) C ([(3, .int z4), (0, .ref (ad 0)), (1, .int p0), (2, .int p1)]) dX7_readPort_104 rfl (Nat.le_of_ble_eq_true rfl) rfl ?_
      refine g_aload_n (pc := 105) C dX7_readPort_105 rfl 1 rfl ?_
      refine g_aload_n (pc := 106) C dX7_readPort_106 rfl 1 rfl ?_
      refine gr_0_11 (pc := 107) C wk_704 dX7_readPort_107 (fun z5 hz5 => ?_)
      refine g_sipush (pc := 110) C 256 dX7_readPort_110 (by decide) ?_
      refine g_irem (pc := 113) C dX7_readPort_113 (by decide) (fun z6 ez6 => ?_)
      have hz6 : zI 0 255 z6 := zi_rem hz5 (zi_c 256 (a := 256) (b := 256) (by decide)) ez6 (by decide)
      refine g_sipush (pc := 114) C 257 dX7_readPort_114 (by decide) ?_
      refine g_imul (pc := 117) C dX7_readPort_117 (fun z7 ez7 => ?_)
      have hz7 : zI 0 65535 z7 := zi_mul hz6 (zi_c 257 (a := 257) (b := 257) (by decide)) ez7 (by decide)
      refine pr_0_11 (pc := 118) C wk_704 hz7 dX7_readPort_118 ?_
      refine g_aload_n (pc := 121) C dX7_readPort_121 rfl 1 rfl ?_
      refine g_iconst (pc := 122) C 0 dX7_readPort_122 (by decide) ?_
      refine pr_0_13 (pc := 123) C wk_706 (zi_c 0 (a := 0) (b := 1) (by decide)) dX7_readPort_123 ?_
      exact g_sub [1, 2, 3, 0] rfl (J126 z4 hz4)
  have J29 : zG p l e ({ frames := 1, cells := 0, slots := 0, locals := 20 }) s m args below meth c 4 0 0 A Q (zMr D A ad cy tl) 29 [(0, .ref (ad 0)), (1, .int p0), (2, .int p1), (3, .int 0)] [] := by
    refine g_iload_n (pc := 29) C dX7_readPort_29 rfl 1 rfl ?_
    refine g_bipush (pc := 30) C 34 dX7_readPort_30 (by decide) ?_
    refine g_icmp_ne (pc := 32) C 63 dX7_readPort_32 (by decide) (fun c8 => ?_) (fun c8 => ?_)
    · refine g_iload_n (pc := 63) C dX7_readPort_63 rfl 1 rfl ?_
      refine g_bipush (pc := 64) C 38 dX7_readPort_64 (by decide) ?_
      refine g_icmp_ne (pc := 66) C 90 dX7_readPort_66 (by decide) (fun c9 => ?_) (fun c9 => ?_)
      · exact g_sub [0, 1, 2, 3] rfl (J90 )
      · have h10 : zI 38 38 p0 := zr_eq c9 (zi_full p0) (zi_c 38 (a := 38) (b := 38) (by decide)) (by decide)
        refine g_iload_n (pc := 69) C dX7_readPort_69 rfl 2 rfl ?_
        refine g_if_ne (pc := 70) C 90 dX7_readPort_70 (by decide) (fun c11 => ?_) (fun c11 => ?_)
        · exact g_sub [0, 1, 2, 3] rfl (J90 )
        · have h12 : zI 0 0 p1 := zr_eq c11 (zi_full p1) (zi_c 0 (a := 0) (b := 0) (by decide)) (by decide)
          refine g_aload_n (pc := 73) C dX7_readPort_73 rfl 0 rfl ?_
          refine gr_0_12 (pc := 74) C wk_705 dX7_readPort_74 (fun z13 hz13 => ?_)
          refine g_istore_n (pc := 77) C ([(3, .int z13), (0, .ref (ad 0)), (1, .int p0), (2, .int p1)]) dX7_readPort_77 rfl (Nat.le_of_ble_eq_true rfl) rfl ?_
          refine g_aload_n (pc := 78) C dX7_readPort_78 rfl 1 rfl ?_
          refine zcallVv (pc := 79) (st := []) C C.2.2.2.2.2 (n_X7_nextGrom l D ad cy tl A ) (cwV 0 C.2.2.2.2.1 gw_RX7_102 rfl rfl rfl cd_X7_nextGrom ⟨Nat.le_of_ble_eq_true rfl, Nat.le_of_ble_eq_true rfl⟩) (hr_0 C) rfl rfl (Nat.le_of_ble_eq_true rfl) ⟨Nat.le_of_ble_eq_true rfl, Nat.le_of_ble_eq_true rfl⟩ dX7_readPort_79 ?_
          refine g_aload_n (pc := 82) C dX7_readPort_82 rfl 1 rfl ?_
          refine g_iconst (pc := 83) C 0 dX7_readPort_83 (by decide) ?_
          refine pr_0_13 (pc := 84) C wk_706 (zi_c 0 (a := 0) (b := 1) (by decide)) dX7_readPort_84 ?_
          refine g_goto (pc := 87) C 126 dX7_readPort_87 (by decide) ?_
          exact g_sub [1, 2, 3, 0] rfl (J126 z13 hz13)
    · have h14 : zI 34 34 p0 := zr_eq c8 (zi_full p0) (zi_c 34 (a := 34) (b := 34) (by decide)) (by decide)
      refine g_aload_n (pc := 35) C dX7_readPort_35 rfl 0 rfl ?_
      refine gr_0_9 (pc := 36) C wk_702 dX7_readPort_36 (fun z15 => ?_)
      refine g_if_eq (pc := 39) C 48 dX7_readPort_39 (by decide) (fun c16 => ?_) (fun c16 => ?_)
      · have h17 : zI 0 0 z15 := zr_eq c16 (zi_full z15) (zi_c 0 (a := 0) (b := 0) (by decide)) (by decide)
        refine g_iconst (pc := 48) C 0 dX7_readPort_48 (by decide) ?_
        exact g_sub [0, 1, 2, 3] rfl (J49 0 h14 (zi_c 0 (a := 0) (b := 128) (by decide)))
      · refine g_sipush (pc := 42) C 128 dX7_readPort_42 (by decide) ?_
        refine g_goto (pc := 45) C 49 dX7_readPort_45 (by decide) ?_
        exact g_sub [0, 1, 2, 3] rfl (J49 128 h14 (zi_c 128 (a := 0) (b := 128) (by decide)))
  refine g_sub (lv' := [(0, .ref (ad 0)), (1, .int p0), (2, .int p1)]) [0, 1, 2] rfl ?_
  refine g_iconst (pc := 0) C 0 dX7_readPort_0 (by decide) ?_
  refine g_istore_n (pc := 1) C ([(3, .int 0), (0, .ref (ad 0)), (1, .int p0), (2, .int p1)]) dX7_readPort_1 rfl (Nat.le_of_ble_eq_true rfl) rfl ?_
  refine g_iload_n (pc := 2) C dX7_readPort_2 rfl 2 rfl ?_
  refine g_bipush (pc := 3) C 34 dX7_readPort_3 (by decide) ?_
  refine g_icmp_ne (pc := 5) C 29 dX7_readPort_5 (by decide) (fun c18 => ?_) (fun c18 => ?_)
  · exact g_sub [1, 2, 3, 0] rfl (J29 )
  · have h19 : zI 34 34 p0 := zr_eq c18 (zi_full p0) (zi_c 34 (a := 34) (b := 34) (by decide)) (by decide)
    refine g_iload_n (pc := 8) C dX7_readPort_8 rfl 3 rfl ?_
    refine g_if_ne (pc := 9) C 29 dX7_readPort_9 (by decide) (fun c20 => ?_) (fun c20 => ?_)
    · exact g_sub [1, 2, 3, 0] rfl (J29 )
    · have h21 : zI 0 0 p1 := zr_eq c20 (zi_full p1) (zi_c 0 (a := 0) (b := 0) (by decide)) (by decide)
      refine g_aload_n (pc := 12) C dX7_readPort_12 rfl 1 rfl ?_
      refine gr_0_6 (pc := 13) C wk_699 dX7_readPort_13 (fun z22 hz22 => ?_)
      refine g_istore_n (pc := 16) C ([(3, .int z22), (0, .ref (ad 0)), (1, .int p0), (2, .int p1)]) dX7_readPort_16 rfl (Nat.le_of_ble_eq_true rfl) rfl ?_
      refine g_aload_n (pc := 17) C dX7_readPort_17 rfl 1 rfl ?_
      refine zcallVv (pc := 18) (st := []) C C.2.2.2.2.2 (n_X7_nextPicture l D ad cy tl A ) (cwV 0 C.2.2.2.2.1 gw_RX7_92 rfl rfl rfl cd_X7_nextPicture ⟨Nat.le_of_ble_eq_true rfl, Nat.le_of_ble_eq_true rfl⟩) (hr_0 C) rfl rfl (Nat.le_of_ble_eq_true rfl) ⟨Nat.le_of_ble_eq_true rfl, Nat.le_of_ble_eq_true rfl⟩ dX7_readPort_18 ?_
      refine g_aload_n (pc := 21) C dX7_readPort_21 rfl 1 rfl ?_
      refine g_iconst (pc := 22) C 0 dX7_readPort_22 (by decide) ?_
      refine pr_0_8 (pc := 23) C wk_701 (zi_c 0 (a := 0) (b := 1) (by decide)) dX7_readPort_23 ?_
      refine g_goto (pc := 26) C 126 dX7_readPort_26 (by decide) ?_
      exact g_sub [1, 2, 3, 0] rfl (J126 z22 hz22)

set_option maxHeartbeats 2000000 in
set_option maxRecDepth 100000 in
theorem n_X7_commands (l : Launch) (D : va_G) (ad : Nat → Nat) (cy : Nat → ClassId) (tl : Int32) (A : Nat → Prop) (p0 : Int32) (hp0 : zI 0 255 p0) : zMv l yX7_commands wz_X7_commands ({ frames := 1, cells := 0, slots := 0, locals := 20 }) [.ref (ad 0), .int p0] D (zTr cy) A (zMr D A ad cy tl) (zMr D A ad cy tl) := by
  refine zstart_v (cc := cX7_commands) (maxL := 2) (own := RX7) (by decide) rfl rfl (Nat.le_of_ble_eq_true rfl) (fun p e s m args below meth c Q C r => ?_)
  have J73 : zG p l e ({ frames := 1, cells := 0, slots := 0, locals := 20 }) s m args below meth c 2 0 0 A Q (zMr D A ad cy tl) 73 [(0, .ref (ad 0)), (1, .int p0)] [] := by
    exact g_return r dX7_commands_73 (fun _ h => h)
  refine g_sub (lv' := [(0, .ref (ad 0)), (1, .int p0)]) [0, 1] rfl ?_
  refine g_aload_n (pc := 0) C dX7_commands_0 rfl 0 rfl ?_
  refine gr_0_8 (pc := 1) C wk_701 dX7_commands_1 (fun z1 => ?_)
  refine g_if_ne (pc := 4) C 18 dX7_commands_4 (by decide) (fun c2 => ?_) (fun c2 => ?_)
  · refine g_aload_n (pc := 18) C dX7_commands_18 rfl 0 rfl ?_
    refine g_iconst (pc := 19) C 0 dX7_commands_19 (by decide) ?_
    refine pr_0_8 (pc := 20) C wk_701 (zi_c 0 (a := 0) (b := 1) (by decide)) dX7_commands_20 ?_
    refine g_iload_n (pc := 23) C dX7_commands_23 rfl 1 rfl ?_
    refine g_bipush (pc := 24) C 64 dX7_commands_24 (by decide) ?_
    refine g_idiv (pc := 26) C dX7_commands_26 (by decide) (fun z3 ez3 => ?_)
    have hz3 : zI 0 3 z3 := zi_div hp0 (zi_c 64 (a := 64) (b := 64) (by decide)) ez3 (by decide)
    refine g_iconst (pc := 27) C 2 dX7_commands_27 (by decide) ?_
    refine g_icmp_ne (pc := 28) C 45 dX7_commands_28 (by decide) (fun c4 => ?_) (fun c4 => ?_)
    · refine g_aload_n (pc := 45) C dX7_commands_45 rfl 0 rfl ?_
      refine g_iload_n (pc := 46) C dX7_commands_46 rfl 1 rfl ?_
      refine g_bipush (pc := 47) C 64 dX7_commands_47 (by decide) ?_
      refine g_irem (pc := 49) C dX7_commands_49 (by decide) (fun z5 ez5 => ?_)
      have hz5 : zI 0 63 z5 := zi_rem hp0 (zi_c 64 (a := 64) (b := 64) (by decide)) ez5 (by decide)
      refine g_sipush (pc := 50) C 256 dX7_commands_50 (by decide) ?_
      refine g_imul (pc := 53) C dX7_commands_53 (fun z6 ez6 => ?_)
      have hz6 : zI 0 16128 z6 := zi_mul hz5 (zi_c 256 (a := 256) (b := 256) (by decide)) ez6 (by decide)
      refine g_aload_n (pc := 54) C dX7_commands_54 rfl 0 rfl ?_
      refine gr_0_7 (pc := 55) C wk_700 dX7_commands_55 (fun z7 hz7 => ?_)
      refine g_iadd (pc := 58) C dX7_commands_58 (fun z8 ez8 => ?_)
      have hz8 : zI 0 16383 z8 := zi_add hz6 hz7 ez8 (by decide)
      refine pr_0_5 (pc := 59) C wk_698 hz8 dX7_commands_59 ?_
      refine g_iload_n (pc := 62) C dX7_commands_62 rfl 1 rfl ?_
      refine g_bipush (pc := 63) C 64 dX7_commands_63 (by decide) ?_
      refine g_idiv (pc := 65) C dX7_commands_65 (by decide) (fun z9 ez9 => ?_)
      have hz9 : zI 0 3 z9 := zi_div hp0 (zi_c 64 (a := 64) (b := 64) (by decide)) ez9 (by decide)
      refine g_if_ne (pc := 66) C 73 dX7_commands_66 (by decide) (fun c10 => ?_) (fun c10 => ?_)
      · have h11 : zI 1 3 z9 := zr_neL c10 hz9 (zi_c 0 (a := 0) (b := 0) (by decide)) (by decide)
        exact g_sub [0, 1] rfl (J73 )
      · have h12 : zI 0 0 z9 := zr_eq c10 hz9 (zi_c 0 (a := 0) (b := 0) (by decide)) (by decide)
        refine g_aload_n (pc := 69) C dX7_commands_69 rfl 0 rfl ?_
        refine zcallVv (pc := 70) (st := []) C C.2.2.2.2.2 (n_X7_nextPicture l D ad cy tl A ) (cwV 0 C.2.2.2.2.1 gw_RX7_92 rfl rfl rfl cd_X7_nextPicture ⟨Nat.le_of_ble_eq_true rfl, Nat.le_of_ble_eq_true rfl⟩) (hr_0 C) rfl rfl (Nat.le_of_ble_eq_true rfl) ⟨Nat.le_of_ble_eq_true rfl, Nat.le_of_ble_eq_true rfl⟩ dX7_commands_70 ?_
        exact g_sub [0, 1] rfl (J73 )
    · have h13 : zI 2 2 z3 := zr_eq c4 hz3 (zi_c 2 (a := 2) (b := 2) (by decide)) (by decide)
      refine g_aload_n (pc := 31) C dX7_commands_31 rfl 0 rfl ?_
      refine gr_0_10 (pc := 32) C wk_703 dX7_commands_32 ?_
      refine g_iload_n (pc := 35) C dX7_commands_35 rfl 1 rfl ?_
      refine g_bipush (pc := 36) C 8 dX7_commands_36 (by decide) ?_
      refine g_irem (pc := 38) C dX7_commands_38 (by decide) (fun z14 ez14 => ?_)
      have hz14 : zI 0 7 z14 := zi_rem hp0 (zi_c 8 (a := 8) (b := 8) (by decide)) ez14 (by decide)
      refine g_aload_n (pc := 39) C dX7_commands_39 rfl 0 rfl ?_
      refine gr_0_7 (pc := 40) C wk_700 dX7_commands_40 (fun z15 hz15 => ?_)
      refine sr_5 (pc := 43) C (zi_in hz14 (by decide)) hz15 dX7_commands_43 ?_
      exact g_return r dX7_commands_44 (fun _ h => h)
  · have h16 : zI 0 0 z1 := zr_eq c2 (zi_full z1) (zi_c 0 (a := 0) (b := 0) (by decide)) (by decide)
    refine g_aload_n (pc := 7) C dX7_commands_7 rfl 0 rfl ?_
    refine g_iload_n (pc := 8) C dX7_commands_8 rfl 1 rfl ?_
    refine pr_0_7 (pc := 9) C wk_700 hp0 dX7_commands_9 ?_
    refine g_aload_n (pc := 12) C dX7_commands_12 rfl 0 rfl ?_
    refine g_iconst (pc := 13) C 1 dX7_commands_13 (by decide) ?_
    refine pr_0_8 (pc := 14) C wk_701 (zi_c 1 (a := 0) (b := 1) (by decide)) dX7_commands_14 ?_
    exact g_return r dX7_commands_17 (fun _ h => h)

set_option maxHeartbeats 2000000 in
set_option maxRecDepth 100000 in
theorem n_X7_writePort (l : Launch) (D : va_G) (ad : Nat → Nat) (cy : Nat → ClassId) (tl : Int32) (A : Nat → Prop) (p0 : Int32) (p1 : Int32) (p2 : Int32) (hp2 : zI 0 255 p2) : zMv l yX7_writePort wz_X7_writePort ({ frames := 2, cells := 0, slots := 0, locals := 41 }) [.ref (ad 0), .int p0, .int p1, .int p2] D (zTr cy) A (zMr D A ad cy tl) (zMr D A ad cy tl) := by
  refine zstart_v (cc := cX7_writePort) (maxL := 4) (own := RX7) (by decide) rfl rfl (Nat.le_of_ble_eq_true rfl) (fun p e s m args below meth c Q C r => ?_)
  have J139 : zG p l e ({ frames := 2, cells := 0, slots := 0, locals := 41 }) s m args below meth c 4 0 0 A Q (zMr D A ad cy tl) 139 [(0, .ref (ad 0)), (1, .int p0), (2, .int p1), (3, .int p2)] [] := by
    exact g_return r dX7_writePort_139 (fun _ h => h)
  have J136 : ∀ (b0_136 : Int32) (_ : zI 39 39 p0) (_ : zI 1 1 p1) (_ : zI 0 1 b0_136), zG p l e ({ frames := 2, cells := 0, slots := 0, locals := 41 }) s m args below meth c 4 0 0 A Q (zMr D A ad cy tl) 136 [(0, .ref (ad 0)), (1, .int p0), (2, .int p1), (3, .int p2)] [.int b0_136, .ref (ad 0)] := by
    intro b0_136 hc_a1_136 hc_a2_136 hb0_136
    refine pr_0_13 (pc := 136) C wk_706 hb0_136 dX7_writePort_136 ?_
    exact g_sub [0, 1, 2, 3] rfl (J139 )
  have J123 : ∀ (_ : zI 39 39 p0) (_ : zI 1 1 p1), zG p l e ({ frames := 2, cells := 0, slots := 0, locals := 41 }) s m args below meth c 4 0 0 A Q (zMr D A ad cy tl) 123 [(0, .ref (ad 0)), (1, .int p0), (2, .int p1), (3, .int p2)] [] := by
    intro hc_a1_123 hc_a2_123
    refine g_aload_n (pc := 123) C dX7_writePort_123 rfl 0 rfl ?_
    refine g_aload_n (pc := 124) C dX7_writePort_124 rfl 0 rfl ?_
    refine gr_0_13 (pc := 125) C wk_706 dX7_writePort_125 (fun z1 => ?_)
    refine g_if_ne (pc := 128) C 135 dX7_writePort_128 (by decide) (fun c2 => ?_) (fun c2 => ?_)
    · refine g_iconst (pc := 135) C 0 dX7_writePort_135 (by decide) ?_
      exact g_sub [0, 1, 2, 3] rfl (J136 0 hc_a1_123 hc_a2_123 (zi_c 0 (a := 0) (b := 1) (by decide)))
    · have h3 : zI 0 0 z1 := zr_eq c2 (zi_full z1) (zi_c 0 (a := 0) (b := 0) (by decide)) (by decide)
      refine g_iconst (pc := 131) C 1 dX7_writePort_131 (by decide) ?_
      refine g_goto (pc := 132) C 136 dX7_writePort_132 (by decide) ?_
      exact g_sub [0, 1, 2, 3] rfl (J136 1 hc_a1_123 hc_a2_123 (zi_c 1 (a := 0) (b := 1) (by decide)))
  have J48 : zG p l e ({ frames := 2, cells := 0, slots := 0, locals := 41 }) s m args below meth c 4 0 0 A Q (zMr D A ad cy tl) 48 [(0, .ref (ad 0)), (1, .int p0), (2, .int p1), (3, .int p2)] [] := by
    refine g_iload_n (pc := 48) C dX7_writePort_48 rfl 1 rfl ?_
    refine g_bipush (pc := 49) C 35 dX7_writePort_49 (by decide) ?_
    refine g_icmp_ne (pc := 51) C 62 dX7_writePort_51 (by decide) (fun c4 => ?_) (fun c4 => ?_)
    · refine g_iload_n (pc := 62) C dX7_writePort_62 rfl 1 rfl ?_
      refine g_bipush (pc := 63) C 39 dX7_writePort_63 (by decide) ?_
      refine g_icmp_ne (pc := 65) C 139 dX7_writePort_65 (by decide) (fun c5 => ?_) (fun c5 => ?_)
      · exact g_sub [0, 1, 2, 3] rfl (J139 )
      · have h6 : zI 39 39 p0 := zr_eq c5 (zi_full p0) (zi_c 39 (a := 39) (b := 39) (by decide)) (by decide)
        refine g_iload_n (pc := 68) C dX7_writePort_68 rfl 2 rfl ?_
        refine g_iconst (pc := 69) C 1 dX7_writePort_69 (by decide) ?_
        refine g_icmp_ne (pc := 70) C 139 dX7_writePort_70 (by decide) (fun c7 => ?_) (fun c7 => ?_)
        · exact g_sub [0, 1, 2, 3] rfl (J139 )
        · have h8 : zI 1 1 p1 := zr_eq c7 (zi_full p1) (zi_c 1 (a := 1) (b := 1) (by decide)) (by decide)
          refine g_aload_n (pc := 73) C dX7_writePort_73 rfl 0 rfl ?_
          refine gr_0_13 (pc := 74) C wk_706 dX7_writePort_74 (fun z9 => ?_)
          refine g_if_eq (pc := 77) C 105 dX7_writePort_77 (by decide) (fun c10 => ?_) (fun c10 => ?_)
          · have h11 : zI 0 0 z9 := zr_eq c10 (zi_full z9) (zi_c 0 (a := 0) (b := 0) (by decide)) (by decide)
            refine g_aload_n (pc := 105) C dX7_writePort_105 rfl 0 rfl ?_
            refine g_sipush (pc := 106) C 256 dX7_writePort_106 (by decide) ?_
            refine g_iload_n (pc := 109) C dX7_writePort_109 rfl 3 rfl ?_
            refine g_imul (pc := 110) C dX7_writePort_110 (fun z12 ez12 => ?_)
            have hz12 : zI 0 65280 z12 := zi_mul (zi_c 256 (a := 256) (b := 256) (by decide)) hp2 ez12 (by decide)
            refine g_aload_n (pc := 111) C dX7_writePort_111 rfl 0 rfl ?_
            refine gr_0_11 (pc := 112) C wk_704 dX7_writePort_112 (fun z13 hz13 => ?_)
            refine g_sipush (pc := 115) C 256 dX7_writePort_115 (by decide) ?_
            refine g_irem (pc := 118) C dX7_writePort_118 (by decide) (fun z14 ez14 => ?_)
            have hz14 : zI 0 255 z14 := zi_rem hz13 (zi_c 256 (a := 256) (b := 256) (by decide)) ez14 (by decide)
            refine g_iadd (pc := 119) C dX7_writePort_119 (fun z15 ez15 => ?_)
            have hz15 : zI 0 65535 z15 := zi_add hz12 hz14 ez15 (by decide)
            refine pr_0_11 (pc := 120) C wk_704 hz15 dX7_writePort_120 ?_
            exact g_sub [0, 1, 2, 3] rfl (J123 h6 h8)
          · refine g_aload_n (pc := 80) C dX7_writePort_80 rfl 0 rfl ?_
            refine g_aload_n (pc := 81) C dX7_writePort_81 rfl 0 rfl ?_
            refine gr_0_11 (pc := 82) C wk_704 dX7_writePort_82 (fun z16 hz16 => ?_)
            refine g_sipush (pc := 85) C 256 dX7_writePort_85 (by decide) ?_
            refine g_idiv (pc := 88) C dX7_writePort_88 (by decide) (fun z17 ez17 => ?_)
            have hz17 : zI 0 255 z17 := zi_div hz16 (zi_c 256 (a := 256) (b := 256) (by decide)) ez17 (by decide)
            refine g_sipush (pc := 89) C 256 dX7_writePort_89 (by decide) ?_
            refine g_imul (pc := 92) C dX7_writePort_92 (fun z18 ez18 => ?_)
            have hz18 : zI 0 65280 z18 := zi_mul hz17 (zi_c 256 (a := 256) (b := 256) (by decide)) ez18 (by decide)
            refine g_iload_n (pc := 93) C dX7_writePort_93 rfl 3 rfl ?_
            refine g_iadd (pc := 94) C dX7_writePort_94 (fun z19 ez19 => ?_)
            have hz19 : zI 0 65535 z19 := zi_add hz18 hp2 ez19 (by decide)
            refine pr_0_11 (pc := 95) C wk_704 hz19 dX7_writePort_95 ?_
            refine g_aload_n (pc := 98) C dX7_writePort_98 rfl 0 rfl ?_
            refine zcallVv (pc := 99) (st := []) C C.2.2.2.2.2 (n_X7_nextGrom l D ad cy tl A ) (cwV 0 C.2.2.2.2.1 gw_RX7_102 rfl rfl rfl cd_X7_nextGrom ⟨Nat.le_of_ble_eq_true rfl, Nat.le_of_ble_eq_true rfl⟩) (hr_0 C) rfl rfl (Nat.le_of_ble_eq_true rfl) ⟨Nat.le_of_ble_eq_true rfl, Nat.le_of_ble_eq_true rfl⟩ dX7_writePort_99 ?_
            refine g_goto (pc := 102) C 123 dX7_writePort_102 (by decide) ?_
            exact g_sub [0, 1, 2, 3] rfl (J123 h6 h8)
    · have h20 : zI 35 35 p0 := zr_eq c4 (zi_full p0) (zi_c 35 (a := 35) (b := 35) (by decide)) (by decide)
      refine g_aload_n (pc := 54) C dX7_writePort_54 rfl 0 rfl ?_
      refine g_iload_n (pc := 55) C dX7_writePort_55 rfl 3 rfl ?_
      refine zcallVv (pc := 56) (st := []) C C.2.2.2.2.2 (n_X7_commands l D ad cy tl A p2 hp2) (cwV 1 C.2.2.2.2.1 gw_RX7_108 rfl rfl rfl cd_X7_commands ⟨Nat.le_of_ble_eq_true rfl, Nat.le_of_ble_eq_true rfl⟩) (hr_0 C) rfl rfl (Nat.le_of_ble_eq_true rfl) ⟨Nat.le_of_ble_eq_true rfl, Nat.le_of_ble_eq_true rfl⟩ dX7_writePort_56 ?_
      refine g_goto (pc := 59) C 139 dX7_writePort_59 (by decide) ?_
      exact g_sub [0, 1, 2, 3] rfl (J139 )
  refine g_sub (lv' := [(0, .ref (ad 0)), (1, .int p0), (2, .int p1), (3, .int p2)]) [0, 1, 2, 3] rfl ?_
  refine g_iload_n (pc := 0) C dX7_writePort_0 rfl 1 rfl ?_
  refine g_bipush (pc := 1) C 35 dX7_writePort_1 (by decide) ?_
  refine g_icmp_ne (pc := 3) C 48 dX7_writePort_3 (by decide) (fun c21 => ?_) (fun c21 => ?_)
  · exact g_sub [0, 1, 2, 3] rfl (J48 )
  · have h22 : zI 35 35 p0 := zr_eq c21 (zi_full p0) (zi_c 35 (a := 35) (b := 35) (by decide)) (by decide)
    refine g_iload_n (pc := 6) C dX7_writePort_6 rfl 2 rfl ?_
    refine g_if_ne (pc := 7) C 48 dX7_writePort_7 (by decide) (fun c23 => ?_) (fun c23 => ?_)
    · exact g_sub [0, 1, 2, 3] rfl (J48 )
    · have h24 : zI 0 0 p1 := zr_eq c23 (zi_full p1) (zi_c 0 (a := 0) (b := 0) (by decide)) (by decide)
      refine g_aload_n (pc := 10) C dX7_writePort_10 rfl 0 rfl ?_
      refine gr_0_3 (pc := 11) C wk_696 dX7_writePort_11 ?_
      refine g_aload_n (pc := 14) C dX7_writePort_14 rfl 0 rfl ?_
      refine gr_0_5 (pc := 15) C wk_698 dX7_writePort_15 (fun z25 hz25 => ?_)
      refine g_iload_n (pc := 18) C dX7_writePort_18 rfl 3 rfl ?_
      refine g_i2b (pc := 19) C dX7_writePort_19 (fun z26 ez26 => ?_)
      have hz26 : zI (-128) 127 z26 := zi_i2b ez26
      refine sr_3 (pc := 20) C (zi_in hz25 (by decide)) dX7_writePort_20 ?_
      refine g_aload_n (pc := 21) C dX7_writePort_21 rfl 0 rfl ?_
      refine g_iload_n (pc := 22) C dX7_writePort_22 rfl 3 rfl ?_
      refine pr_0_6 (pc := 23) C wk_699 hp2 dX7_writePort_23 ?_
      refine g_aload_n (pc := 26) C dX7_writePort_26 rfl 0 rfl ?_
      refine g_aload_n (pc := 27) C dX7_writePort_27 rfl 0 rfl ?_
      refine gr_0_5 (pc := 28) C wk_698 dX7_writePort_28 (fun z27 hz27 => ?_)
      refine g_iconst (pc := 31) C 1 dX7_writePort_31 (by decide) ?_
      refine g_iadd (pc := 32) C dX7_writePort_32 (fun z28 ez28 => ?_)
      have hz28 : zI 1 16384 z28 := zi_add hz27 (zi_c 1 (a := 1) (b := 1) (by decide)) ez28 (by decide)
      refine g_sipush (pc := 33) C 16384 dX7_writePort_33 (by decide) ?_
      refine g_irem (pc := 36) C dX7_writePort_36 (by decide) (fun z29 ez29 => ?_)
      have hz29 : zI 0 16383 z29 := zi_rem hz28 (zi_c 16384 (a := 16384) (b := 16384) (by decide)) ez29 (by decide)
      refine pr_0_5 (pc := 37) C wk_698 hz29 dX7_writePort_37 ?_
      refine g_aload_n (pc := 40) C dX7_writePort_40 rfl 0 rfl ?_
      refine g_iconst (pc := 41) C 0 dX7_writePort_41 (by decide) ?_
      refine pr_0_8 (pc := 42) C wk_701 (zi_c 0 (a := 0) (b := 1) (by decide)) dX7_writePort_42 ?_
      refine g_goto (pc := 45) C 139 dX7_writePort_45 (by decide) ?_
      exact g_sub [0, 1, 2, 3] rfl (J139 )

set_option maxHeartbeats 2000000 in
set_option maxRecDepth 100000 in
theorem n_X7_readByte (l : Launch) (D : va_G) (ad : Nat → Nat) (cy : Nat → ClassId) (tl : Int32) (A : Nat → Prop) (p0 : Int32) (hp0 : zI 0 65535 p0) : zMi l yX7_readByte wz_X7_readByte ({ frames := 2, cells := 0, slots := 0, locals := 43 }) [.ref (ad 0), .int p0] D (zTr cy) A (zMr D A ad cy tl) (fun r H => zI 0 255 r ∧ (zMr D A ad cy tl) H) := by
  refine zstart_i (cc := cX7_readByte) (maxL := 2) (ty := .int) (own := RX7) (by decide) rfl rfl (Nat.le_of_ble_eq_true rfl) (fun p e s m args below meth c Q C r => ?_)
  have J29 : ∀ (b0_29 : Int32) (_ : zI 0 255 b0_29), zG p l e ({ frames := 2, cells := 0, slots := 0, locals := 43 }) s m args below meth c 2 0 0 A Q (zMr D A ad cy tl) 29 [(0, .ref (ad 0)), (1, .int p0)] [.int b0_29] := by
    intro b0_29 hb0_29
    exact g_ireturn r dX7_readByte_29 rfl (fun _ h => ⟨hb0_29, h⟩)
  refine g_sub (lv' := [(0, .ref (ad 0)), (1, .int p0)]) [0, 1] rfl ?_
  refine g_iload_n (pc := 0) C dX7_readByte_0 rfl 1 rfl ?_
  refine zcallSi (pc := 1) (st := []) C C.2.2.2.2.2 (n_X7_isPort l D ad cy tl A p0) (va_cwS 1 C.2.2.2.2.1 gw_RX7_56 rfl rfl rfl cs_X7_isPort ⟨Nat.le_of_ble_eq_true rfl, Nat.le_of_ble_eq_true rfl⟩) rfl rfl (Nat.le_of_ble_eq_true rfl) ⟨Nat.le_of_ble_eq_true rfl, Nat.le_of_ble_eq_true rfl⟩ dX7_readByte_1 (fun r1 => ?_)
  refine g_and (M2 := (zMr D A ad cy tl)) (fun hr1 => ?_)
  refine g_if_eq (pc := 4) C 24 dX7_readByte_4 (by decide) (fun c2 => ?_) (fun c2 => ?_)
  · have h3 : zI 0 0 r1 := zr_eq c2 hr1 (zi_c 0 (a := 0) (b := 0) (by decide)) (by decide)
    refine g_aload_n (pc := 24) C dX7_readByte_24 rfl 0 rfl ?_
    refine g_iload_n (pc := 25) C dX7_readByte_25 rfl 1 rfl ?_
    refine zcallVi (pc := 26) (st := []) C C.2.2.2.2.2 (n_X7_plain l D ad cy tl A p0 hp0) (cwV 1 C.2.2.2.2.1 gw_RX7_64 rfl rfl rfl cd_X7_plain ⟨Nat.le_of_ble_eq_true rfl, Nat.le_of_ble_eq_true rfl⟩) (hr_0 C) rfl rfl (Nat.le_of_ble_eq_true rfl) ⟨Nat.le_of_ble_eq_true rfl, Nat.le_of_ble_eq_true rfl⟩ dX7_readByte_26 (fun r4 => ?_)
    refine g_and (M2 := (zMr D A ad cy tl)) (fun hr4 => ?_)
    exact g_sub [0, 1] rfl (J29 r4 hr4)
  · have h5 : zI 1 1 r1 := zr_neL c2 hr1 (zi_c 0 (a := 0) (b := 0) (by decide)) (by decide)
    refine g_aload_n (pc := 7) C dX7_readByte_7 rfl 0 rfl ?_
    refine g_iload_n (pc := 8) C dX7_readByte_8 rfl 1 rfl ?_
    refine g_sipush (pc := 9) C 1024 dX7_readByte_9 (by decide) ?_
    refine g_idiv (pc := 12) C dX7_readByte_12 (by decide) (fun z6 ez6 => ?_)
    have hz6 : zI 0 63 z6 := zi_div hp0 (zi_c 1024 (a := 1024) (b := 1024) (by decide)) ez6 (by decide)
    refine g_iload_n (pc := 13) C dX7_readByte_13 rfl 1 rfl ?_
    refine g_iconst (pc := 14) C 2 dX7_readByte_14 (by decide) ?_
    refine g_idiv (pc := 15) C dX7_readByte_15 (by decide) (fun z7 ez7 => ?_)
    have hz7 : zI 0 32767 z7 := zi_div hp0 (zi_c 2 (a := 2) (b := 2) (by decide)) ez7 (by decide)
    refine g_iconst (pc := 16) C 2 dX7_readByte_16 (by decide) ?_
    refine g_irem (pc := 17) C dX7_readByte_17 (by decide) (fun z8 ez8 => ?_)
    have hz8 : zI 0 1 z8 := zi_rem hz7 (zi_c 2 (a := 2) (b := 2) (by decide)) ez8 (by decide)
    refine zcallVi (pc := 18) (st := []) C C.2.2.2.2.2 (n_X7_readPort l D ad cy tl A z6 z8) (cwV 2 C.2.2.2.2.1 gw_RX7_60 rfl rfl rfl cd_X7_readPort ⟨Nat.le_of_ble_eq_true rfl, Nat.le_of_ble_eq_true rfl⟩) (hr_0 C) rfl rfl (Nat.le_of_ble_eq_true rfl) ⟨Nat.le_of_ble_eq_true rfl, Nat.le_of_ble_eq_true rfl⟩ dX7_readByte_18 (fun r9 => ?_)
    refine g_and (M2 := (zMr D A ad cy tl)) (fun hr9 => ?_)
    refine g_goto (pc := 21) C 29 dX7_readByte_21 (by decide) ?_
    exact g_sub [0, 1] rfl (J29 r9 hr9)

set_option maxHeartbeats 2000000 in
set_option maxRecDepth 100000 in
theorem n_X7_writeByte (l : Launch) (D : va_G) (ad : Nat → Nat) (cy : Nat → ClassId) (tl : Int32) (A : Nat → Prop) (p0 : Int32) (p1 : Int32) (hp0 : zI 0 65535 p0) (hp1 : zI 0 255 p1) : zMv l yX7_writeByte wz_X7_writeByte ({ frames := 3, cells := 0, slots := 0, locals := 64 }) [.ref (ad 0), .int p0, .int p1] D (zTr cy) A (zMr D A ad cy tl) (zMr D A ad cy tl) := by
  refine zstart_v (cc := cX7_writeByte) (maxL := 3) (own := RX7) (by decide) rfl rfl (Nat.le_of_ble_eq_true rfl) (fun p e s m args below meth c Q C r => ?_)
  have J81 : zG p l e ({ frames := 3, cells := 0, slots := 0, locals := 64 }) s m args below meth c 3 0 0 A Q (zMr D A ad cy tl) 81 [(0, .ref (ad 0)), (1, .int p0), (2, .int p1)] [] := by
    exact g_return r dX7_writeByte_81 (fun _ h => h)
  have J44 : ∀ (_ : zI 8192 65535 p0), zG p l e ({ frames := 3, cells := 0, slots := 0, locals := 64 }) s m args below meth c 3 0 0 A Q (zMr D A ad cy tl) 44 [(0, .ref (ad 0)), (1, .int p0), (2, .int p1)] [] := by
    intro hc_a1_44
    refine g_aload_n (pc := 44) C dX7_writeByte_44 rfl 0 rfl ?_
    refine gr_0_2 (pc := 45) C wk_695 dX7_writeByte_45 ?_
    refine g_iload_n (pc := 48) C dX7_writeByte_48 rfl 1 rfl ?_
    refine g_iload_n (pc := 49) C dX7_writeByte_49 rfl 2 rfl ?_
    refine g_i2b (pc := 50) C dX7_writeByte_50 (fun z1 ez1 => ?_)
    have hz1 : zI (-128) 127 z1 := zi_i2b ez1
    refine sr_2 (pc := 51) C (zi_in hc_a1_44 (by decide)) dX7_writeByte_51 ?_
    refine g_goto (pc := 52) C 81 dX7_writeByte_52 (by decide) ?_
    exact g_sub [0, 1, 2] rfl (J81 )
  refine g_sub (lv' := [(0, .ref (ad 0)), (1, .int p0), (2, .int p1)]) [0, 1, 2] rfl ?_
  refine g_iload_n (pc := 0) C dX7_writeByte_0 rfl 1 rfl ?_
  refine zcallSi (pc := 1) (st := []) C C.2.2.2.2.2 (n_X7_isPort l D ad cy tl A p0) (va_cwS 1 C.2.2.2.2.1 gw_RX7_56 rfl rfl rfl cs_X7_isPort ⟨Nat.le_of_ble_eq_true rfl, Nat.le_of_ble_eq_true rfl⟩) rfl rfl (Nat.le_of_ble_eq_true rfl) ⟨Nat.le_of_ble_eq_true rfl, Nat.le_of_ble_eq_true rfl⟩ dX7_writeByte_1 (fun r2 => ?_)
  refine g_and (M2 := (zMr D A ad cy tl)) (fun hr2 => ?_)
  refine g_if_eq (pc := 4) C 25 dX7_writeByte_4 (by decide) (fun c3 => ?_) (fun c3 => ?_)
  · have h4 : zI 0 0 r2 := zr_eq c3 hr2 (zi_c 0 (a := 0) (b := 0) (by decide)) (by decide)
    refine g_iload_n (pc := 25) C dX7_writeByte_25 rfl 1 rfl ?_
    refine g_sipush (pc := 26) C 8192 dX7_writeByte_26 (by decide) ?_
    refine g_sipush (pc := 29) C 16383 dX7_writeByte_29 (by decide) ?_
    refine zcallSi (pc := 32) (st := []) C C.2.2.2.2.2 (n_X7_in l D ad cy tl A p0 8192 16383 8192 16383 (by decide) (by decide)) (va_cwS 3 C.2.2.2.2.1 gw_RX7_47 rfl rfl rfl cs_X7_in ⟨Nat.le_of_ble_eq_true rfl, Nat.le_of_ble_eq_true rfl⟩) rfl rfl (Nat.le_of_ble_eq_true rfl) ⟨Nat.le_of_ble_eq_true rfl, Nat.le_of_ble_eq_true rfl⟩ dX7_writeByte_32 (fun r5 => ?_)
    refine g_and (M2 := (zMr D A ad cy tl)) (fun hr5 => ?_)
    have kr5 := zin_01 hr5
    refine g_if_ne (pc := 35) C 44 dX7_writeByte_35 (by decide) (fun c6 => ?_) (fun c6 => ?_)
    · have h7 : zI 8192 16383 p0 := zin_1 hr5 c6
      have h8 : zI 1 1 r5 := zr_neL c6 kr5 (zi_c 0 (a := 0) (b := 0) (by decide)) (by decide)
      exact g_sub [0, 1, 2] rfl (J44 (zi_w h7 (a' := 8192) (b' := 65535) (by decide)))
    · have h9 : zI 0 0 r5 := zr_eq c6 kr5 (zi_c 0 (a := 0) (b := 0) (by decide)) (by decide)
      refine g_iload_n (pc := 38) C dX7_writeByte_38 rfl 1 rfl ?_
      refine g_ldc (pc := 39) C dX7_writeByte_39 (C.wd wk_813) ?_
      refine g_icmp_lt (pc := 41) C 55 dX7_writeByte_41 (by decide) (fun c10 => ?_) (fun c10 => ?_)
      · have h11 : zI 0 40959 p0 := zr_lt1 (zc_lt c10) hp0 (zi_c 40960 (a := 40960) (b := 40960) (by decide)) (by decide)
        refine g_iload_n (pc := 55) C dX7_writeByte_55 rfl 1 rfl ?_
        refine g_ldc (pc := 56) C dX7_writeByte_56 (C.wd wk_814) ?_
        refine g_ldc (pc := 58) C dX7_writeByte_58 (C.wd wk_815) ?_
        refine zcallSi (pc := 60) (st := []) C C.2.2.2.2.2 (n_X7_in l D ad cy tl A p0 32768 33791 32768 33791 (by decide) (by decide)) (va_cwS 3 C.2.2.2.2.1 gw_RX7_47 rfl rfl rfl cs_X7_in ⟨Nat.le_of_ble_eq_true rfl, Nat.le_of_ble_eq_true rfl⟩) rfl rfl (Nat.le_of_ble_eq_true rfl) ⟨Nat.le_of_ble_eq_true rfl, Nat.le_of_ble_eq_true rfl⟩ dX7_writeByte_60 (fun r12 => ?_)
        refine g_and (M2 := (zMr D A ad cy tl)) (fun hr12 => ?_)
        have kr12 := zin_01 hr12
        refine g_if_eq (pc := 63) C 81 dX7_writeByte_63 (by decide) (fun c13 => ?_) (fun c13 => ?_)
        · have h14 : zI 0 0 r12 := zr_eq c13 kr12 (zi_c 0 (a := 0) (b := 0) (by decide)) (by decide)
          exact g_sub [0, 1, 2] rfl (J81 )
        · have h15 : zI 32768 33791 p0 := zin_1 hr12 c13
          have h16 : zI 1 1 r12 := zr_neL c13 kr12 (zi_c 0 (a := 0) (b := 0) (by decide)) (by decide)
          refine g_aload_n (pc := 66) C dX7_writeByte_66 rfl 0 rfl ?_
          refine gr_0_2 (pc := 67) C wk_695 dX7_writeByte_67 ?_
          refine g_ldc (pc := 70) C dX7_writeByte_70 (C.wd wk_814) ?_
          refine g_iload_n (pc := 72) C dX7_writeByte_72 rfl 1 rfl ?_
          refine g_sipush (pc := 73) C 256 dX7_writeByte_73 (by decide) ?_
          refine g_irem (pc := 76) C dX7_writeByte_76 (by decide) (fun z17 ez17 => ?_)
          have hz17 : zI 0 255 z17 := zi_rem h15 (zi_c 256 (a := 256) (b := 256) (by decide)) ez17 (by decide)
          refine g_iadd (pc := 77) C dX7_writeByte_77 (fun z18 ez18 => ?_)
          have hz18 : zI 32768 33023 z18 := zi_add (zi_c 32768 (a := 32768) (b := 32768) (by decide)) hz17 ez18 (by decide)
          refine g_iload_n (pc := 78) C dX7_writeByte_78 rfl 2 rfl ?_
          refine g_i2b (pc := 79) C dX7_writeByte_79 (fun z19 ez19 => ?_)
          have hz19 : zI (-128) 127 z19 := zi_i2b ez19
          refine sr_2 (pc := 80) C (zi_in hz18 (by decide)) dX7_writeByte_80 ?_
          exact g_sub [0, 1, 2] rfl (J81 )
      · have h20 : zI 40960 65535 p0 := zr_le2 (zc_nlt c10) (zi_c 40960 (a := 40960) (b := 40960) (by decide)) hp0 (by decide)
        exact g_sub [0, 1, 2] rfl (J44 (zi_w h20 (a' := 8192) (b' := 65535) (by decide)))
  · have h21 : zI 1 1 r2 := zr_neL c3 hr2 (zi_c 0 (a := 0) (b := 0) (by decide)) (by decide)
    refine g_aload_n (pc := 7) C dX7_writeByte_7 rfl 0 rfl ?_
    refine g_iload_n (pc := 8) C dX7_writeByte_8 rfl 1 rfl ?_
    refine g_sipush (pc := 9) C 1024 dX7_writeByte_9 (by decide) ?_
    refine g_idiv (pc := 12) C dX7_writeByte_12 (by decide) (fun z22 ez22 => ?_)
    have hz22 : zI 0 63 z22 := zi_div hp0 (zi_c 1024 (a := 1024) (b := 1024) (by decide)) ez22 (by decide)
    refine g_iload_n (pc := 13) C dX7_writeByte_13 rfl 1 rfl ?_
    refine g_iconst (pc := 14) C 2 dX7_writeByte_14 (by decide) ?_
    refine g_idiv (pc := 15) C dX7_writeByte_15 (by decide) (fun z23 ez23 => ?_)
    have hz23 : zI 0 32767 z23 := zi_div hp0 (zi_c 2 (a := 2) (b := 2) (by decide)) ez23 (by decide)
    refine g_iconst (pc := 16) C 2 dX7_writeByte_16 (by decide) ?_
    refine g_irem (pc := 17) C dX7_writeByte_17 (by decide) (fun z24 ez24 => ?_)
    have hz24 : zI 0 1 z24 := zi_rem hz23 (zi_c 2 (a := 2) (b := 2) (by decide)) ez24 (by decide)
    refine g_iload_n (pc := 18) C dX7_writeByte_18 rfl 2 rfl ?_
    refine zcallVv (pc := 19) (st := []) C C.2.2.2.2.2 (n_X7_writePort l D ad cy tl A z22 z24 p1 hp1) (cwV 3 C.2.2.2.2.1 gw_RX7_68 rfl rfl rfl cd_X7_writePort ⟨Nat.le_of_ble_eq_true rfl, Nat.le_of_ble_eq_true rfl⟩) (hr_0 C) rfl rfl (Nat.le_of_ble_eq_true rfl) ⟨Nat.le_of_ble_eq_true rfl, Nat.le_of_ble_eq_true rfl⟩ dX7_writeByte_19 ?_
    refine g_goto (pc := 22) C 81 dX7_writeByte_22 (by decide) ?_
    exact g_sub [0, 1, 2] rfl (J81 )

set_option maxHeartbeats 2000000 in
set_option maxRecDepth 100000 in
theorem n_X7_readWord (l : Launch) (D : va_G) (ad : Nat → Nat) (cy : Nat → ClassId) (tl : Int32) (A : Nat → Prop) (p0 : Int32) : zMi l yX7_readWord wz_X7_readWord ({ frames := 3, cells := 0, slots := 0, locals := 64 }) [.ref (ad 0), .int p0] D (zTr cy) A (zMr D A ad cy tl) (fun r H => zI 0 65535 r ∧ (zMr D A ad cy tl) H) := by
  refine zstart_i (cc := cX7_readWord) (maxL := 4) (ty := .int) (own := RX7) (by decide) rfl rfl (Nat.le_of_ble_eq_true rfl) (fun p e s m args below meth c Q C r => ?_)
  refine g_sub (lv' := [(0, .ref (ad 0)), (1, .int p0)]) [0, 1] rfl ?_
  refine g_iload_n (pc := 0) C dX7_readWord_0 rfl 1 rfl ?_
  refine g_ldc (pc := 1) C dX7_readWord_1 (C.wd wk_792) ?_
  refine g_iand (pc := 3) C dX7_readWord_3 (fun z1 ez1 => ?_)
  have vz1 : zEv z1 := zev_and ez1
  have hz1 : zI 0 65534 z1 := zi_and1 (zi_c 65534 (a := 0) (b := 65534) (by decide)) ez1
  refine g_istore_n (pc := 4) C ([(2, .int z1), (0, .ref (ad 0)), (1, .int p0)]) dX7_readWord_4 rfl (Nat.le_of_ble_eq_true rfl) rfl ?_
  refine g_aload_n (pc := 5) C dX7_readWord_5 rfl 1 rfl ?_
  refine g_iload_n (pc := 6) C dX7_readWord_6 rfl 0 rfl ?_
  refine zcallVi (pc := 7) (st := []) C C.2.2.2.2.2 (n_X7_readByte l D ad cy tl A z1 (zi_w hz1 (a' := 0) (b' := 65535) (by decide))) (cwV 1 C.2.2.2.2.1 gw_RX7_73 rfl rfl rfl cd_X7_readByte ⟨Nat.le_of_ble_eq_true rfl, Nat.le_of_ble_eq_true rfl⟩) (hr_0 C) rfl rfl (Nat.le_of_ble_eq_true rfl) ⟨Nat.le_of_ble_eq_true rfl, Nat.le_of_ble_eq_true rfl⟩ dX7_readWord_7 (fun r2 => ?_)
  refine g_and (M2 := (zMr D A ad cy tl)) (fun hr2 => ?_)
  refine g_istore_n (pc := 10) C ([(3, .int r2), (2, .int z1), (0, .ref (ad 0)), (1, .int p0)]) dX7_readWord_10 rfl (Nat.le_of_ble_eq_true rfl) rfl ?_
  refine g_sipush (pc := 11) C 256 dX7_readWord_11 (by decide) ?_
  refine g_iload_n (pc := 14) C dX7_readWord_14 rfl 0 rfl ?_
  refine g_imul (pc := 15) C dX7_readWord_15 (fun z3 ez3 => ?_)
  have hz3 : zI 0 65280 z3 := zi_mul (zi_c 256 (a := 256) (b := 256) (by decide)) hr2 ez3 (by decide)
  refine g_aload_n (pc := 16) C dX7_readWord_16 rfl 2 rfl ?_
  refine g_iload_n (pc := 17) C dX7_readWord_17 rfl 1 rfl ?_
  refine g_iconst (pc := 18) C 1 dX7_readWord_18 (by decide) ?_
  refine g_iadd (pc := 19) C dX7_readWord_19 (fun z4 ez4 => ?_)
  have hz4 : zI 1 65535 z4 := zi_add hz1 (zi_c 1 (a := 1) (b := 1) (by decide)) ez4 (by decide)
  refine zcallVi (pc := 20) (st := [.int z3]) C C.2.2.2.2.2 (n_X7_readByte l D ad cy tl A z4 (zi_w hz4 (a' := 0) (b' := 65535) (by decide))) (cwV 1 C.2.2.2.2.1 gw_RX7_73 rfl rfl rfl cd_X7_readByte ⟨Nat.le_of_ble_eq_true rfl, Nat.le_of_ble_eq_true rfl⟩) (hr_0 C) rfl rfl (Nat.le_of_ble_eq_true rfl) ⟨Nat.le_of_ble_eq_true rfl, Nat.le_of_ble_eq_true rfl⟩ dX7_readWord_20 (fun r5 => ?_)
  refine g_and (M2 := (zMr D A ad cy tl)) (fun hr5 => ?_)
  refine g_iadd (pc := 23) C dX7_readWord_23 (fun z6 ez6 => ?_)
  have hz6 : zI 0 65535 z6 := zi_add hz3 hr5 ez6 (by decide)
  exact g_ireturn r dX7_readWord_24 rfl (fun _ h => ⟨hz6, h⟩)

set_option maxHeartbeats 2000000 in
set_option maxRecDepth 100000 in
theorem n_X7_writeWord (l : Launch) (D : va_G) (ad : Nat → Nat) (cy : Nat → ClassId) (tl : Int32) (A : Nat → Prop) (p0 : Int32) (p1 : Int32) : zMv l yX7_writeWord wz_X7_writeWord ({ frames := 4, cells := 0, slots := 0, locals := 86 }) [.ref (ad 0), .int p0, .int p1] D (zTr cy) A (zMr D A ad cy tl) (zMr D A ad cy tl) := by
  refine zstart_v (cc := cX7_writeWord) (maxL := 4) (own := RX7) (by decide) rfl rfl (Nat.le_of_ble_eq_true rfl) (fun p e s m args below meth c Q C r => ?_)
  refine g_sub (lv' := [(0, .ref (ad 0)), (1, .int p0), (2, .int p1)]) [0, 1, 2] rfl ?_
  refine g_iload_n (pc := 0) C dX7_writeWord_0 rfl 1 rfl ?_
  refine g_ldc (pc := 1) C dX7_writeWord_1 (C.wd wk_792) ?_
  refine g_iand (pc := 3) C dX7_writeWord_3 (fun z1 ez1 => ?_)
  have vz1 : zEv z1 := zev_and ez1
  have hz1 : zI 0 65534 z1 := zi_and1 (zi_c 65534 (a := 0) (b := 65534) (by decide)) ez1
  refine g_istore_n (pc := 4) C ([(3, .int z1), (0, .ref (ad 0)), (1, .int p0), (2, .int p1)]) dX7_writeWord_4 rfl (Nat.le_of_ble_eq_true rfl) rfl ?_
  refine g_aload_n (pc := 5) C dX7_writeWord_5 rfl 1 rfl ?_
  refine g_iload_n (pc := 6) C dX7_writeWord_6 rfl 0 rfl ?_
  refine g_iload_n (pc := 7) C dX7_writeWord_7 rfl 3 rfl ?_
  refine g_bipush (pc := 8) C 8 dX7_writeWord_8 (by decide) ?_
  refine g_ishr (pc := 10) C dX7_writeWord_10 (fun z2 ez2 => ?_)
  refine g_sipush (pc := 11) C 255 dX7_writeWord_11 (by decide) ?_
  refine g_iand (pc := 14) C dX7_writeWord_14 (fun z3 ez3 => ?_)
  have hz3 : zI 0 255 z3 := zi_and1 (zi_c 255 (a := 0) (b := 255) (by decide)) ez3
  refine zcallVv (pc := 15) (st := []) C C.2.2.2.2.2 (n_X7_writeByte l D ad cy tl A z1 z3 (zi_w hz1 (a' := 0) (b' := 65535) (by decide)) hz3) (cwV 2 C.2.2.2.2.1 gw_RX7_76 rfl rfl rfl cd_X7_writeByte ⟨Nat.le_of_ble_eq_true rfl, Nat.le_of_ble_eq_true rfl⟩) (hr_0 C) rfl rfl (Nat.le_of_ble_eq_true rfl) ⟨Nat.le_of_ble_eq_true rfl, Nat.le_of_ble_eq_true rfl⟩ dX7_writeWord_15 ?_
  refine g_aload_n (pc := 18) C dX7_writeWord_18 rfl 1 rfl ?_
  refine g_iload_n (pc := 19) C dX7_writeWord_19 rfl 0 rfl ?_
  refine g_iconst (pc := 20) C 1 dX7_writeWord_20 (by decide) ?_
  refine g_iadd (pc := 21) C dX7_writeWord_21 (fun z4 ez4 => ?_)
  have hz4 : zI 1 65535 z4 := zi_add hz1 (zi_c 1 (a := 1) (b := 1) (by decide)) ez4 (by decide)
  refine g_iload_n (pc := 22) C dX7_writeWord_22 rfl 3 rfl ?_
  refine g_sipush (pc := 23) C 255 dX7_writeWord_23 (by decide) ?_
  refine g_iand (pc := 26) C dX7_writeWord_26 (fun z5 ez5 => ?_)
  have hz5 : zI 0 255 z5 := zi_and1 (zi_c 255 (a := 0) (b := 255) (by decide)) ez5
  refine zcallVv (pc := 27) (st := []) C C.2.2.2.2.2 (n_X7_writeByte l D ad cy tl A z4 z5 (zi_w hz4 (a' := 0) (b' := 65535) (by decide)) hz5) (cwV 2 C.2.2.2.2.1 gw_RX7_76 rfl rfl rfl cd_X7_writeByte ⟨Nat.le_of_ble_eq_true rfl, Nat.le_of_ble_eq_true rfl⟩) (hr_0 C) rfl rfl (Nat.le_of_ble_eq_true rfl) ⟨Nat.le_of_ble_eq_true rfl, Nat.le_of_ble_eq_true rfl⟩ dX7_writeWord_27 ?_
  exact g_return r dX7_writeWord_30 (fun _ h => h)

set_option maxHeartbeats 2000000 in
set_option maxRecDepth 100000 in
theorem n_X7_inOf (l : Launch) (D : va_G) (ad : Nat → Nat) (cy : Nat → ClassId) (tl : Int32) (A : Nat → Prop) (p0 : Int32) (hp0 : zI 0 4095 p0) : zMi l yX7_inOf wz_X7_inOf ({ frames := 1, cells := 0, slots := 0, locals := 22 }) [.ref (ad 0), .int p0] D (zTr cy) A (zMr D A ad cy tl) (fun r H => zI 0 1 r ∧ (zMr D A ad cy tl) H) := by
  refine zstart_i (cc := cX7_inOf) (maxL := 3) (ty := .int) (own := RX7) (by decide) rfl rfl (Nat.le_of_ble_eq_true rfl) (fun p e s m args below meth c Q C r => ?_)
  have J17 : ∀ (b0_17 : Int32) (_ : zI 2 2 p0) (_ : zI 0 1 b0_17), zG p l e ({ frames := 1, cells := 0, slots := 0, locals := 22 }) s m args below meth c 3 0 0 A Q (zMr D A ad cy tl) 17 [(0, .ref (ad 0)), (1, .int p0)] [.int b0_17] := by
    intro b0_17 hc_a1_17 hb0_17
    exact g_ireturn r dX7_inOf_17 rfl (fun _ h => ⟨hb0_17, h⟩)
  have J97 : ∀ (a2_97 : Int32) (b0_97 : Int32) (_ : zI 3 10 p0) (_ : zI 0 7 a2_97) (_ : zI 0 1 b0_97), zG p l e ({ frames := 1, cells := 0, slots := 0, locals := 22 }) s m args below meth c 3 0 0 A Q (zMr D A ad cy tl) 97 [(0, .ref (ad 0)), (1, .int p0), (2, .int a2_97)] [.int b0_97] := by
    intro a2_97 b0_97 hc_a1_97 ha2_97 hb0_97
    exact g_ireturn r dX7_inOf_97 rfl (fun _ h => ⟨hb0_97, h⟩)
  have J74 : ∀ (b0_74 : Int32) (b1_74 : Int32) (_ : zI 3 10 p0) (_ : zI 0 4 b0_74) (_ : zI 0 3 b1_74), zG p l e ({ frames := 1, cells := 0, slots := 0, locals := 22 }) s m args below meth c 3 0 0 A Q (zMr D A ad cy tl) 74 [(0, .ref (ad 0)), (1, .int p0)] [.int b0_74, .int b1_74] := by
    intro b0_74 b1_74 hc_a1_74 hb0_74 hb1_74
    refine g_iadd (pc := 74) C dX7_inOf_74 (fun z1 ez1 => ?_)
    have hz1 : zI 0 7 z1 := zi_add hb1_74 hb0_74 ez1 (by decide)
    refine g_istore_n (pc := 75) C ([(2, .int z1), (0, .ref (ad 0)), (1, .int p0)]) dX7_inOf_75 rfl (Nat.le_of_ble_eq_true rfl) rfl ?_
    refine g_aload_n (pc := 76) C dX7_inOf_76 rfl 1 rfl ?_
    refine gr_0_15 (pc := 77) C wk_708 dX7_inOf_77 ?_
    refine g_bipush (pc := 80) C 8 dX7_inOf_80 (by decide) ?_
    refine g_iload_n (pc := 82) C dX7_inOf_82 rfl 0 rfl ?_
    refine g_imul (pc := 83) C dX7_inOf_83 (fun z2 ez2 => ?_)
    have hz2 : zI 0 56 z2 := zi_mul (zi_c 8 (a := 8) (b := 8) (by decide)) hz1 ez2 (by decide)
    refine g_iload_n (pc := 84) C dX7_inOf_84 rfl 2 rfl ?_
    refine g_iadd (pc := 85) C dX7_inOf_85 (fun z3 ez3 => ?_)
    have hz3 : zI 3 66 z3 := zi_add hz2 hc_a1_74 ez3 (by decide)
    refine g_iconst (pc := 86) C 3 dX7_inOf_86 (by decide) ?_
    refine g_isub (pc := 87) C dX7_inOf_87 (fun z4 ez4 => ?_)
    have hz4 : zI 0 63 z4 := zi_sub hz3 (zi_c 3 (a := 3) (b := 3) (by decide)) ez4 (by decide)
    refine lr_7 (pc := 88) C (zi_in hz4 (by decide)) dX7_inOf_88 (fun z5 => ?_)
    refine g_if_eq (pc := 89) C 96 dX7_inOf_89 (by decide) (fun c6 => ?_) (fun c6 => ?_)
    · have h7 : zI 0 0 z5 := zr_eq c6 (zi_full z5) (zi_c 0 (a := 0) (b := 0) (by decide)) (by decide)
      refine g_iconst (pc := 96) C 1 dX7_inOf_96 (by decide) ?_
      exact g_sub [1, 2, 0] rfl (J97 z1 1 hc_a1_74 hz1 (zi_c 1 (a := 0) (b := 1) (by decide)))
    · refine g_iconst (pc := 92) C 0 dX7_inOf_92 (by decide) ?_
      refine g_goto (pc := 93) C 97 dX7_inOf_93 (by decide) ?_
      exact g_sub [1, 2, 0] rfl (J97 z1 0 hc_a1_74 hz1 (zi_c 0 (a := 0) (b := 1) (by decide)))
  have J58 : ∀ (b0_58 : Int32) (b1_58 : Int32) (_ : zI 3 10 p0) (_ : zI 0 2 b0_58) (_ : zI 0 1 b1_58), zG p l e ({ frames := 1, cells := 0, slots := 0, locals := 22 }) s m args below meth c 3 0 0 A Q (zMr D A ad cy tl) 58 [(0, .ref (ad 0)), (1, .int p0)] [.int b0_58, .int b1_58] := by
    intro b0_58 b1_58 hc_a1_58 hb0_58 hb1_58
    refine g_iadd (pc := 58) C dX7_inOf_58 (fun z8 ez8 => ?_)
    have hz8 : zI 0 3 z8 := zi_add hb1_58 hb0_58 ez8 (by decide)
    refine g_aload_n (pc := 59) C dX7_inOf_59 rfl 0 rfl ?_
    refine gr_0_14 (pc := 60) C wk_707 dX7_inOf_60 ?_
    refine g_bipush (pc := 63) C 20 dX7_inOf_63 (by decide) ?_
    refine lr_6 (pc := 65) C (zi_in (zi_c 20 (a := 20) (b := 20) (by decide)) (by decide)) dX7_inOf_65 (fun z9 => ?_)
    refine g_if_eq (pc := 66) C 73 dX7_inOf_66 (by decide) (fun c10 => ?_) (fun c10 => ?_)
    · have h11 : zI 0 0 z9 := zr_eq c10 (zi_full z9) (zi_c 0 (a := 0) (b := 0) (by decide)) (by decide)
      refine g_iconst (pc := 73) C 0 dX7_inOf_73 (by decide) ?_
      exact g_sub [0, 1] rfl (J74 0 z8 hc_a1_58 (zi_c 0 (a := 0) (b := 4) (by decide)) hz8)
    · refine g_iconst (pc := 69) C 4 dX7_inOf_69 (by decide) ?_
      refine g_goto (pc := 70) C 74 dX7_inOf_70 (by decide) ?_
      exact g_sub [0, 1] rfl (J74 4 z8 hc_a1_58 (zi_c 4 (a := 0) (b := 4) (by decide)) hz8)
  have J43 : ∀ (b0_43 : Int32) (_ : zI 3 10 p0) (_ : zI 0 1 b0_43), zG p l e ({ frames := 1, cells := 0, slots := 0, locals := 22 }) s m args below meth c 3 0 0 A Q (zMr D A ad cy tl) 43 [(0, .ref (ad 0)), (1, .int p0)] [.int b0_43] := by
    intro b0_43 hc_a1_43 hb0_43
    refine g_aload_n (pc := 43) C dX7_inOf_43 rfl 0 rfl ?_
    refine gr_0_14 (pc := 44) C wk_707 dX7_inOf_44 ?_
    refine g_bipush (pc := 47) C 19 dX7_inOf_47 (by decide) ?_
    refine lr_6 (pc := 49) C (zi_in (zi_c 19 (a := 19) (b := 19) (by decide)) (by decide)) dX7_inOf_49 (fun z12 => ?_)
    refine g_if_eq (pc := 50) C 57 dX7_inOf_50 (by decide) (fun c13 => ?_) (fun c13 => ?_)
    · have h14 : zI 0 0 z12 := zr_eq c13 (zi_full z12) (zi_c 0 (a := 0) (b := 0) (by decide)) (by decide)
      refine g_iconst (pc := 57) C 0 dX7_inOf_57 (by decide) ?_
      exact g_sub [0, 1] rfl (J58 0 b0_43 hc_a1_43 (zi_c 0 (a := 0) (b := 2) (by decide)) hb0_43)
    · refine g_iconst (pc := 53) C 2 dX7_inOf_53 (by decide) ?_
      refine g_goto (pc := 54) C 58 dX7_inOf_54 (by decide) ?_
      exact g_sub [0, 1] rfl (J58 2 b0_43 hc_a1_43 (zi_c 2 (a := 0) (b := 2) (by decide)) hb0_43)
  have J112 : ∀ (b0_112 : Int32) (_ : zI 0 1 b0_112), zG p l e ({ frames := 1, cells := 0, slots := 0, locals := 22 }) s m args below meth c 3 0 0 A Q (zMr D A ad cy tl) 112 [(0, .ref (ad 0)), (1, .int p0)] [.int b0_112] := by
    intro b0_112 hb0_112
    exact g_ireturn r dX7_inOf_112 rfl (fun _ h => ⟨hb0_112, h⟩)
  refine g_sub (lv' := [(0, .ref (ad 0)), (1, .int p0)]) [0, 1] rfl ?_
  refine g_iload_n (pc := 0) C dX7_inOf_0 rfl 1 rfl ?_
  refine g_iconst (pc := 1) C 2 dX7_inOf_1 (by decide) ?_
  refine g_icmp_ne (pc := 2) C 18 dX7_inOf_2 (by decide) (fun c15 => ?_) (fun c15 => ?_)
  · refine g_iload_n (pc := 18) C dX7_inOf_18 rfl 1 rfl ?_
    refine g_iconst (pc := 19) C 3 dX7_inOf_19 (by decide) ?_
    refine g_bipush (pc := 20) C 10 dX7_inOf_20 (by decide) ?_
    refine zcallSi (pc := 22) (st := []) C C.2.2.2.2.2 (n_X7_in l D ad cy tl A p0 3 10 3 10 (by decide) (by decide)) (va_cwS 3 C.2.2.2.2.1 gw_RX7_47 rfl rfl rfl cs_X7_in ⟨Nat.le_of_ble_eq_true rfl, Nat.le_of_ble_eq_true rfl⟩) rfl rfl (Nat.le_of_ble_eq_true rfl) ⟨Nat.le_of_ble_eq_true rfl, Nat.le_of_ble_eq_true rfl⟩ dX7_inOf_22 (fun r16 => ?_)
    refine g_and (M2 := (zMr D A ad cy tl)) (fun hr16 => ?_)
    have kr16 := zin_01 hr16
    refine g_if_eq (pc := 25) C 98 dX7_inOf_25 (by decide) (fun c17 => ?_) (fun c17 => ?_)
    · have h18 : zI 0 0 r16 := zr_eq c17 kr16 (zi_c 0 (a := 0) (b := 0) (by decide)) (by decide)
      refine g_aload_n (pc := 98) C dX7_inOf_98 rfl 0 rfl ?_
      refine gr_0_14 (pc := 99) C wk_707 dX7_inOf_99 ?_
      refine g_iload_n (pc := 102) C dX7_inOf_102 rfl 1 rfl ?_
      refine lr_6 (pc := 103) C (zi_in hp0 (by decide)) dX7_inOf_103 (fun z19 => ?_)
      refine g_if_eq (pc := 104) C 111 dX7_inOf_104 (by decide) (fun c20 => ?_) (fun c20 => ?_)
      · have h21 : zI 0 0 z19 := zr_eq c20 (zi_full z19) (zi_c 0 (a := 0) (b := 0) (by decide)) (by decide)
        refine g_iconst (pc := 111) C 0 dX7_inOf_111 (by decide) ?_
        exact g_sub [0, 1] rfl (J112 0 (zi_c 0 (a := 0) (b := 1) (by decide)))
      · refine g_iconst (pc := 107) C 1 dX7_inOf_107 (by decide) ?_
        refine g_goto (pc := 108) C 112 dX7_inOf_108 (by decide) ?_
        exact g_sub [0, 1] rfl (J112 1 (zi_c 1 (a := 0) (b := 1) (by decide)))
    · have h22 : zI 3 10 p0 := zin_1 hr16 c17
      have h23 : zI 1 1 r16 := zr_neL c17 kr16 (zi_c 0 (a := 0) (b := 0) (by decide)) (by decide)
      refine g_aload_n (pc := 28) C dX7_inOf_28 rfl 0 rfl ?_
      refine gr_0_14 (pc := 29) C wk_707 dX7_inOf_29 ?_
      refine g_bipush (pc := 32) C 18 dX7_inOf_32 (by decide) ?_
      refine lr_6 (pc := 34) C (zi_in (zi_c 18 (a := 18) (b := 18) (by decide)) (by decide)) dX7_inOf_34 (fun z24 => ?_)
      refine g_if_eq (pc := 35) C 42 dX7_inOf_35 (by decide) (fun c25 => ?_) (fun c25 => ?_)
      · have h26 : zI 0 0 z24 := zr_eq c25 (zi_full z24) (zi_c 0 (a := 0) (b := 0) (by decide)) (by decide)
        refine g_iconst (pc := 42) C 0 dX7_inOf_42 (by decide) ?_
        exact g_sub [0, 1] rfl (J43 0 h22 (zi_c 0 (a := 0) (b := 1) (by decide)))
      · refine g_iconst (pc := 38) C 1 dX7_inOf_38 (by decide) ?_
        refine g_goto (pc := 39) C 43 dX7_inOf_39 (by decide) ?_
        exact g_sub [0, 1] rfl (J43 1 h22 (zi_c 1 (a := 0) (b := 1) (by decide)))
  · have h27 : zI 2 2 p0 := zr_eq c15 hp0 (zi_c 2 (a := 2) (b := 2) (by decide)) (by decide)
    refine g_aload_n (pc := 5) C dX7_inOf_5 rfl 0 rfl ?_
    refine gr_0_9 (pc := 6) C wk_702 dX7_inOf_6 (fun z28 => ?_)
    refine g_if_eq (pc := 9) C 16 dX7_inOf_9 (by decide) (fun c29 => ?_) (fun c29 => ?_)
    · have h30 : zI 0 0 z28 := zr_eq c29 (zi_full z28) (zi_c 0 (a := 0) (b := 0) (by decide)) (by decide)
      refine g_iconst (pc := 16) C 1 dX7_inOf_16 (by decide) ?_
      exact g_sub [0, 1] rfl (J17 1 h27 (zi_c 1 (a := 0) (b := 1) (by decide)))
    · refine g_iconst (pc := 12) C 0 dX7_inOf_12 (by decide) ?_
      refine g_goto (pc := 13) C 17 dX7_inOf_13 (by decide) ?_
      exact g_sub [0, 1] rfl (J17 0 h27 (zi_c 0 (a := 0) (b := 1) (by decide)))

set_option maxHeartbeats 2000000 in
set_option maxRecDepth 100000 in
theorem n_X7_registerAt (l : Launch) (D : va_G) (ad : Nat → Nat) (cy : Nat → ClassId) (tl : Int32) (A : Nat → Prop) (p0 : Int32) : zMi l yX7_registerAt wz_X7_registerAt ({ frames := 0, cells := 0, slots := 0, locals := 0 }) [.ref (ad 0), .int p0] D (zTr cy) A (zMr D A ad cy tl) (fun r H => zI 0 65534 r ∧ (zMr D A ad cy tl) H) := by
  refine zstart_i (cc := cX7_registerAt) (maxL := 2) (ty := .int) (own := RX7) (by decide) rfl rfl (Nat.le_of_ble_eq_true rfl) (fun p e s m args below meth c Q C r => ?_)
  refine g_sub (lv' := [(0, .ref (ad 0)), (1, .int p0)]) [0, 1] rfl ?_
  refine g_aload_n (pc := 0) C dX7_registerAt_0 rfl 0 rfl ?_
  refine gr_0_17 (pc := 1) C wk_710 dX7_registerAt_1 (fun z1 vz1 => ?_)
  refine g_iconst (pc := 4) C 2 dX7_registerAt_4 (by decide) ?_
  refine g_iload_n (pc := 5) C dX7_registerAt_5 rfl 1 rfl ?_
  refine g_imul (pc := 6) C dX7_registerAt_6 (fun z2 ez2 => ?_)
  have vz2 : zEv z2 := zev_mul ez2
  refine g_iadd (pc := 7) C dX7_registerAt_7 (fun z3 ez3 => ?_)
  have vz3 : zEv z3 := zev_add vz1 vz2 ez3
  refine g_ldc (pc := 8) C dX7_registerAt_8 (C.wd wk_816) ?_
  refine g_iand (pc := 10) C dX7_registerAt_10 (fun z4 ez4 => ?_)
  have vz4 : zEv z4 := zev_andx vz3 ez4
  have hz4 : zI 0 65534 z4 := zev_hi (zi_and1 (zi_c 65535 (a := 0) (b := 65535) (by decide)) ez4) vz4
  exact g_ireturn r dX7_registerAt_11 rfl (fun _ h => ⟨hz4, h⟩)

set_option maxHeartbeats 2000000 in
set_option maxRecDepth 100000 in
theorem n_X7_register (l : Launch) (D : va_G) (ad : Nat → Nat) (cy : Nat → ClassId) (tl : Int32) (A : Nat → Prop) (p0 : Int32) : zMi l yX7_register wz_X7_register ({ frames := 4, cells := 0, slots := 0, locals := 87 }) [.ref (ad 0), .int p0] D (zTr cy) A (zMr D A ad cy tl) (fun r H => zI 0 65535 r ∧ (zMr D A ad cy tl) H) := by
  refine zstart_i (cc := cX7_register) (maxL := 2) (ty := .int) (own := RX7) (by decide) rfl rfl (Nat.le_of_ble_eq_true rfl) (fun p e s m args below meth c Q C r => ?_)
  refine g_sub (lv' := [(0, .ref (ad 0)), (1, .int p0)]) [0, 1] rfl ?_
  refine g_aload_n (pc := 0) C dX7_register_0 rfl 0 rfl ?_
  refine g_aload_n (pc := 1) C dX7_register_1 rfl 0 rfl ?_
  refine g_iload_n (pc := 2) C dX7_register_2 rfl 1 rfl ?_
  refine zcallVi (pc := 3) (st := [.ref (ad 0)]) C C.2.2.2.2.2 (n_X7_registerAt l D ad cy tl A p0) (cwV 1 C.2.2.2.2.1 gw_RX7_119 rfl rfl rfl cd_X7_registerAt ⟨Nat.le_of_ble_eq_true rfl, Nat.le_of_ble_eq_true rfl⟩) (hr_0 C) rfl rfl (Nat.le_of_ble_eq_true rfl) ⟨Nat.le_of_ble_eq_true rfl, Nat.le_of_ble_eq_true rfl⟩ dX7_register_3 (fun r1 => ?_)
  refine g_and (M2 := (zMr D A ad cy tl)) (fun hr1 => ?_)
  refine zcallVi (pc := 6) (st := []) C C.2.2.2.2.2 (n_X7_readWord l D ad cy tl A r1) (cwV 1 C.2.2.2.2.1 gw_RX7_122 rfl rfl rfl cd_X7_readWord ⟨Nat.le_of_ble_eq_true rfl, Nat.le_of_ble_eq_true rfl⟩) (hr_0 C) rfl rfl (Nat.le_of_ble_eq_true rfl) ⟨Nat.le_of_ble_eq_true rfl, Nat.le_of_ble_eq_true rfl⟩ dX7_register_6 (fun r2 => ?_)
  refine g_and (M2 := (zMr D A ad cy tl)) (fun hr2 => ?_)
  exact g_ireturn r dX7_register_9 rfl (fun _ h => ⟨hr2, h⟩)

set_option maxHeartbeats 2000000 in
set_option maxRecDepth 100000 in
theorem n_X7_register_ (l : Launch) (D : va_G) (ad : Nat → Nat) (cy : Nat → ClassId) (tl : Int32) (A : Nat → Prop) (p0 : Int32) (p1 : Int32) : zMv l yX7_register_ wz_X7_register_ ({ frames := 5, cells := 0, slots := 0, locals := 109 }) [.ref (ad 0), .int p0, .int p1] D (zTr cy) A (zMr D A ad cy tl) (zMr D A ad cy tl) := by
  refine zstart_v (cc := cX7_register_) (maxL := 3) (own := RX7) (by decide) rfl rfl (Nat.le_of_ble_eq_true rfl) (fun p e s m args below meth c Q C r => ?_)
  refine g_sub (lv' := [(0, .ref (ad 0)), (1, .int p0), (2, .int p1)]) [0, 1, 2] rfl ?_
  refine g_aload_n (pc := 0) C dX7_register__0 rfl 0 rfl ?_
  refine g_aload_n (pc := 1) C dX7_register__1 rfl 0 rfl ?_
  refine g_iload_n (pc := 2) C dX7_register__2 rfl 1 rfl ?_
  refine zcallVi (pc := 3) (st := [.ref (ad 0)]) C C.2.2.2.2.2 (n_X7_registerAt l D ad cy tl A p0) (cwV 1 C.2.2.2.2.1 gw_RX7_119 rfl rfl rfl cd_X7_registerAt ⟨Nat.le_of_ble_eq_true rfl, Nat.le_of_ble_eq_true rfl⟩) (hr_0 C) rfl rfl (Nat.le_of_ble_eq_true rfl) ⟨Nat.le_of_ble_eq_true rfl, Nat.le_of_ble_eq_true rfl⟩ dX7_register__3 (fun r1 => ?_)
  refine g_and (M2 := (zMr D A ad cy tl)) (fun hr1 => ?_)
  refine g_iload_n (pc := 6) C dX7_register__6 rfl 2 rfl ?_
  refine zcallVv (pc := 7) (st := []) C C.2.2.2.2.2 (n_X7_writeWord l D ad cy tl A r1 p1) (cwV 2 C.2.2.2.2.1 gw_RX7_125 rfl rfl rfl cd_X7_writeWord ⟨Nat.le_of_ble_eq_true rfl, Nat.le_of_ble_eq_true rfl⟩) (hr_0 C) rfl rfl (Nat.le_of_ble_eq_true rfl) ⟨Nat.le_of_ble_eq_true rfl, Nat.le_of_ble_eq_true rfl⟩ dX7_register__7 ?_
  exact g_return r dX7_register__10 (fun _ h => h)

set_option maxHeartbeats 2000000 in
set_option maxRecDepth 100000 in
theorem n_X7_nextWord (l : Launch) (D : va_G) (ad : Nat → Nat) (cy : Nat → ClassId) (tl : Int32) (A : Nat → Prop) : zMi l yX7_nextWord wz_X7_nextWord ({ frames := 4, cells := 0, slots := 0, locals := 87 }) [.ref (ad 0)] D (zTr cy) A (zMr D A ad cy tl) (fun r H => zI 0 65535 r ∧ (zMr D A ad cy tl) H) := by
  refine zstart_i (cc := cX7_nextWord) (maxL := 2) (ty := .int) (own := RX7) (by decide) rfl rfl (Nat.le_of_ble_eq_true rfl) (fun p e s m args below meth c Q C r => ?_)
  refine g_sub (lv' := [(0, .ref (ad 0))]) [0] rfl ?_
  refine g_aload_n (pc := 0) C dX7_nextWord_0 rfl 0 rfl ?_
  refine g_aload_n (pc := 1) C dX7_nextWord_1 rfl 0 rfl ?_
  refine gr_0_16 (pc := 2) C wk_709 dX7_nextWord_2 (fun z1 => ?_)
  refine zcallVi (pc := 5) (st := []) C C.2.2.2.2.2 (n_X7_readWord l D ad cy tl A z1) (cwV 1 C.2.2.2.2.1 gw_RX7_122 rfl rfl rfl cd_X7_readWord ⟨Nat.le_of_ble_eq_true rfl, Nat.le_of_ble_eq_true rfl⟩) (hr_0 C) rfl rfl (Nat.le_of_ble_eq_true rfl) ⟨Nat.le_of_ble_eq_true rfl, Nat.le_of_ble_eq_true rfl⟩ dX7_nextWord_5 (fun r2 => ?_)
  refine g_and (M2 := (zMr D A ad cy tl)) (fun hr2 => ?_)
  refine g_istore_n (pc := 8) C ([(1, .int r2), (0, .ref (ad 0))]) dX7_nextWord_8 rfl (Nat.le_of_ble_eq_true rfl) rfl ?_
  refine g_aload_n (pc := 9) C dX7_nextWord_9 rfl 1 rfl ?_
  refine g_aload_n (pc := 10) C dX7_nextWord_10 rfl 1 rfl ?_
  refine gr_0_16 (pc := 11) C wk_709 dX7_nextWord_11 (fun z3 => ?_)
  refine g_iconst (pc := 14) C 2 dX7_nextWord_14 (by decide) ?_
  refine g_iadd (pc := 15) C dX7_nextWord_15 (fun z4 ez4 => ?_)
  refine g_ldc (pc := 16) C dX7_nextWord_16 (C.wd wk_792) ?_
  refine g_iand (pc := 18) C dX7_nextWord_18 (fun z5 ez5 => ?_)
  have vz5 : zEv z5 := zev_and ez5
  have hz5 : zI 0 65534 z5 := zi_and1 (zi_c 65534 (a := 0) (b := 65534) (by decide)) ez5
  refine pr_0_16 (pc := 19) C wk_709 dX7_nextWord_19 ?_
  refine g_iload_n (pc := 22) C dX7_nextWord_22 rfl 0 rfl ?_
  exact g_ireturn r dX7_nextWord_23 rfl (fun _ h => ⟨hr2, h⟩)

set_option maxHeartbeats 2000000 in
set_option maxRecDepth 100000 in
theorem n_X7_flag (l : Launch) (D : va_G) (ad : Nat → Nat) (cy : Nat → ClassId) (tl : Int32) (A : Nat → Prop) (p0 : Int32) (p1 : Int32) : zMv l yX7_flag wz_X7_flag ({ frames := 0, cells := 0, slots := 0, locals := 0 }) [.ref (ad 0), .int p0, .int p1] D (zTr cy) A (zMr D A ad cy tl) (zMr D A ad cy tl) := by
  refine zstart_v (cc := cX7_flag) (maxL := 3) (own := RX7) (by decide) rfl rfl (Nat.le_of_ble_eq_true rfl) (fun p e s m args below meth c Q C r => ?_)
  have J22 : ∀ (b0_22 : Int32), zG p l e ({ frames := 0, cells := 0, slots := 0, locals := 0 }) s m args below meth c 3 0 0 A Q (zMr D A ad cy tl) 22 [(0, .ref (ad 0)), (1, .int p0), (2, .int p1)] [.int b0_22, .ref (ad 0)] := by
    intro b0_22
    refine pr_0_18 (pc := 22) C wk_711 dX7_flag_22 ?_
    exact g_return r dX7_flag_25 (fun _ h => h)
  refine g_sub (lv' := [(0, .ref (ad 0)), (1, .int p0), (2, .int p1)]) [0, 1, 2] rfl ?_
  refine g_aload_n (pc := 0) C dX7_flag_0 rfl 0 rfl ?_
  refine g_iload_n (pc := 1) C dX7_flag_1 rfl 2 rfl ?_
  refine g_if_eq (pc := 2) C 14 dX7_flag_2 (by decide) (fun c1 => ?_) (fun c1 => ?_)
  · have h2 : zI 0 0 p1 := zr_eq c1 (zi_full p1) (zi_c 0 (a := 0) (b := 0) (by decide)) (by decide)
    refine g_aload_n (pc := 14) C dX7_flag_14 rfl 0 rfl ?_
    refine gr_0_18 (pc := 15) C wk_711 dX7_flag_15 (fun z3 => ?_)
    refine g_iload_n (pc := 18) C dX7_flag_18 rfl 1 rfl ?_
    refine g_iconst (pc := 19) C (-1) dX7_flag_19 (by decide) ?_
    refine g_ixor (pc := 20) C dX7_flag_20 (fun z4 ez4 => ?_)
    refine g_iand (pc := 21) C dX7_flag_21 (fun z5 ez5 => ?_)
    exact g_sub [0, 1, 2] rfl (J22 z5)
  · refine g_aload_n (pc := 5) C dX7_flag_5 rfl 0 rfl ?_
    refine gr_0_18 (pc := 6) C wk_711 dX7_flag_6 (fun z6 => ?_)
    refine g_iload_n (pc := 9) C dX7_flag_9 rfl 1 rfl ?_
    refine g_ior (pc := 10) C dX7_flag_10 (fun z7 ez7 => ?_)
    refine g_goto (pc := 11) C 22 dX7_flag_11 (by decide) ?_
    exact g_sub [0, 1, 2] rfl (J22 z7)

set_option maxHeartbeats 2000000 in
set_option maxRecDepth 100000 in
theorem n_X7_has (l : Launch) (D : va_G) (ad : Nat → Nat) (cy : Nat → ClassId) (tl : Int32) (A : Nat → Prop) (p0 : Int32) : zMi l yX7_has wz_X7_has ({ frames := 0, cells := 0, slots := 0, locals := 0 }) [.ref (ad 0), .int p0] D (zTr cy) A (zMr D A ad cy tl) (fun r H => zI 0 1 r ∧ (zMr D A ad cy tl) H) := by
  refine zstart_i (cc := cX7_has) (maxL := 2) (ty := .boolean) (own := RX7) (by decide) rfl rfl (Nat.le_of_ble_eq_true rfl) (fun p e s m args below meth c Q C r => ?_)
  have J14 : ∀ (b0_14 : Int32) (_ : zI 0 1 b0_14), zG p l e ({ frames := 0, cells := 0, slots := 0, locals := 0 }) s m args below meth c 2 0 0 A Q (zMr D A ad cy tl) 14 [(0, .ref (ad 0)), (1, .int p0)] [.int b0_14] := by
    intro b0_14 hb0_14
    exact g_ireturn r dX7_has_14 (zn_bool hb0_14) (fun _ h => ⟨hb0_14, h⟩)
  refine g_sub (lv' := [(0, .ref (ad 0)), (1, .int p0)]) [0, 1] rfl ?_
  refine g_aload_n (pc := 0) C dX7_has_0 rfl 0 rfl ?_
  refine gr_0_18 (pc := 1) C wk_711 dX7_has_1 (fun z1 => ?_)
  refine g_iload_n (pc := 4) C dX7_has_4 rfl 1 rfl ?_
  refine g_iand (pc := 5) C dX7_has_5 (fun z2 ez2 => ?_)
  refine g_if_eq (pc := 6) C 13 dX7_has_6 (by decide) (fun c3 => ?_) (fun c3 => ?_)
  · have h4 : zI 0 0 z2 := zr_eq c3 (zi_full z2) (zi_c 0 (a := 0) (b := 0) (by decide)) (by decide)
    refine g_iconst (pc := 13) C 0 dX7_has_13 (by decide) ?_
    exact g_sub [0, 1] rfl (J14 0 (zi_c 0 (a := 0) (b := 1) (by decide)))
  · refine g_iconst (pc := 9) C 1 dX7_has_9 (by decide) ?_
    refine g_goto (pc := 10) C 14 dX7_has_10 (by decide) ?_
    exact g_sub [0, 1] rfl (J14 1 (zi_c 1 (a := 0) (b := 1) (by decide)))

set_option maxHeartbeats 2000000 in
set_option maxRecDepth 100000 in
theorem n_X7_signed (l : Launch) (D : va_G) (ad : Nat → Nat) (cy : Nat → ClassId) (tl : Int32) (A : Nat → Prop) (p0 : Int32) (p1 : Int32) : zMi l yX7_signed wz_X7_signed ({ frames := 0, cells := 0, slots := 0, locals := 0 }) [.int p0, .int p1] D (zTr cy) A (zMr D A ad cy tl) (fun _ => (zMr D A ad cy tl)) := by
  refine zstart_i (cc := cX7_signed) (maxL := 2) (ty := .int) (own := RX7) (by decide) rfl rfl (Nat.le_of_ble_eq_true rfl) (fun p e s m args below meth c Q C r => ?_)
  have J11 : ∀ (b0_11 : Int32), zG p l e ({ frames := 0, cells := 0, slots := 0, locals := 0 }) s m args below meth c 2 0 0 A Q (zMr D A ad cy tl) 11 [(0, .int p0), (1, .int p1)] [.int b0_11] := by
    intro b0_11
    exact g_ireturn r dX7_signed_11 rfl (fun _ h => h)
  refine g_sub (lv' := [(0, .int p0), (1, .int p1)]) [0, 1] rfl ?_
  refine g_iload_n (pc := 0) C dX7_signed_0 rfl 1 rfl ?_
  refine g_if_eq (pc := 1) C 9 dX7_signed_1 (by decide) (fun c1 => ?_) (fun c1 => ?_)
  · have h2 : zI 0 0 p1 := zr_eq c1 (zi_full p1) (zi_c 0 (a := 0) (b := 0) (by decide)) (by decide)
    refine g_iload_n (pc := 9) C dX7_signed_9 rfl 0 rfl ?_
    refine g_i2s (pc := 10) C dX7_signed_10 (fun z3 ez3 => ?_)
    exact g_sub [0, 1] rfl (J11 z3)
  · refine g_iload_n (pc := 4) C dX7_signed_4 rfl 0 rfl ?_
    refine g_i2b (pc := 5) C dX7_signed_5 (fun z4 ez4 => ?_)
    have hz4 : zI (-128) 127 z4 := zi_i2b ez4
    refine g_goto (pc := 6) C 11 dX7_signed_6 (by decide) ?_
    exact g_sub [0, 1] rfl (J11 z4)

set_option maxHeartbeats 2000000 in
set_option maxRecDepth 100000 in
theorem n_X7_compare (l : Launch) (D : va_G) (ad : Nat → Nat) (cy : Nat → ClassId) (tl : Int32) (A : Nat → Prop) (p0 : Int32) (p1 : Int32) (p2 : Int32) : zMv l yX7_compare wz_X7_compare ({ frames := 1, cells := 0, slots := 0, locals := 22 }) [.ref (ad 0), .int p0, .int p1, .int p2] D (zTr cy) A (zMr D A ad cy tl) (zMr D A ad cy tl) := by
  refine zstart_v (cc := cX7_compare) (maxL := 4) (own := RX7) (by decide) rfl rfl (Nat.le_of_ble_eq_true rfl) (fun p e s m args below meth c Q C r => ?_)
  have J55 : ∀ (b0_55 : Int32) (_ : zI 0 1 b0_55), zG p l e ({ frames := 1, cells := 0, slots := 0, locals := 22 }) s m args below meth c 4 0 0 A Q (zMr D A ad cy tl) 55 [(0, .ref (ad 0)), (1, .int p0), (2, .int p1), (3, .int p2)] [.int b0_55, .int 8192, .ref (ad 0)] := by
    intro b0_55 hb0_55
    refine zcallVv (pc := 55) (st := []) C C.2.2.2.2.2 (n_X7_flag l D ad cy tl A 8192 b0_55) (cwV 2 C.2.2.2.2.1 gw_RX7_134 rfl rfl rfl cd_X7_flag ⟨Nat.le_of_ble_eq_true rfl, Nat.le_of_ble_eq_true rfl⟩) (hr_0 C) rfl rfl (Nat.le_of_ble_eq_true rfl) ⟨Nat.le_of_ble_eq_true rfl, Nat.le_of_ble_eq_true rfl⟩ dX7_compare_55 ?_
    exact g_return r dX7_compare_58 (fun _ h => h)
  have J38 : ∀ (b0_38 : Int32) (_ : zI 0 1 b0_38), zG p l e ({ frames := 1, cells := 0, slots := 0, locals := 22 }) s m args below meth c 4 0 0 A Q (zMr D A ad cy tl) 38 [(0, .ref (ad 0)), (1, .int p0), (2, .int p1), (3, .int p2)] [.int b0_38, .int 16384, .ref (ad 0)] := by
    intro b0_38 hb0_38
    refine zcallVv (pc := 38) (st := []) C C.2.2.2.2.2 (n_X7_flag l D ad cy tl A 16384 b0_38) (cwV 2 C.2.2.2.2.1 gw_RX7_134 rfl rfl rfl cd_X7_flag ⟨Nat.le_of_ble_eq_true rfl, Nat.le_of_ble_eq_true rfl⟩) (hr_0 C) rfl rfl (Nat.le_of_ble_eq_true rfl) ⟨Nat.le_of_ble_eq_true rfl, Nat.le_of_ble_eq_true rfl⟩ dX7_compare_38 ?_
    refine g_aload_n (pc := 41) C dX7_compare_41 rfl 0 rfl ?_
    refine g_sipush (pc := 42) C 8192 dX7_compare_42 (by decide) ?_
    refine g_iload_n (pc := 45) C dX7_compare_45 rfl 1 rfl ?_
    refine g_iload_n (pc := 46) C dX7_compare_46 rfl 2 rfl ?_
    refine g_icmp_ne (pc := 47) C 54 dX7_compare_47 (by decide) (fun c1 => ?_) (fun c1 => ?_)
    · refine g_iconst (pc := 54) C 0 dX7_compare_54 (by decide) ?_
      exact g_sub [0, 1, 2, 3] rfl (J55 0 (zi_c 0 (a := 0) (b := 1) (by decide)))
    · refine g_iconst (pc := 50) C 1 dX7_compare_50 (by decide) ?_
      refine g_goto (pc := 51) C 55 dX7_compare_51 (by decide) ?_
      exact g_sub [0, 1, 2, 3] rfl (J55 1 (zi_c 1 (a := 0) (b := 1) (by decide)))
  have J13 : ∀ (b0_13 : Int32) (_ : zI 0 1 b0_13), zG p l e ({ frames := 1, cells := 0, slots := 0, locals := 22 }) s m args below meth c 4 0 0 A Q (zMr D A ad cy tl) 13 [(0, .ref (ad 0)), (1, .int p0), (2, .int p1), (3, .int p2)] [.int b0_13, .int 32768, .ref (ad 0)] := by
    intro b0_13 hb0_13
    refine zcallVv (pc := 13) (st := []) C C.2.2.2.2.2 (n_X7_flag l D ad cy tl A 32768 b0_13) (cwV 2 C.2.2.2.2.1 gw_RX7_134 rfl rfl rfl cd_X7_flag ⟨Nat.le_of_ble_eq_true rfl, Nat.le_of_ble_eq_true rfl⟩) (hr_0 C) rfl rfl (Nat.le_of_ble_eq_true rfl) ⟨Nat.le_of_ble_eq_true rfl, Nat.le_of_ble_eq_true rfl⟩ dX7_compare_13 ?_
    refine g_aload_n (pc := 16) C dX7_compare_16 rfl 0 rfl ?_
    refine g_sipush (pc := 17) C 16384 dX7_compare_17 (by decide) ?_
    refine g_iload_n (pc := 20) C dX7_compare_20 rfl 1 rfl ?_
    refine g_iload_n (pc := 21) C dX7_compare_21 rfl 3 rfl ?_
    refine zcallSi (pc := 22) (st := [.int 16384, .ref (ad 0)]) C C.2.2.2.2.2 (n_X7_signed l D ad cy tl A p0 p2) (va_cwS 2 C.2.2.2.2.1 gw_RX7_138 rfl rfl rfl cs_X7_signed ⟨Nat.le_of_ble_eq_true rfl, Nat.le_of_ble_eq_true rfl⟩) rfl rfl (Nat.le_of_ble_eq_true rfl) ⟨Nat.le_of_ble_eq_true rfl, Nat.le_of_ble_eq_true rfl⟩ dX7_compare_22 (fun r2 => ?_)
    refine g_iload_n (pc := 25) C dX7_compare_25 rfl 2 rfl ?_
    refine g_iload_n (pc := 26) C dX7_compare_26 rfl 3 rfl ?_
    refine zcallSi (pc := 27) (st := [.int r2, .int 16384, .ref (ad 0)]) C C.2.2.2.2.2 (n_X7_signed l D ad cy tl A p1 p2) (va_cwS 2 C.2.2.2.2.1 gw_RX7_138 rfl rfl rfl cs_X7_signed ⟨Nat.le_of_ble_eq_true rfl, Nat.le_of_ble_eq_true rfl⟩) rfl rfl (Nat.le_of_ble_eq_true rfl) ⟨Nat.le_of_ble_eq_true rfl, Nat.le_of_ble_eq_true rfl⟩ dX7_compare_27 (fun r3 => ?_)
    refine g_icmp_le (pc := 30) C 37 dX7_compare_30 (by decide) (fun c4 => ?_) (fun c4 => ?_)
    · refine g_iconst (pc := 37) C 0 dX7_compare_37 (by decide) ?_
      exact g_sub [0, 1, 2, 3] rfl (J38 0 (zi_c 0 (a := 0) (b := 1) (by decide)))
    · have h5 : zI (-2147483648) 2147483646 r3 := zr_lt1 (zc_nle c4) (zi_full r3) (zi_full r2) (by decide)
      have h6 : zI (-2147483647) 2147483647 r2 := zr_lt2 (zc_nle c4) (zi_full r3) (zi_full r2) (by decide)
      refine g_iconst (pc := 33) C 1 dX7_compare_33 (by decide) ?_
      refine g_goto (pc := 34) C 38 dX7_compare_34 (by decide) ?_
      exact g_sub [0, 1, 2, 3] rfl (J38 1 (zi_c 1 (a := 0) (b := 1) (by decide)))
  refine g_sub (lv' := [(0, .ref (ad 0)), (1, .int p0), (2, .int p1), (3, .int p2)]) [0, 1, 2, 3] rfl ?_
  refine g_aload_n (pc := 0) C dX7_compare_0 rfl 0 rfl ?_
  refine g_ldc (pc := 1) C dX7_compare_1 (C.wd wk_814) ?_
  refine g_iload_n (pc := 3) C dX7_compare_3 rfl 1 rfl ?_
  refine g_iload_n (pc := 4) C dX7_compare_4 rfl 2 rfl ?_
  refine g_icmp_le (pc := 5) C 12 dX7_compare_5 (by decide) (fun c7 => ?_) (fun c7 => ?_)
  · refine g_iconst (pc := 12) C 0 dX7_compare_12 (by decide) ?_
    exact g_sub [0, 1, 2, 3] rfl (J13 0 (zi_c 0 (a := 0) (b := 1) (by decide)))
  · have h8 : zI (-2147483648) 2147483646 p1 := zr_lt1 (zc_nle c7) (zi_full p1) (zi_full p0) (by decide)
    have h9 : zI (-2147483647) 2147483647 p0 := zr_lt2 (zc_nle c7) (zi_full p1) (zi_full p0) (by decide)
    refine g_iconst (pc := 8) C 1 dX7_compare_8 (by decide) ?_
    refine g_goto (pc := 9) C 13 dX7_compare_9 (by decide) ?_
    exact g_sub [0, 1, 2, 3] rfl (J13 1 (zi_c 1 (a := 0) (b := 1) (by decide)))

set_option maxHeartbeats 2000000 in
set_option maxRecDepth 100000 in
theorem n_X7_odd (l : Launch) (D : va_G) (ad : Nat → Nat) (cy : Nat → ClassId) (tl : Int32) (A : Nat → Prop) (p0 : Int32) : zMv l yX7_odd wz_X7_odd ({ frames := 1, cells := 0, slots := 0, locals := 22 }) [.ref (ad 0), .int p0] D (zTr cy) A (zMr D A ad cy tl) (zMr D A ad cy tl) := by
  refine zstart_v (cc := cX7_odd) (maxL := 4) (own := RX7) (by decide) rfl rfl (Nat.le_of_ble_eq_true rfl) (fun p e s m args below meth c Q C r => ?_)
  have J40 : ∀ (a2_40 : Int32) (a3_40 : Int32) (b0_40 : Int32) (_ : zI 8 8 a3_40) (_ : zI 0 1 b0_40), zG p l e ({ frames := 1, cells := 0, slots := 0, locals := 22 }) s m args below meth c 4 0 0 A Q (zMr D A ad cy tl) 40 [(0, .ref (ad 0)), (1, .int p0), (2, .int a2_40), (3, .int a3_40)] [.int b0_40, .int 1024, .ref (ad 0)] := by
    intro a2_40 a3_40 b0_40 ha3_40 hb0_40
    refine zcallVv (pc := 40) (st := []) C C.2.2.2.2.2 (n_X7_flag l D ad cy tl A 1024 b0_40) (cwV 2 C.2.2.2.2.1 gw_RX7_134 rfl rfl rfl cd_X7_flag ⟨Nat.le_of_ble_eq_true rfl, Nat.le_of_ble_eq_true rfl⟩) (hr_0 C) rfl rfl (Nat.le_of_ble_eq_true rfl) ⟨Nat.le_of_ble_eq_true rfl, Nat.le_of_ble_eq_true rfl⟩ dX7_odd_40 ?_
    exact g_return r dX7_odd_43 (fun _ h => h)
  have J4 : ∀ (n : Nat) (a2_4 : Int32) (a3_4 : Int32) (_ : zI 0 8 a3_4) (_ : (8 - (a3_4 : Int32).toInt).toNat = n), zG p l e ({ frames := 1, cells := 0, slots := 0, locals := 22 }) s m args below meth c 4 0 0 A Q (zMr D A ad cy tl) 4 [(0, .ref (ad 0)), (1, .int p0), (2, .int a2_4), (3, .int a3_4)] [] := by
    intro n
    induction n using Nat.strongRecOn with
    | ind n ih =>
      intro a2_4 a3_4 ha3_4 hn
      refine g_iload_n (pc := 4) C dX7_odd_4 rfl 3 rfl ?_
      refine g_bipush (pc := 5) C 8 dX7_odd_5 (by decide) ?_
      refine g_icmp_ge (pc := 7) C 24 dX7_odd_7 (by decide) (fun c1 => ?_) (fun c1 => ?_)
      · have h2 : zI 8 8 a3_4 := zr_le2 (zc_le c1) (zi_c 8 (a := 8) (b := 8) (by decide)) ha3_4 (by decide)
        refine g_aload_n (pc := 24) C dX7_odd_24 rfl 0 rfl ?_
        refine g_sipush (pc := 25) C 1024 dX7_odd_25 (by decide) ?_
        refine g_iload_n (pc := 28) C dX7_odd_28 rfl 2 rfl ?_
        refine g_iconst (pc := 29) C 2 dX7_odd_29 (by decide) ?_
        refine g_irem (pc := 30) C dX7_odd_30 (by decide) (fun z3 ez3 => ?_)
        refine g_iconst (pc := 31) C 1 dX7_odd_31 (by decide) ?_
        refine g_icmp_ne (pc := 32) C 39 dX7_odd_32 (by decide) (fun c4 => ?_) (fun c4 => ?_)
        · refine g_iconst (pc := 39) C 0 dX7_odd_39 (by decide) ?_
          exact g_sub [0, 1, 2, 3] rfl (J40 a2_4 a3_4 0 h2 (zi_c 0 (a := 0) (b := 1) (by decide)))
        · have h5 : zI 1 1 z3 := zr_eq c4 (zi_full z3) (zi_c 1 (a := 1) (b := 1) (by decide)) (by decide)
          refine g_iconst (pc := 35) C 1 dX7_odd_35 (by decide) ?_
          refine g_goto (pc := 36) C 40 dX7_odd_36 (by decide) ?_
          exact g_sub [0, 1, 2, 3] rfl (J40 a2_4 a3_4 1 h2 (zi_c 1 (a := 0) (b := 1) (by decide)))
      · have h6 : zI 0 7 a3_4 := zr_lt1 (zc_nle c1) ha3_4 (zi_c 8 (a := 8) (b := 8) (by decide)) (by decide)
        refine g_iload_n (pc := 10) C dX7_odd_10 rfl 2 rfl ?_
        refine g_iload_n (pc := 11) C dX7_odd_11 rfl 1 rfl ?_
        refine g_iload_n (pc := 12) C dX7_odd_12 rfl 3 rfl ?_
        refine g_ishr (pc := 13) C dX7_odd_13 (fun z7 ez7 => ?_)
        refine g_iconst (pc := 14) C 1 dX7_odd_14 (by decide) ?_
        refine g_iand (pc := 15) C dX7_odd_15 (fun z8 ez8 => ?_)
        have hz8 : zI 0 1 z8 := zi_and1 (zi_c 1 (a := 0) (b := 1) (by decide)) ez8
        refine g_iadd (pc := 16) C dX7_odd_16 (fun z9 ez9 => ?_)
        refine g_istore_n (pc := 17) C ([(2, .int z9), (0, .ref (ad 0)), (1, .int p0), (3, .int a3_4)]) dX7_odd_17 rfl (Nat.le_of_ble_eq_true rfl) rfl ?_
        obtain ⟨z10, ez10⟩ : ∃ z : Int32, z = a3_4 + 1 := ⟨_, rfl⟩
        have hz10 : zI 1 8 z10 := zi_add h6 (zi_c 1 (a := 1) (b := 1) (by decide)) ez10 (by decide)
        refine g_iinc (pc := 18) C z10 ([(3, .int z10), (2, .int z9), (0, .ref (ad 0)), (1, .int p0)]) dX7_odd_18 3 rfl (by rw [ez10]; rfl) (Nat.le_of_ble_eq_true rfl) rfl ?_
        refine g_goto (pc := 21) C 4 dX7_odd_21 (by decide) ?_
        exact g_sub [2, 3, 1, 0] rfl (ih (8 - (z10 : Int32).toInt).toNat (by rw [← hn]; exact zdec ez10 h6 (by decide) (zi_w hz10 (a' := 0) (b' := 8) (by decide))) z9 z10 (zi_w hz10 (a' := 0) (b' := 8) (by decide)) rfl)
  refine g_sub (lv' := [(0, .ref (ad 0)), (1, .int p0)]) [0, 1] rfl ?_
  refine g_iconst (pc := 0) C 0 dX7_odd_0 (by decide) ?_
  refine g_istore_n (pc := 1) C ([(2, .int 0), (0, .ref (ad 0)), (1, .int p0)]) dX7_odd_1 rfl (Nat.le_of_ble_eq_true rfl) rfl ?_
  refine g_iconst (pc := 2) C 0 dX7_odd_2 (by decide) ?_
  refine g_istore_n (pc := 3) C ([(3, .int 0), (2, .int 0), (0, .ref (ad 0)), (1, .int p0)]) dX7_odd_3 rfl (Nat.le_of_ble_eq_true rfl) rfl ?_
  exact g_sub [2, 3, 1, 0] rfl (J4 (8 - (0 : Int32).toInt).toNat 0 0 (zi_c 0 (a := 0) (b := 8) (by decide)) rfl)

set_option maxHeartbeats 2000000 in
set_option maxRecDepth 100000 in
theorem n_X7_operand (l : Launch) (D : va_G) (ad : Nat → Nat) (cy : Nat → ClassId) (tl : Int32) (A : Nat → Prop) (p0 : Int32) (p1 : Int32) : zMi l yX7_operand wz_X7_operand ({ frames := 6, cells := 0, slots := 0, locals := 131 }) [.ref (ad 0), .int p0, .int p1] D (zTr cy) A (zMr D A ad cy tl) (fun r H => zI 0 65535 r ∧ (zMr D A ad cy tl) H) := by
  refine zstart_i (cc := cX7_operand) (maxL := 6) (ty := .int) (own := RX7) (by decide) rfl rfl (Nat.le_of_ble_eq_true rfl) (fun p e s m args below meth c Q C r => ?_)
  have J56 : ∀ (a3_56 : Int32) (a4_56 : Int32) (a5_56 : Int32) (b0_56 : Int32) (_ : zI 2 2 a3_56) (_ : zI 0 15 a4_56) (_ : zI 0 65535 a5_56) (_ : zI 0 65535 b0_56), zG p l e ({ frames := 6, cells := 0, slots := 0, locals := 131 }) s m args below meth c 6 0 0 A Q (zMr D A ad cy tl) 56 [(0, .ref (ad 0)), (1, .int p0), (2, .int p1), (3, .int a3_56), (4, .int a4_56), (5, .int a5_56)] [.int b0_56] := by
    intro a3_56 a4_56 a5_56 b0_56 ha3_56 ha4_56 ha5_56 hb0_56
    exact g_ireturn r dX7_operand_56 rfl (fun _ h => ⟨hb0_56, h⟩)
  have J91 : ∀ (a3_91 : Int32) (a4_91 : Int32) (a5_91 : Int32) (_ : zI 1 3 a3_91) (_ : zI 0 15 a4_91) (_ : zI 0 65535 a5_91), zG p l e ({ frames := 6, cells := 0, slots := 0, locals := 131 }) s m args below meth c 6 0 0 A Q (zMr D A ad cy tl) 91 [(0, .ref (ad 0)), (1, .int p0), (2, .int p1), (3, .int a3_91), (4, .int a4_91), (5, .int a5_91)] [] := by
    intro a3_91 a4_91 a5_91 ha3_91 ha4_91 ha5_91
    refine g_iload (pc := 91) C dX7_operand_91 5 rfl ?_
    exact g_ireturn r dX7_operand_93 rfl (fun _ h => ⟨ha5_91, h⟩)
  have J84 : ∀ (a3_84 : Int32) (a4_84 : Int32) (a5_84 : Int32) (b0_84 : Int32) (b1_84 : Int32) (b2_84 : Int32) (_ : zI 3 3 a3_84) (_ : zI 0 15 a4_84) (_ : zI 0 65535 a5_84) (_ : zI 1 2 b0_84) (_ : zI 0 65535 b1_84) (_ : zI 0 15 b2_84), zG p l e ({ frames := 6, cells := 0, slots := 0, locals := 131 }) s m args below meth c 6 0 0 A Q (zMr D A ad cy tl) 84 [(0, .ref (ad 0)), (1, .int p0), (2, .int p1), (3, .int a3_84), (4, .int a4_84), (5, .int a5_84)] [.int b0_84, .int b1_84, .int b2_84, .ref (ad 0)] := by
    intro a3_84 a4_84 a5_84 b0_84 b1_84 b2_84 ha3_84 ha4_84 ha5_84 hb0_84 hb1_84 hb2_84
    refine g_iadd (pc := 84) C dX7_operand_84 (fun z1 ez1 => ?_)
    have hz1 : zI 1 65537 z1 := zi_add hb1_84 hb0_84 ez1 (by decide)
    refine g_ldc (pc := 85) C dX7_operand_85 (C.wd wk_816) ?_
    refine g_iand (pc := 87) C dX7_operand_87 (fun z2 ez2 => ?_)
    have hz2 : zI 0 65535 z2 := zi_and1 (zi_c 65535 (a := 0) (b := 65535) (by decide)) ez2
    refine zcallVv (pc := 88) (st := []) C C.2.2.2.2.2 (n_X7_register_ l D ad cy tl A b2_84 z2) (cwV 2 C.2.2.2.2.1 gw_RX7_149 rfl rfl rfl cd_X7_register_ ⟨Nat.le_of_ble_eq_true rfl, Nat.le_of_ble_eq_true rfl⟩) (hr_0 C) rfl rfl (Nat.le_of_ble_eq_true rfl) ⟨Nat.le_of_ble_eq_true rfl, Nat.le_of_ble_eq_true rfl⟩ dX7_operand_88 ?_
    exact g_sub [0, 1, 2, 3, 4, 5] rfl (J91 a3_84 a4_84 a5_84 (zi_w ha3_84 (a' := 1) (b' := 3) (by decide)) ha4_84 ha5_84)
  refine g_sub (lv' := [(0, .ref (ad 0)), (1, .int p0), (2, .int p1)]) [0, 1, 2] rfl ?_
  refine g_iload_n (pc := 0) C dX7_operand_0 rfl 1 rfl ?_
  refine g_iconst (pc := 1) C 4 dX7_operand_1 (by decide) ?_
  refine g_ishr (pc := 2) C dX7_operand_2 (fun z3 ez3 => ?_)
  refine g_iconst (pc := 3) C 3 dX7_operand_3 (by decide) ?_
  refine g_iand (pc := 4) C dX7_operand_4 (fun z4 ez4 => ?_)
  have hz4 : zI 0 3 z4 := zi_and1 (zi_c 3 (a := 0) (b := 3) (by decide)) ez4
  refine g_istore_n (pc := 5) C ([(3, .int z4), (0, .ref (ad 0)), (1, .int p0), (2, .int p1)]) dX7_operand_5 rfl (Nat.le_of_ble_eq_true rfl) rfl ?_
  refine g_iload_n (pc := 6) C dX7_operand_6 rfl 2 rfl ?_
  refine g_bipush (pc := 7) C 15 dX7_operand_7 (by decide) ?_
  refine g_iand (pc := 9) C dX7_operand_9 (fun z5 ez5 => ?_)
  have hz5 : zI 0 15 z5 := zi_and1 (zi_c 15 (a := 0) (b := 15) (by decide)) ez5
  refine g_istore (pc := 10) C ([(4, .int z5), (3, .int z4), (0, .ref (ad 0)), (1, .int p0), (2, .int p1)]) dX7_operand_10 (Nat.le_of_ble_eq_true rfl) rfl ?_
  refine g_iload_n (pc := 12) C dX7_operand_12 rfl 1 rfl ?_
  refine g_if_ne (pc := 13) C 23 dX7_operand_13 (by decide) (fun c6 => ?_) (fun c6 => ?_)
  · have h7 : zI 1 3 z4 := zr_neL c6 hz4 (zi_c 0 (a := 0) (b := 0) (by decide)) (by decide)
    refine g_iload_n (pc := 23) C dX7_operand_23 rfl 1 rfl ?_
    refine g_iconst (pc := 24) C 2 dX7_operand_24 (by decide) ?_
    refine g_icmp_ne (pc := 25) C 57 dX7_operand_25 (by decide) (fun c8 => ?_) (fun c8 => ?_)
    · refine g_aload_n (pc := 57) C dX7_operand_57 rfl 2 rfl ?_
      refine g_iload (pc := 58) C dX7_operand_58 0 rfl ?_
      refine zcallVi (pc := 60) (st := []) C C.2.2.2.2.2 (n_X7_register l D ad cy tl A z5) (cwV 1 C.2.2.2.2.1 gw_RX7_146 rfl rfl rfl cd_X7_register ⟨Nat.le_of_ble_eq_true rfl, Nat.le_of_ble_eq_true rfl⟩) (hr_0 C) rfl rfl (Nat.le_of_ble_eq_true rfl) ⟨Nat.le_of_ble_eq_true rfl, Nat.le_of_ble_eq_true rfl⟩ dX7_operand_60 (fun r9 => ?_)
      refine g_and (M2 := (zMr D A ad cy tl)) (fun hr9 => ?_)
      refine g_istore (pc := 63) C ([(5, .int r9), (4, .int z5), (3, .int z4), (0, .ref (ad 0)), (1, .int p0), (2, .int p1)]) dX7_operand_63 (Nat.le_of_ble_eq_true rfl) rfl ?_
      refine g_iload_n (pc := 65) C dX7_operand_65 rfl 2 rfl ?_
      refine g_iconst (pc := 66) C 3 dX7_operand_66 (by decide) ?_
      refine g_icmp_ne (pc := 67) C 91 dX7_operand_67 (by decide) (fun c10 => ?_) (fun c10 => ?_)
      · have h11 : zI 1 2 z4 := zr_neH c10 h7 (zi_c 3 (a := 3) (b := 3) (by decide)) (by decide)
        exact g_sub [3, 4, 5, 2, 1, 0] rfl (J91 z4 z5 r9 (zi_w h11 (a' := 1) (b' := 3) (by decide)) hz5 hr9)
      · have h12 : zI 3 3 z4 := zr_eq c10 h7 (zi_c 3 (a := 3) (b := 3) (by decide)) (by decide)
        refine g_aload_n (pc := 70) C dX7_operand_70 rfl 3 rfl ?_
        refine g_iload (pc := 71) C dX7_operand_71 1 rfl ?_
        refine g_iload (pc := 73) C dX7_operand_73 0 rfl ?_
        refine g_iload_n (pc := 75) C dX7_operand_75 rfl 5 rfl ?_
        refine g_if_eq (pc := 76) C 83 dX7_operand_76 (by decide) (fun c13 => ?_) (fun c13 => ?_)
        · have h14 : zI 0 0 p1 := zr_eq c13 (zi_full p1) (zi_c 0 (a := 0) (b := 0) (by decide)) (by decide)
          refine g_iconst (pc := 83) C 2 dX7_operand_83 (by decide) ?_
          exact g_sub [3, 4, 5, 2, 1, 0] rfl (J84 z4 z5 r9 2 r9 z5 h12 hz5 hr9 (zi_c 2 (a := 1) (b := 2) (by decide)) hr9 hz5)
        · refine g_iconst (pc := 79) C 1 dX7_operand_79 (by decide) ?_
          refine g_goto (pc := 80) C 84 dX7_operand_80 (by decide) ?_
          exact g_sub [3, 4, 5, 2, 1, 0] rfl (J84 z4 z5 r9 1 r9 z5 h12 hz5 hr9 (zi_c 1 (a := 1) (b := 2) (by decide)) hr9 hz5)
    · have h15 : zI 2 2 z4 := zr_eq c8 h7 (zi_c 2 (a := 2) (b := 2) (by decide)) (by decide)
      refine g_aload_n (pc := 28) C dX7_operand_28 rfl 2 rfl ?_
      refine zcallVi (pc := 29) (st := []) C C.2.2.2.2.2 (n_X7_nextWord l D ad cy tl A ) (cwV 0 C.2.2.2.2.1 gw_RX7_142 rfl rfl rfl cd_X7_nextWord ⟨Nat.le_of_ble_eq_true rfl, Nat.le_of_ble_eq_true rfl⟩) (hr_0 C) rfl rfl (Nat.le_of_ble_eq_true rfl) ⟨Nat.le_of_ble_eq_true rfl, Nat.le_of_ble_eq_true rfl⟩ dX7_operand_29 (fun r16 => ?_)
      refine g_and (M2 := (zMr D A ad cy tl)) (fun hr16 => ?_)
      refine g_istore (pc := 32) C ([(5, .int r16), (4, .int z5), (3, .int z4), (0, .ref (ad 0)), (1, .int p0), (2, .int p1)]) dX7_operand_32 (Nat.le_of_ble_eq_true rfl) rfl ?_
      refine g_iload (pc := 34) C dX7_operand_34 1 rfl ?_
      refine g_if_ne (pc := 36) C 44 dX7_operand_36 (by decide) (fun c17 => ?_) (fun c17 => ?_)
      · have h18 : zI 1 15 z5 := zr_neL c17 hz5 (zi_c 0 (a := 0) (b := 0) (by decide)) (by decide)
        refine g_iload (pc := 44) C dX7_operand_44 0 rfl ?_
        refine g_aload_n (pc := 46) C dX7_operand_46 rfl 3 rfl ?_
        refine g_iload (pc := 47) C dX7_operand_47 1 rfl ?_
        refine zcallVi (pc := 49) (st := [.int r16]) C C.2.2.2.2.2 (n_X7_register l D ad cy tl A z5) (cwV 1 C.2.2.2.2.1 gw_RX7_146 rfl rfl rfl cd_X7_register ⟨Nat.le_of_ble_eq_true rfl, Nat.le_of_ble_eq_true rfl⟩) (hr_0 C) rfl rfl (Nat.le_of_ble_eq_true rfl) ⟨Nat.le_of_ble_eq_true rfl, Nat.le_of_ble_eq_true rfl⟩ dX7_operand_49 (fun r19 => ?_)
        refine g_and (M2 := (zMr D A ad cy tl)) (fun hr19 => ?_)
        refine g_iadd (pc := 52) C dX7_operand_52 (fun z20 ez20 => ?_)
        have hz20 : zI 0 131070 z20 := zi_add hr16 hr19 ez20 (by decide)
        refine g_ldc (pc := 53) C dX7_operand_53 (C.wd wk_816) ?_
        refine g_iand (pc := 55) C dX7_operand_55 (fun z21 ez21 => ?_)
        have hz21 : zI 0 65535 z21 := zi_and1 (zi_c 65535 (a := 0) (b := 65535) (by decide)) ez21
        exact g_sub [3, 4, 5, 2, 1, 0] rfl (J56 z4 z5 r16 z21 h15 (zi_w h18 (a' := 0) (b' := 15) (by decide)) hr16 hz21)
      · have h22 : zI 0 0 z5 := zr_eq c17 hz5 (zi_c 0 (a := 0) (b := 0) (by decide)) (by decide)
        refine g_iload (pc := 39) C dX7_operand_39 0 rfl ?_
        refine g_goto (pc := 41) C 56 dX7_operand_41 (by decide) ?_
        exact g_sub [3, 4, 5, 2, 1, 0] rfl (J56 z4 z5 r16 r16 h15 (zi_w h22 (a' := 0) (b' := 15) (by decide)) hr16 hr16)
  · have h23 : zI 0 0 z4 := zr_eq c6 hz4 (zi_c 0 (a := 0) (b := 0) (by decide)) (by decide)
    refine g_aload_n (pc := 16) C dX7_operand_16 rfl 2 rfl ?_
    refine g_iload (pc := 17) C dX7_operand_17 0 rfl ?_
    refine zcallVi (pc := 19) (st := []) C C.2.2.2.2.2 (n_X7_registerAt l D ad cy tl A z5) (cwV 1 C.2.2.2.2.1 gw_RX7_119 rfl rfl rfl cd_X7_registerAt ⟨Nat.le_of_ble_eq_true rfl, Nat.le_of_ble_eq_true rfl⟩) (hr_0 C) rfl rfl (Nat.le_of_ble_eq_true rfl) ⟨Nat.le_of_ble_eq_true rfl, Nat.le_of_ble_eq_true rfl⟩ dX7_operand_19 (fun r24 => ?_)
    refine g_and (M2 := (zMr D A ad cy tl)) (fun hr24 => ?_)
    exact g_ireturn r dX7_operand_22 rfl (fun _ h => ⟨(zi_w hr24 (a' := 0) (b' := 65535) (by decide)), h⟩)

set_option maxHeartbeats 2000000 in
set_option maxRecDepth 100000 in
theorem n_X7_read (l : Launch) (D : va_G) (ad : Nat → Nat) (cy : Nat → ClassId) (tl : Int32) (A : Nat → Prop) (p0 : Int32) (p1 : Int32) (hp0 : zI 0 65535 p0) : zMi l yX7_read wz_X7_read ({ frames := 4, cells := 0, slots := 0, locals := 87 }) [.ref (ad 0), .int p0, .int p1] D (zTr cy) A (zMr D A ad cy tl) (fun r H => zI 0 65535 r ∧ (zMr D A ad cy tl) H) := by
  refine zstart_i (cc := cX7_read) (maxL := 3) (ty := .int) (own := RX7) (by decide) rfl rfl (Nat.le_of_ble_eq_true rfl) (fun p e s m args below meth c Q C r => ?_)
  have J17 : ∀ (b0_17 : Int32) (_ : zI 0 65535 b0_17), zG p l e ({ frames := 4, cells := 0, slots := 0, locals := 87 }) s m args below meth c 3 0 0 A Q (zMr D A ad cy tl) 17 [(0, .ref (ad 0)), (1, .int p0), (2, .int p1)] [.int b0_17] := by
    intro b0_17 hb0_17
    exact g_ireturn r dX7_read_17 rfl (fun _ h => ⟨hb0_17, h⟩)
  refine g_sub (lv' := [(0, .ref (ad 0)), (1, .int p0), (2, .int p1)]) [0, 1, 2] rfl ?_
  refine g_iload_n (pc := 0) C dX7_read_0 rfl 2 rfl ?_
  refine g_if_eq (pc := 1) C 12 dX7_read_1 (by decide) (fun c1 => ?_) (fun c1 => ?_)
  · have h2 : zI 0 0 p1 := zr_eq c1 (zi_full p1) (zi_c 0 (a := 0) (b := 0) (by decide)) (by decide)
    refine g_aload_n (pc := 12) C dX7_read_12 rfl 0 rfl ?_
    refine g_iload_n (pc := 13) C dX7_read_13 rfl 1 rfl ?_
    refine zcallVi (pc := 14) (st := []) C C.2.2.2.2.2 (n_X7_readWord l D ad cy tl A p0) (cwV 1 C.2.2.2.2.1 gw_RX7_122 rfl rfl rfl cd_X7_readWord ⟨Nat.le_of_ble_eq_true rfl, Nat.le_of_ble_eq_true rfl⟩) (hr_0 C) rfl rfl (Nat.le_of_ble_eq_true rfl) ⟨Nat.le_of_ble_eq_true rfl, Nat.le_of_ble_eq_true rfl⟩ dX7_read_14 (fun r3 => ?_)
    refine g_and (M2 := (zMr D A ad cy tl)) (fun hr3 => ?_)
    exact g_sub [0, 1, 2] rfl (J17 r3 hr3)
  · refine g_aload_n (pc := 4) C dX7_read_4 rfl 0 rfl ?_
    refine g_iload_n (pc := 5) C dX7_read_5 rfl 1 rfl ?_
    refine zcallVi (pc := 6) (st := []) C C.2.2.2.2.2 (n_X7_readByte l D ad cy tl A p0 hp0) (cwV 1 C.2.2.2.2.1 gw_RX7_73 rfl rfl rfl cd_X7_readByte ⟨Nat.le_of_ble_eq_true rfl, Nat.le_of_ble_eq_true rfl⟩) (hr_0 C) rfl rfl (Nat.le_of_ble_eq_true rfl) ⟨Nat.le_of_ble_eq_true rfl, Nat.le_of_ble_eq_true rfl⟩ dX7_read_6 (fun r4 => ?_)
    refine g_and (M2 := (zMr D A ad cy tl)) (fun hr4 => ?_)
    refine g_goto (pc := 9) C 17 dX7_read_9 (by decide) ?_
    exact g_sub [0, 1, 2] rfl (J17 r4 (zi_w hr4 (a' := 0) (b' := 65535) (by decide)))

set_option maxHeartbeats 2000000 in
set_option maxRecDepth 100000 in
theorem n_X7_write (l : Launch) (D : va_G) (ad : Nat → Nat) (cy : Nat → ClassId) (tl : Int32) (A : Nat → Prop) (p0 : Int32) (p1 : Int32) (p2 : Int32) (hp0 : zI 0 65535 p0) : zMv l yX7_write wz_X7_write ({ frames := 5, cells := 0, slots := 0, locals := 109 }) [.ref (ad 0), .int p0, .int p1, .int p2] D (zTr cy) A (zMr D A ad cy tl) (zMr D A ad cy tl) := by
  refine zstart_v (cc := cX7_write) (maxL := 4) (own := RX7) (by decide) rfl rfl (Nat.le_of_ble_eq_true rfl) (fun p e s m args below meth c Q C r => ?_)
  have J26 : zG p l e ({ frames := 5, cells := 0, slots := 0, locals := 109 }) s m args below meth c 4 0 0 A Q (zMr D A ad cy tl) 26 [(0, .ref (ad 0)), (1, .int p0), (2, .int p1), (3, .int p2)] [] := by
    exact g_return r dX7_write_26 (fun _ h => h)
  refine g_sub (lv' := [(0, .ref (ad 0)), (1, .int p0), (2, .int p1), (3, .int p2)]) [0, 1, 2, 3] rfl ?_
  refine g_iload_n (pc := 0) C dX7_write_0 rfl 3 rfl ?_
  refine g_if_eq (pc := 1) C 17 dX7_write_1 (by decide) (fun c1 => ?_) (fun c1 => ?_)
  · have h2 : zI 0 0 p2 := zr_eq c1 (zi_full p2) (zi_c 0 (a := 0) (b := 0) (by decide)) (by decide)
    refine g_aload_n (pc := 17) C dX7_write_17 rfl 0 rfl ?_
    refine g_iload_n (pc := 18) C dX7_write_18 rfl 1 rfl ?_
    refine g_iload_n (pc := 19) C dX7_write_19 rfl 2 rfl ?_
    refine g_ldc (pc := 20) C dX7_write_20 (C.wd wk_816) ?_
    refine g_iand (pc := 22) C dX7_write_22 (fun z3 ez3 => ?_)
    have hz3 : zI 0 65535 z3 := zi_and1 (zi_c 65535 (a := 0) (b := 65535) (by decide)) ez3
    refine zcallVv (pc := 23) (st := []) C C.2.2.2.2.2 (n_X7_writeWord l D ad cy tl A p0 z3) (cwV 2 C.2.2.2.2.1 gw_RX7_125 rfl rfl rfl cd_X7_writeWord ⟨Nat.le_of_ble_eq_true rfl, Nat.le_of_ble_eq_true rfl⟩) (hr_0 C) rfl rfl (Nat.le_of_ble_eq_true rfl) ⟨Nat.le_of_ble_eq_true rfl, Nat.le_of_ble_eq_true rfl⟩ dX7_write_23 ?_
    exact g_sub [0, 1, 2, 3] rfl (J26 )
  · refine g_aload_n (pc := 4) C dX7_write_4 rfl 0 rfl ?_
    refine g_iload_n (pc := 5) C dX7_write_5 rfl 1 rfl ?_
    refine g_iload_n (pc := 6) C dX7_write_6 rfl 2 rfl ?_
    refine g_sipush (pc := 7) C 255 dX7_write_7 (by decide) ?_
    refine g_iand (pc := 10) C dX7_write_10 (fun z4 ez4 => ?_)
    have hz4 : zI 0 255 z4 := zi_and1 (zi_c 255 (a := 0) (b := 255) (by decide)) ez4
    refine zcallVv (pc := 11) (st := []) C C.2.2.2.2.2 (n_X7_writeByte l D ad cy tl A p0 z4 hp0 hz4) (cwV 2 C.2.2.2.2.1 gw_RX7_76 rfl rfl rfl cd_X7_writeByte ⟨Nat.le_of_ble_eq_true rfl, Nat.le_of_ble_eq_true rfl⟩) (hr_0 C) rfl rfl (Nat.le_of_ble_eq_true rfl) ⟨Nat.le_of_ble_eq_true rfl, Nat.le_of_ble_eq_true rfl⟩ dX7_write_11 ?_
    refine g_goto (pc := 14) C 26 dX7_write_14 (by decide) ?_
    exact g_sub [0, 1, 2, 3] rfl (J26 )

set_option maxHeartbeats 2000000 in
set_option maxRecDepth 100000 in
theorem n_X7_plus (l : Launch) (D : va_G) (ad : Nat → Nat) (cy : Nat → ClassId) (tl : Int32) (A : Nat → Prop) (p0 : Int32) (p1 : Int32) (p2 : Int32) : zMi l yX7_plus wz_X7_plus ({ frames := 2, cells := 0, slots := 0, locals := 45 }) [.ref (ad 0), .int p0, .int p1, .int p2] D (zTr cy) A (zMr D A ad cy tl) (fun _ => (zMr D A ad cy tl)) := by
  refine zstart_i (cc := cX7_plus) (maxL := 6) (ty := .int) (own := RX7) (by decide) rfl rfl (Nat.le_of_ble_eq_true rfl) (fun p e s m args below meth c Q C r => ?_)
  have J118 : ∀ (a4_118 : Int32) (a5_118 : Int32) (b0_118 : Int32) (_ : zI 255 65535 a4_118) (_ : zI 0 65535 a5_118) (_ : zI 0 1 b0_118), zG p l e ({ frames := 2, cells := 0, slots := 0, locals := 45 }) s m args below meth c 6 0 0 A Q (zMr D A ad cy tl) 118 [(0, .ref (ad 0)), (1, .int p0), (2, .int p1), (3, .int p2), (4, .int a4_118), (5, .int a5_118)] [.int b0_118, .int 2048, .ref (ad 0)] := by
    intro a4_118 a5_118 b0_118 ha4_118 ha5_118 hb0_118
    refine zcallVv (pc := 118) (st := []) C C.2.2.2.2.2 (n_X7_flag l D ad cy tl A 2048 b0_118) (cwV 2 C.2.2.2.2.1 gw_RX7_134 rfl rfl rfl cd_X7_flag ⟨Nat.le_of_ble_eq_true rfl, Nat.le_of_ble_eq_true rfl⟩) (hr_0 C) rfl rfl (Nat.le_of_ble_eq_true rfl) ⟨Nat.le_of_ble_eq_true rfl, Nat.le_of_ble_eq_true rfl⟩ dX7_plus_118 ?_
    refine g_iload (pc := 121) C dX7_plus_121 5 rfl ?_
    exact g_ireturn r dX7_plus_123 rfl (fun _ h => h)
  have J117 : ∀ (a4_117 : Int32) (a5_117 : Int32) (_ : zI 255 65535 a4_117) (_ : zI 0 65535 a5_117), zG p l e ({ frames := 2, cells := 0, slots := 0, locals := 45 }) s m args below meth c 6 0 0 A Q (zMr D A ad cy tl) 117 [(0, .ref (ad 0)), (1, .int p0), (2, .int p1), (3, .int p2), (4, .int a4_117), (5, .int a5_117)] [.int 2048, .ref (ad 0)] := by
    intro a4_117 a5_117 ha4_117 ha5_117
    refine g_iconst (pc := 117) C 0 dX7_plus_117 (by decide) ?_
    exact g_sub [0, 1, 2, 3, 4, 5] rfl (J118 a4_117 a5_117 0 ha4_117 ha5_117 (zi_c 0 (a := 0) (b := 1) (by decide)))
  have J110 : ∀ (a4_110 : Int32) (a5_110 : Int32) (b0_110 : Int32) (b1_110 : Int32) (_ : zI 255 65535 a4_110) (_ : zI 0 65535 a5_110) (_ : zI 0 1 b0_110) (_ : zI 0 1 b1_110), zG p l e ({ frames := 2, cells := 0, slots := 0, locals := 45 }) s m args below meth c 6 0 0 A Q (zMr D A ad cy tl) 110 [(0, .ref (ad 0)), (1, .int p0), (2, .int p1), (3, .int p2), (4, .int a4_110), (5, .int a5_110)] [.int b0_110, .int b1_110, .int 2048, .ref (ad 0)] := by
    intro a4_110 a5_110 b0_110 b1_110 ha4_110 ha5_110 hb0_110 hb1_110
    refine g_icmp_eq (pc := 110) C 117 dX7_plus_110 (by decide) (fun c1 => ?_) (fun c1 => ?_)
    · exact g_sub [0, 1, 2, 3, 4, 5] rfl (J117 a4_110 a5_110 ha4_110 ha5_110)
    · refine g_iconst (pc := 113) C 1 dX7_plus_113 (by decide) ?_
      refine g_goto (pc := 114) C 118 dX7_plus_114 (by decide) ?_
      exact g_sub [0, 1, 2, 3, 4, 5] rfl (J118 a4_110 a5_110 1 ha4_110 ha5_110 (zi_c 1 (a := 0) (b := 1) (by decide)))
  have J97 : ∀ (a4_97 : Int32) (a5_97 : Int32) (b0_97 : Int32) (_ : zI 255 65535 a4_97) (_ : zI 0 65535 a5_97) (_ : zI 0 1 b0_97), zG p l e ({ frames := 2, cells := 0, slots := 0, locals := 45 }) s m args below meth c 6 0 0 A Q (zMr D A ad cy tl) 97 [(0, .ref (ad 0)), (1, .int p0), (2, .int p1), (3, .int p2), (4, .int a4_97), (5, .int a5_97)] [.int b0_97, .int 2048, .ref (ad 0)] := by
    intro a4_97 a5_97 b0_97 ha4_97 ha5_97 hb0_97
    refine g_iload_n (pc := 97) C dX7_plus_97 rfl 1 rfl ?_
    refine g_iload_n (pc := 98) C dX7_plus_98 rfl 3 rfl ?_
    refine zcallSi (pc := 99) (st := [.int b0_97, .int 2048, .ref (ad 0)]) C C.2.2.2.2.2 (n_X7_signed l D ad cy tl A p0 p2) (va_cwS 2 C.2.2.2.2.1 gw_RX7_138 rfl rfl rfl cs_X7_signed ⟨Nat.le_of_ble_eq_true rfl, Nat.le_of_ble_eq_true rfl⟩) rfl rfl (Nat.le_of_ble_eq_true rfl) ⟨Nat.le_of_ble_eq_true rfl, Nat.le_of_ble_eq_true rfl⟩ dX7_plus_99 (fun r2 => ?_)
    refine g_if_ge (pc := 102) C 109 dX7_plus_102 (by decide) (fun c3 => ?_) (fun c3 => ?_)
    · have h4 : zI 0 2147483647 r2 := zr_le2 (zc_le c3) (zi_c 0 (a := 0) (b := 0) (by decide)) (zi_full r2) (by decide)
      refine g_iconst (pc := 109) C 0 dX7_plus_109 (by decide) ?_
      exact g_sub [0, 1, 2, 3, 4, 5] rfl (J110 a4_97 a5_97 0 b0_97 ha4_97 ha5_97 (zi_c 0 (a := 0) (b := 1) (by decide)) hb0_97)
    · have h5 : zI (-2147483648) (-1) r2 := zr_lt1 (zc_nle c3) (zi_full r2) (zi_c 0 (a := 0) (b := 0) (by decide)) (by decide)
      refine g_iconst (pc := 105) C 1 dX7_plus_105 (by decide) ?_
      refine g_goto (pc := 106) C 110 dX7_plus_106 (by decide) ?_
      exact g_sub [0, 1, 2, 3, 4, 5] rfl (J110 a4_97 a5_97 1 b0_97 ha4_97 ha5_97 (zi_c 1 (a := 0) (b := 1) (by decide)) hb0_97)
  have J80 : ∀ (a4_80 : Int32) (a5_80 : Int32) (b0_80 : Int32) (b1_80 : Int32) (_ : zI 255 65535 a4_80) (_ : zI 0 65535 a5_80) (_ : zI 0 1 b0_80) (_ : zI 0 1 b1_80), zG p l e ({ frames := 2, cells := 0, slots := 0, locals := 45 }) s m args below meth c 6 0 0 A Q (zMr D A ad cy tl) 80 [(0, .ref (ad 0)), (1, .int p0), (2, .int p1), (3, .int p2), (4, .int a4_80), (5, .int a5_80)] [.int b0_80, .int b1_80, .int 2048, .ref (ad 0)] := by
    intro a4_80 a5_80 b0_80 b1_80 ha4_80 ha5_80 hb0_80 hb1_80
    refine g_icmp_ne (pc := 80) C 117 dX7_plus_80 (by decide) (fun c6 => ?_) (fun c6 => ?_)
    · exact g_sub [0, 1, 2, 3, 4, 5] rfl (J117 a4_80 a5_80 ha4_80 ha5_80)
    · refine g_iload (pc := 83) C dX7_plus_83 5 rfl ?_
      refine g_iload_n (pc := 85) C dX7_plus_85 rfl 3 rfl ?_
      refine zcallSi (pc := 86) (st := [.int 2048, .ref (ad 0)]) C C.2.2.2.2.2 (n_X7_signed l D ad cy tl A a5_80 p2) (va_cwS 2 C.2.2.2.2.1 gw_RX7_138 rfl rfl rfl cs_X7_signed ⟨Nat.le_of_ble_eq_true rfl, Nat.le_of_ble_eq_true rfl⟩) rfl rfl (Nat.le_of_ble_eq_true rfl) ⟨Nat.le_of_ble_eq_true rfl, Nat.le_of_ble_eq_true rfl⟩ dX7_plus_86 (fun r7 => ?_)
      refine g_if_ge (pc := 89) C 96 dX7_plus_89 (by decide) (fun c8 => ?_) (fun c8 => ?_)
      · have h9 : zI 0 2147483647 r7 := zr_le2 (zc_le c8) (zi_c 0 (a := 0) (b := 0) (by decide)) (zi_full r7) (by decide)
        refine g_iconst (pc := 96) C 0 dX7_plus_96 (by decide) ?_
        exact g_sub [0, 1, 2, 3, 4, 5] rfl (J97 a4_80 a5_80 0 ha4_80 ha5_80 (zi_c 0 (a := 0) (b := 1) (by decide)))
      · have h10 : zI (-2147483648) (-1) r7 := zr_lt1 (zc_nle c8) (zi_full r7) (zi_c 0 (a := 0) (b := 0) (by decide)) (by decide)
        refine g_iconst (pc := 92) C 1 dX7_plus_92 (by decide) ?_
        refine g_goto (pc := 93) C 97 dX7_plus_93 (by decide) ?_
        exact g_sub [0, 1, 2, 3, 4, 5] rfl (J97 a4_80 a5_80 1 ha4_80 ha5_80 (zi_c 1 (a := 0) (b := 1) (by decide)))
  have J67 : ∀ (a4_67 : Int32) (a5_67 : Int32) (b0_67 : Int32) (_ : zI 255 65535 a4_67) (_ : zI 0 65535 a5_67) (_ : zI 0 1 b0_67), zG p l e ({ frames := 2, cells := 0, slots := 0, locals := 45 }) s m args below meth c 6 0 0 A Q (zMr D A ad cy tl) 67 [(0, .ref (ad 0)), (1, .int p0), (2, .int p1), (3, .int p2), (4, .int a4_67), (5, .int a5_67)] [.int b0_67, .int 2048, .ref (ad 0)] := by
    intro a4_67 a5_67 b0_67 ha4_67 ha5_67 hb0_67
    refine g_iload_n (pc := 67) C dX7_plus_67 rfl 2 rfl ?_
    refine g_iload_n (pc := 68) C dX7_plus_68 rfl 3 rfl ?_
    refine zcallSi (pc := 69) (st := [.int b0_67, .int 2048, .ref (ad 0)]) C C.2.2.2.2.2 (n_X7_signed l D ad cy tl A p1 p2) (va_cwS 2 C.2.2.2.2.1 gw_RX7_138 rfl rfl rfl cs_X7_signed ⟨Nat.le_of_ble_eq_true rfl, Nat.le_of_ble_eq_true rfl⟩) rfl rfl (Nat.le_of_ble_eq_true rfl) ⟨Nat.le_of_ble_eq_true rfl, Nat.le_of_ble_eq_true rfl⟩ dX7_plus_69 (fun r11 => ?_)
    refine g_if_ge (pc := 72) C 79 dX7_plus_72 (by decide) (fun c12 => ?_) (fun c12 => ?_)
    · have h13 : zI 0 2147483647 r11 := zr_le2 (zc_le c12) (zi_c 0 (a := 0) (b := 0) (by decide)) (zi_full r11) (by decide)
      refine g_iconst (pc := 79) C 0 dX7_plus_79 (by decide) ?_
      exact g_sub [0, 1, 2, 3, 4, 5] rfl (J80 a4_67 a5_67 0 b0_67 ha4_67 ha5_67 (zi_c 0 (a := 0) (b := 1) (by decide)) hb0_67)
    · have h14 : zI (-2147483648) (-1) r11 := zr_lt1 (zc_nle c12) (zi_full r11) (zi_c 0 (a := 0) (b := 0) (by decide)) (by decide)
      refine g_iconst (pc := 75) C 1 dX7_plus_75 (by decide) ?_
      refine g_goto (pc := 76) C 80 dX7_plus_76 (by decide) ?_
      exact g_sub [0, 1, 2, 3, 4, 5] rfl (J80 a4_67 a5_67 1 b0_67 ha4_67 ha5_67 (zi_c 1 (a := 0) (b := 1) (by decide)) hb0_67)
  have J47 : ∀ (a4_47 : Int32) (a5_47 : Int32) (b0_47 : Int32) (_ : zI 255 65535 a4_47) (_ : zI 0 65535 a5_47) (_ : zI 0 1 b0_47), zG p l e ({ frames := 2, cells := 0, slots := 0, locals := 45 }) s m args below meth c 6 0 0 A Q (zMr D A ad cy tl) 47 [(0, .ref (ad 0)), (1, .int p0), (2, .int p1), (3, .int p2), (4, .int a4_47), (5, .int a5_47)] [.int b0_47, .int 4096, .ref (ad 0)] := by
    intro a4_47 a5_47 b0_47 ha4_47 ha5_47 hb0_47
    refine zcallVv (pc := 47) (st := []) C C.2.2.2.2.2 (n_X7_flag l D ad cy tl A 4096 b0_47) (cwV 2 C.2.2.2.2.1 gw_RX7_134 rfl rfl rfl cd_X7_flag ⟨Nat.le_of_ble_eq_true rfl, Nat.le_of_ble_eq_true rfl⟩) (hr_0 C) rfl rfl (Nat.le_of_ble_eq_true rfl) ⟨Nat.le_of_ble_eq_true rfl, Nat.le_of_ble_eq_true rfl⟩ dX7_plus_47 ?_
    refine g_aload_n (pc := 50) C dX7_plus_50 rfl 0 rfl ?_
    refine g_sipush (pc := 51) C 2048 dX7_plus_51 (by decide) ?_
    refine g_iload_n (pc := 54) C dX7_plus_54 rfl 1 rfl ?_
    refine g_iload_n (pc := 55) C dX7_plus_55 rfl 3 rfl ?_
    refine zcallSi (pc := 56) (st := [.int 2048, .ref (ad 0)]) C C.2.2.2.2.2 (n_X7_signed l D ad cy tl A p0 p2) (va_cwS 2 C.2.2.2.2.1 gw_RX7_138 rfl rfl rfl cs_X7_signed ⟨Nat.le_of_ble_eq_true rfl, Nat.le_of_ble_eq_true rfl⟩) rfl rfl (Nat.le_of_ble_eq_true rfl) ⟨Nat.le_of_ble_eq_true rfl, Nat.le_of_ble_eq_true rfl⟩ dX7_plus_56 (fun r15 => ?_)
    refine g_if_ge (pc := 59) C 66 dX7_plus_59 (by decide) (fun c16 => ?_) (fun c16 => ?_)
    · have h17 : zI 0 2147483647 r15 := zr_le2 (zc_le c16) (zi_c 0 (a := 0) (b := 0) (by decide)) (zi_full r15) (by decide)
      refine g_iconst (pc := 66) C 0 dX7_plus_66 (by decide) ?_
      exact g_sub [0, 1, 2, 3, 4, 5] rfl (J67 a4_47 a5_47 0 ha4_47 ha5_47 (zi_c 0 (a := 0) (b := 1) (by decide)))
    · have h18 : zI (-2147483648) (-1) r15 := zr_lt1 (zc_nle c16) (zi_full r15) (zi_c 0 (a := 0) (b := 0) (by decide)) (by decide)
      refine g_iconst (pc := 62) C 1 dX7_plus_62 (by decide) ?_
      refine g_goto (pc := 63) C 67 dX7_plus_63 (by decide) ?_
      exact g_sub [0, 1, 2, 3, 4, 5] rfl (J67 a4_47 a5_47 1 ha4_47 ha5_47 (zi_c 1 (a := 0) (b := 1) (by decide)))
  have J12 : ∀ (b0_12 : Int32) (_ : zI 255 65535 b0_12), zG p l e ({ frames := 2, cells := 0, slots := 0, locals := 45 }) s m args below meth c 6 0 0 A Q (zMr D A ad cy tl) 12 [(0, .ref (ad 0)), (1, .int p0), (2, .int p1), (3, .int p2)] [.int b0_12] := by
    intro b0_12 hb0_12
    refine g_istore (pc := 12) C ([(4, .int b0_12), (0, .ref (ad 0)), (1, .int p0), (2, .int p1), (3, .int p2)]) dX7_plus_12 (Nat.le_of_ble_eq_true rfl) rfl ?_
    refine g_iload_n (pc := 14) C dX7_plus_14 rfl 2 rfl ?_
    refine g_iload_n (pc := 15) C dX7_plus_15 rfl 3 rfl ?_
    refine g_iadd (pc := 16) C dX7_plus_16 (fun z19 ez19 => ?_)
    refine g_iload (pc := 17) C dX7_plus_17 0 rfl ?_
    refine g_iand (pc := 19) C dX7_plus_19 (fun z20 ez20 => ?_)
    have hz20 : zI 0 65535 z20 := zi_and1 (zi_w hb0_12 (a' := 0) (b' := 65535) (by decide)) ez20
    refine g_istore (pc := 20) C ([(5, .int z20), (4, .int b0_12), (0, .ref (ad 0)), (1, .int p0), (2, .int p1), (3, .int p2)]) dX7_plus_20 (Nat.le_of_ble_eq_true rfl) rfl ?_
    refine g_aload_n (pc := 22) C dX7_plus_22 rfl 2 rfl ?_
    refine g_iload (pc := 23) C dX7_plus_23 0 rfl ?_
    refine g_iconst (pc := 25) C 0 dX7_plus_25 (by decide) ?_
    refine g_iload_n (pc := 26) C dX7_plus_26 rfl 5 rfl ?_
    refine zcallVv (pc := 27) (st := []) C C.2.2.2.2.2 (n_X7_compare l D ad cy tl A z20 0 p2) (cwV 3 C.2.2.2.2.1 gw_RX7_151 rfl rfl rfl cd_X7_compare ⟨Nat.le_of_ble_eq_true rfl, Nat.le_of_ble_eq_true rfl⟩) (hr_0 C) rfl rfl (Nat.le_of_ble_eq_true rfl) ⟨Nat.le_of_ble_eq_true rfl, Nat.le_of_ble_eq_true rfl⟩ dX7_plus_27 ?_
    refine g_aload_n (pc := 30) C dX7_plus_30 rfl 2 rfl ?_
    refine g_sipush (pc := 31) C 4096 dX7_plus_31 (by decide) ?_
    refine g_iload_n (pc := 34) C dX7_plus_34 rfl 3 rfl ?_
    refine g_iload_n (pc := 35) C dX7_plus_35 rfl 4 rfl ?_
    refine g_iadd (pc := 36) C dX7_plus_36 (fun z21 ez21 => ?_)
    refine g_iload (pc := 37) C dX7_plus_37 1 rfl ?_
    refine g_icmp_le (pc := 39) C 46 dX7_plus_39 (by decide) (fun c22 => ?_) (fun c22 => ?_)
    · have h23 : zI (-2147483648) 65535 z21 := zr_le1 (zc_le c22) (zi_full z21) hb0_12 (by decide)
      refine g_iconst (pc := 46) C 0 dX7_plus_46 (by decide) ?_
      exact g_sub [2, 3, 4, 5, 1, 0] rfl (J47 b0_12 z20 0 hb0_12 hz20 (zi_c 0 (a := 0) (b := 1) (by decide)))
    · have h24 : zI 256 2147483647 z21 := zr_lt2 (zc_nle c22) hb0_12 (zi_full z21) (by decide)
      refine g_iconst (pc := 42) C 1 dX7_plus_42 (by decide) ?_
      refine g_goto (pc := 43) C 47 dX7_plus_43 (by decide) ?_
      exact g_sub [2, 3, 4, 5, 1, 0] rfl (J47 b0_12 z20 1 hb0_12 hz20 (zi_c 1 (a := 0) (b := 1) (by decide)))
  refine g_sub (lv' := [(0, .ref (ad 0)), (1, .int p0), (2, .int p1), (3, .int p2)]) [0, 1, 2, 3] rfl ?_
  refine g_iload_n (pc := 0) C dX7_plus_0 rfl 3 rfl ?_
  refine g_if_eq (pc := 1) C 10 dX7_plus_1 (by decide) (fun c25 => ?_) (fun c25 => ?_)
  · have h26 : zI 0 0 p2 := zr_eq c25 (zi_full p2) (zi_c 0 (a := 0) (b := 0) (by decide)) (by decide)
    refine g_ldc (pc := 10) C dX7_plus_10 (C.wd wk_816) ?_
    exact g_sub [0, 1, 2, 3] rfl (J12 65535 (zi_c 65535 (a := 255) (b := 65535) (by decide)))
  · refine g_sipush (pc := 4) C 255 dX7_plus_4 (by decide) ?_
    refine g_goto (pc := 7) C 12 dX7_plus_7 (by decide) ?_
    exact g_sub [0, 1, 2, 3] rfl (J12 255 (zi_c 255 (a := 255) (b := 65535) (by decide)))

set_option maxHeartbeats 2000000 in
set_option maxRecDepth 100000 in
theorem n_X7_less (l : Launch) (D : va_G) (ad : Nat → Nat) (cy : Nat → ClassId) (tl : Int32) (A : Nat → Prop) (p0 : Int32) (p1 : Int32) (p2 : Int32) : zMi l yX7_less wz_X7_less ({ frames := 2, cells := 0, slots := 0, locals := 45 }) [.ref (ad 0), .int p0, .int p1, .int p2] D (zTr cy) A (zMr D A ad cy tl) (fun _ => (zMr D A ad cy tl)) := by
  refine zstart_i (cc := cX7_less) (maxL := 6) (ty := .int) (own := RX7) (by decide) rfl rfl (Nat.le_of_ble_eq_true rfl) (fun p e s m args below meth c Q C r => ?_)
  have J115 : ∀ (a4_115 : Int32) (a5_115 : Int32) (b0_115 : Int32) (_ : zI 255 65535 a4_115) (_ : zI 0 65535 a5_115) (_ : zI 0 1 b0_115), zG p l e ({ frames := 2, cells := 0, slots := 0, locals := 45 }) s m args below meth c 6 0 0 A Q (zMr D A ad cy tl) 115 [(0, .ref (ad 0)), (1, .int p0), (2, .int p1), (3, .int p2), (4, .int a4_115), (5, .int a5_115)] [.int b0_115, .int 2048, .ref (ad 0)] := by
    intro a4_115 a5_115 b0_115 ha4_115 ha5_115 hb0_115
    refine zcallVv (pc := 115) (st := []) C C.2.2.2.2.2 (n_X7_flag l D ad cy tl A 2048 b0_115) (cwV 2 C.2.2.2.2.1 gw_RX7_134 rfl rfl rfl cd_X7_flag ⟨Nat.le_of_ble_eq_true rfl, Nat.le_of_ble_eq_true rfl⟩) (hr_0 C) rfl rfl (Nat.le_of_ble_eq_true rfl) ⟨Nat.le_of_ble_eq_true rfl, Nat.le_of_ble_eq_true rfl⟩ dX7_less_115 ?_
    refine g_iload (pc := 118) C dX7_less_118 5 rfl ?_
    exact g_ireturn r dX7_less_120 rfl (fun _ h => h)
  have J114 : ∀ (a4_114 : Int32) (a5_114 : Int32) (_ : zI 255 65535 a4_114) (_ : zI 0 65535 a5_114), zG p l e ({ frames := 2, cells := 0, slots := 0, locals := 45 }) s m args below meth c 6 0 0 A Q (zMr D A ad cy tl) 114 [(0, .ref (ad 0)), (1, .int p0), (2, .int p1), (3, .int p2), (4, .int a4_114), (5, .int a5_114)] [.int 2048, .ref (ad 0)] := by
    intro a4_114 a5_114 ha4_114 ha5_114
    refine g_iconst (pc := 114) C 0 dX7_less_114 (by decide) ?_
    exact g_sub [0, 1, 2, 3, 4, 5] rfl (J115 a4_114 a5_114 0 ha4_114 ha5_114 (zi_c 0 (a := 0) (b := 1) (by decide)))
  have J107 : ∀ (a4_107 : Int32) (a5_107 : Int32) (b0_107 : Int32) (b1_107 : Int32) (_ : zI 255 65535 a4_107) (_ : zI 0 65535 a5_107) (_ : zI 0 1 b0_107) (_ : zI 0 1 b1_107), zG p l e ({ frames := 2, cells := 0, slots := 0, locals := 45 }) s m args below meth c 6 0 0 A Q (zMr D A ad cy tl) 107 [(0, .ref (ad 0)), (1, .int p0), (2, .int p1), (3, .int p2), (4, .int a4_107), (5, .int a5_107)] [.int b0_107, .int b1_107, .int 2048, .ref (ad 0)] := by
    intro a4_107 a5_107 b0_107 b1_107 ha4_107 ha5_107 hb0_107 hb1_107
    refine g_icmp_eq (pc := 107) C 114 dX7_less_107 (by decide) (fun c1 => ?_) (fun c1 => ?_)
    · exact g_sub [0, 1, 2, 3, 4, 5] rfl (J114 a4_107 a5_107 ha4_107 ha5_107)
    · refine g_iconst (pc := 110) C 1 dX7_less_110 (by decide) ?_
      refine g_goto (pc := 111) C 115 dX7_less_111 (by decide) ?_
      exact g_sub [0, 1, 2, 3, 4, 5] rfl (J115 a4_107 a5_107 1 ha4_107 ha5_107 (zi_c 1 (a := 0) (b := 1) (by decide)))
  have J94 : ∀ (a4_94 : Int32) (a5_94 : Int32) (b0_94 : Int32) (_ : zI 255 65535 a4_94) (_ : zI 0 65535 a5_94) (_ : zI 0 1 b0_94), zG p l e ({ frames := 2, cells := 0, slots := 0, locals := 45 }) s m args below meth c 6 0 0 A Q (zMr D A ad cy tl) 94 [(0, .ref (ad 0)), (1, .int p0), (2, .int p1), (3, .int p2), (4, .int a4_94), (5, .int a5_94)] [.int b0_94, .int 2048, .ref (ad 0)] := by
    intro a4_94 a5_94 b0_94 ha4_94 ha5_94 hb0_94
    refine g_iload_n (pc := 94) C dX7_less_94 rfl 1 rfl ?_
    refine g_iload_n (pc := 95) C dX7_less_95 rfl 3 rfl ?_
    refine zcallSi (pc := 96) (st := [.int b0_94, .int 2048, .ref (ad 0)]) C C.2.2.2.2.2 (n_X7_signed l D ad cy tl A p0 p2) (va_cwS 2 C.2.2.2.2.1 gw_RX7_138 rfl rfl rfl cs_X7_signed ⟨Nat.le_of_ble_eq_true rfl, Nat.le_of_ble_eq_true rfl⟩) rfl rfl (Nat.le_of_ble_eq_true rfl) ⟨Nat.le_of_ble_eq_true rfl, Nat.le_of_ble_eq_true rfl⟩ dX7_less_96 (fun r2 => ?_)
    refine g_if_ge (pc := 99) C 106 dX7_less_99 (by decide) (fun c3 => ?_) (fun c3 => ?_)
    · have h4 : zI 0 2147483647 r2 := zr_le2 (zc_le c3) (zi_c 0 (a := 0) (b := 0) (by decide)) (zi_full r2) (by decide)
      refine g_iconst (pc := 106) C 0 dX7_less_106 (by decide) ?_
      exact g_sub [0, 1, 2, 3, 4, 5] rfl (J107 a4_94 a5_94 0 b0_94 ha4_94 ha5_94 (zi_c 0 (a := 0) (b := 1) (by decide)) hb0_94)
    · have h5 : zI (-2147483648) (-1) r2 := zr_lt1 (zc_nle c3) (zi_full r2) (zi_c 0 (a := 0) (b := 0) (by decide)) (by decide)
      refine g_iconst (pc := 102) C 1 dX7_less_102 (by decide) ?_
      refine g_goto (pc := 103) C 107 dX7_less_103 (by decide) ?_
      exact g_sub [0, 1, 2, 3, 4, 5] rfl (J107 a4_94 a5_94 1 b0_94 ha4_94 ha5_94 (zi_c 1 (a := 0) (b := 1) (by decide)) hb0_94)
  have J77 : ∀ (a4_77 : Int32) (a5_77 : Int32) (b0_77 : Int32) (b1_77 : Int32) (_ : zI 255 65535 a4_77) (_ : zI 0 65535 a5_77) (_ : zI 0 1 b0_77) (_ : zI 0 1 b1_77), zG p l e ({ frames := 2, cells := 0, slots := 0, locals := 45 }) s m args below meth c 6 0 0 A Q (zMr D A ad cy tl) 77 [(0, .ref (ad 0)), (1, .int p0), (2, .int p1), (3, .int p2), (4, .int a4_77), (5, .int a5_77)] [.int b0_77, .int b1_77, .int 2048, .ref (ad 0)] := by
    intro a4_77 a5_77 b0_77 b1_77 ha4_77 ha5_77 hb0_77 hb1_77
    refine g_icmp_eq (pc := 77) C 114 dX7_less_77 (by decide) (fun c6 => ?_) (fun c6 => ?_)
    · exact g_sub [0, 1, 2, 3, 4, 5] rfl (J114 a4_77 a5_77 ha4_77 ha5_77)
    · refine g_iload (pc := 80) C dX7_less_80 5 rfl ?_
      refine g_iload_n (pc := 82) C dX7_less_82 rfl 3 rfl ?_
      refine zcallSi (pc := 83) (st := [.int 2048, .ref (ad 0)]) C C.2.2.2.2.2 (n_X7_signed l D ad cy tl A a5_77 p2) (va_cwS 2 C.2.2.2.2.1 gw_RX7_138 rfl rfl rfl cs_X7_signed ⟨Nat.le_of_ble_eq_true rfl, Nat.le_of_ble_eq_true rfl⟩) rfl rfl (Nat.le_of_ble_eq_true rfl) ⟨Nat.le_of_ble_eq_true rfl, Nat.le_of_ble_eq_true rfl⟩ dX7_less_83 (fun r7 => ?_)
      refine g_if_ge (pc := 86) C 93 dX7_less_86 (by decide) (fun c8 => ?_) (fun c8 => ?_)
      · have h9 : zI 0 2147483647 r7 := zr_le2 (zc_le c8) (zi_c 0 (a := 0) (b := 0) (by decide)) (zi_full r7) (by decide)
        refine g_iconst (pc := 93) C 0 dX7_less_93 (by decide) ?_
        exact g_sub [0, 1, 2, 3, 4, 5] rfl (J94 a4_77 a5_77 0 ha4_77 ha5_77 (zi_c 0 (a := 0) (b := 1) (by decide)))
      · have h10 : zI (-2147483648) (-1) r7 := zr_lt1 (zc_nle c8) (zi_full r7) (zi_c 0 (a := 0) (b := 0) (by decide)) (by decide)
        refine g_iconst (pc := 89) C 1 dX7_less_89 (by decide) ?_
        refine g_goto (pc := 90) C 94 dX7_less_90 (by decide) ?_
        exact g_sub [0, 1, 2, 3, 4, 5] rfl (J94 a4_77 a5_77 1 ha4_77 ha5_77 (zi_c 1 (a := 0) (b := 1) (by decide)))
  have J64 : ∀ (a4_64 : Int32) (a5_64 : Int32) (b0_64 : Int32) (_ : zI 255 65535 a4_64) (_ : zI 0 65535 a5_64) (_ : zI 0 1 b0_64), zG p l e ({ frames := 2, cells := 0, slots := 0, locals := 45 }) s m args below meth c 6 0 0 A Q (zMr D A ad cy tl) 64 [(0, .ref (ad 0)), (1, .int p0), (2, .int p1), (3, .int p2), (4, .int a4_64), (5, .int a5_64)] [.int b0_64, .int 2048, .ref (ad 0)] := by
    intro a4_64 a5_64 b0_64 ha4_64 ha5_64 hb0_64
    refine g_iload_n (pc := 64) C dX7_less_64 rfl 2 rfl ?_
    refine g_iload_n (pc := 65) C dX7_less_65 rfl 3 rfl ?_
    refine zcallSi (pc := 66) (st := [.int b0_64, .int 2048, .ref (ad 0)]) C C.2.2.2.2.2 (n_X7_signed l D ad cy tl A p1 p2) (va_cwS 2 C.2.2.2.2.1 gw_RX7_138 rfl rfl rfl cs_X7_signed ⟨Nat.le_of_ble_eq_true rfl, Nat.le_of_ble_eq_true rfl⟩) rfl rfl (Nat.le_of_ble_eq_true rfl) ⟨Nat.le_of_ble_eq_true rfl, Nat.le_of_ble_eq_true rfl⟩ dX7_less_66 (fun r11 => ?_)
    refine g_if_ge (pc := 69) C 76 dX7_less_69 (by decide) (fun c12 => ?_) (fun c12 => ?_)
    · have h13 : zI 0 2147483647 r11 := zr_le2 (zc_le c12) (zi_c 0 (a := 0) (b := 0) (by decide)) (zi_full r11) (by decide)
      refine g_iconst (pc := 76) C 0 dX7_less_76 (by decide) ?_
      exact g_sub [0, 1, 2, 3, 4, 5] rfl (J77 a4_64 a5_64 0 b0_64 ha4_64 ha5_64 (zi_c 0 (a := 0) (b := 1) (by decide)) hb0_64)
    · have h14 : zI (-2147483648) (-1) r11 := zr_lt1 (zc_nle c12) (zi_full r11) (zi_c 0 (a := 0) (b := 0) (by decide)) (by decide)
      refine g_iconst (pc := 72) C 1 dX7_less_72 (by decide) ?_
      refine g_goto (pc := 73) C 77 dX7_less_73 (by decide) ?_
      exact g_sub [0, 1, 2, 3, 4, 5] rfl (J77 a4_64 a5_64 1 b0_64 ha4_64 ha5_64 (zi_c 1 (a := 0) (b := 1) (by decide)) hb0_64)
  have J44 : ∀ (a4_44 : Int32) (a5_44 : Int32) (b0_44 : Int32) (_ : zI 255 65535 a4_44) (_ : zI 0 65535 a5_44) (_ : zI 0 1 b0_44), zG p l e ({ frames := 2, cells := 0, slots := 0, locals := 45 }) s m args below meth c 6 0 0 A Q (zMr D A ad cy tl) 44 [(0, .ref (ad 0)), (1, .int p0), (2, .int p1), (3, .int p2), (4, .int a4_44), (5, .int a5_44)] [.int b0_44, .int 4096, .ref (ad 0)] := by
    intro a4_44 a5_44 b0_44 ha4_44 ha5_44 hb0_44
    refine zcallVv (pc := 44) (st := []) C C.2.2.2.2.2 (n_X7_flag l D ad cy tl A 4096 b0_44) (cwV 2 C.2.2.2.2.1 gw_RX7_134 rfl rfl rfl cd_X7_flag ⟨Nat.le_of_ble_eq_true rfl, Nat.le_of_ble_eq_true rfl⟩) (hr_0 C) rfl rfl (Nat.le_of_ble_eq_true rfl) ⟨Nat.le_of_ble_eq_true rfl, Nat.le_of_ble_eq_true rfl⟩ dX7_less_44 ?_
    refine g_aload_n (pc := 47) C dX7_less_47 rfl 0 rfl ?_
    refine g_sipush (pc := 48) C 2048 dX7_less_48 (by decide) ?_
    refine g_iload_n (pc := 51) C dX7_less_51 rfl 1 rfl ?_
    refine g_iload_n (pc := 52) C dX7_less_52 rfl 3 rfl ?_
    refine zcallSi (pc := 53) (st := [.int 2048, .ref (ad 0)]) C C.2.2.2.2.2 (n_X7_signed l D ad cy tl A p0 p2) (va_cwS 2 C.2.2.2.2.1 gw_RX7_138 rfl rfl rfl cs_X7_signed ⟨Nat.le_of_ble_eq_true rfl, Nat.le_of_ble_eq_true rfl⟩) rfl rfl (Nat.le_of_ble_eq_true rfl) ⟨Nat.le_of_ble_eq_true rfl, Nat.le_of_ble_eq_true rfl⟩ dX7_less_53 (fun r15 => ?_)
    refine g_if_ge (pc := 56) C 63 dX7_less_56 (by decide) (fun c16 => ?_) (fun c16 => ?_)
    · have h17 : zI 0 2147483647 r15 := zr_le2 (zc_le c16) (zi_c 0 (a := 0) (b := 0) (by decide)) (zi_full r15) (by decide)
      refine g_iconst (pc := 63) C 0 dX7_less_63 (by decide) ?_
      exact g_sub [0, 1, 2, 3, 4, 5] rfl (J64 a4_44 a5_44 0 ha4_44 ha5_44 (zi_c 0 (a := 0) (b := 1) (by decide)))
    · have h18 : zI (-2147483648) (-1) r15 := zr_lt1 (zc_nle c16) (zi_full r15) (zi_c 0 (a := 0) (b := 0) (by decide)) (by decide)
      refine g_iconst (pc := 59) C 1 dX7_less_59 (by decide) ?_
      refine g_goto (pc := 60) C 64 dX7_less_60 (by decide) ?_
      exact g_sub [0, 1, 2, 3, 4, 5] rfl (J64 a4_44 a5_44 1 ha4_44 ha5_44 (zi_c 1 (a := 0) (b := 1) (by decide)))
  have J12 : ∀ (b0_12 : Int32) (_ : zI 255 65535 b0_12), zG p l e ({ frames := 2, cells := 0, slots := 0, locals := 45 }) s m args below meth c 6 0 0 A Q (zMr D A ad cy tl) 12 [(0, .ref (ad 0)), (1, .int p0), (2, .int p1), (3, .int p2)] [.int b0_12] := by
    intro b0_12 hb0_12
    refine g_istore (pc := 12) C ([(4, .int b0_12), (0, .ref (ad 0)), (1, .int p0), (2, .int p1), (3, .int p2)]) dX7_less_12 (Nat.le_of_ble_eq_true rfl) rfl ?_
    refine g_iload_n (pc := 14) C dX7_less_14 rfl 2 rfl ?_
    refine g_iload_n (pc := 15) C dX7_less_15 rfl 3 rfl ?_
    refine g_isub (pc := 16) C dX7_less_16 (fun z19 ez19 => ?_)
    refine g_iload (pc := 17) C dX7_less_17 0 rfl ?_
    refine g_iand (pc := 19) C dX7_less_19 (fun z20 ez20 => ?_)
    have hz20 : zI 0 65535 z20 := zi_and1 (zi_w hb0_12 (a' := 0) (b' := 65535) (by decide)) ez20
    refine g_istore (pc := 20) C ([(5, .int z20), (4, .int b0_12), (0, .ref (ad 0)), (1, .int p0), (2, .int p1), (3, .int p2)]) dX7_less_20 (Nat.le_of_ble_eq_true rfl) rfl ?_
    refine g_aload_n (pc := 22) C dX7_less_22 rfl 2 rfl ?_
    refine g_iload (pc := 23) C dX7_less_23 0 rfl ?_
    refine g_iconst (pc := 25) C 0 dX7_less_25 (by decide) ?_
    refine g_iload_n (pc := 26) C dX7_less_26 rfl 5 rfl ?_
    refine zcallVv (pc := 27) (st := []) C C.2.2.2.2.2 (n_X7_compare l D ad cy tl A z20 0 p2) (cwV 3 C.2.2.2.2.1 gw_RX7_151 rfl rfl rfl cd_X7_compare ⟨Nat.le_of_ble_eq_true rfl, Nat.le_of_ble_eq_true rfl⟩) (hr_0 C) rfl rfl (Nat.le_of_ble_eq_true rfl) ⟨Nat.le_of_ble_eq_true rfl, Nat.le_of_ble_eq_true rfl⟩ dX7_less_27 ?_
    refine g_aload_n (pc := 30) C dX7_less_30 rfl 2 rfl ?_
    refine g_sipush (pc := 31) C 4096 dX7_less_31 (by decide) ?_
    refine g_iload_n (pc := 34) C dX7_less_34 rfl 4 rfl ?_
    refine g_iload_n (pc := 35) C dX7_less_35 rfl 3 rfl ?_
    refine g_icmp_gt (pc := 36) C 43 dX7_less_36 (by decide) (fun c21 => ?_) (fun c21 => ?_)
    · have h22 : zI (-2147483648) 2147483646 p0 := zr_lt1 (zc_lt c21) (zi_full p0) (zi_full p1) (by decide)
      have h23 : zI (-2147483647) 2147483647 p1 := zr_lt2 (zc_lt c21) (zi_full p0) (zi_full p1) (by decide)
      refine g_iconst (pc := 43) C 0 dX7_less_43 (by decide) ?_
      exact g_sub [2, 3, 4, 5, 1, 0] rfl (J44 b0_12 z20 0 hb0_12 hz20 (zi_c 0 (a := 0) (b := 1) (by decide)))
    · refine g_iconst (pc := 39) C 1 dX7_less_39 (by decide) ?_
      refine g_goto (pc := 40) C 44 dX7_less_40 (by decide) ?_
      exact g_sub [2, 3, 4, 5, 1, 0] rfl (J44 b0_12 z20 1 hb0_12 hz20 (zi_c 1 (a := 0) (b := 1) (by decide)))
  refine g_sub (lv' := [(0, .ref (ad 0)), (1, .int p0), (2, .int p1), (3, .int p2)]) [0, 1, 2, 3] rfl ?_
  refine g_iload_n (pc := 0) C dX7_less_0 rfl 3 rfl ?_
  refine g_if_eq (pc := 1) C 10 dX7_less_1 (by decide) (fun c24 => ?_) (fun c24 => ?_)
  · have h25 : zI 0 0 p2 := zr_eq c24 (zi_full p2) (zi_c 0 (a := 0) (b := 0) (by decide)) (by decide)
    refine g_ldc (pc := 10) C dX7_less_10 (C.wd wk_816) ?_
    exact g_sub [0, 1, 2, 3] rfl (J12 65535 (zi_c 65535 (a := 255) (b := 65535) (by decide)))
  · refine g_sipush (pc := 4) C 255 dX7_less_4 (by decide) ?_
    refine g_goto (pc := 7) C 12 dX7_less_7 (by decide) ?_
    exact g_sub [0, 1, 2, 3] rfl (J12 255 (zi_c 255 (a := 255) (b := 65535) (by decide)))

set_option maxHeartbeats 2000000 in
set_option maxRecDepth 100000 in
theorem n_X7_enter (l : Launch) (D : va_G) (ad : Nat → Nat) (cy : Nat → ClassId) (tl : Int32) (A : Nat → Prop) (p0 : Int32) : zMv l yX7_enter wz_X7_enter ({ frames := 6, cells := 0, slots := 0, locals := 131 }) [.ref (ad 0), .int p0] D (zTr cy) A (zMr D A ad cy tl) (zMr D A ad cy tl) := by
  refine zstart_v (cc := cX7_enter) (maxL := 5) (own := RX7) (by decide) rfl rfl (Nat.le_of_ble_eq_true rfl) (fun p e s m args below meth c Q C r => ?_)
  refine g_sub (lv' := [(0, .ref (ad 0)), (1, .int p0)]) [0, 1] rfl ?_
  refine g_aload_n (pc := 0) C dX7_enter_0 rfl 0 rfl ?_
  refine g_iload_n (pc := 1) C dX7_enter_1 rfl 1 rfl ?_
  refine zcallVi (pc := 2) (st := []) C C.2.2.2.2.2 (n_X7_readWord l D ad cy tl A p0) (cwV 1 C.2.2.2.2.1 gw_RX7_122 rfl rfl rfl cd_X7_readWord ⟨Nat.le_of_ble_eq_true rfl, Nat.le_of_ble_eq_true rfl⟩) (hr_0 C) rfl rfl (Nat.le_of_ble_eq_true rfl) ⟨Nat.le_of_ble_eq_true rfl, Nat.le_of_ble_eq_true rfl⟩ dX7_enter_2 (fun r1 => ?_)
  refine g_and (M2 := (zMr D A ad cy tl)) (fun hr1 => ?_)
  refine g_istore_n (pc := 5) C ([(2, .int r1), (0, .ref (ad 0)), (1, .int p0)]) dX7_enter_5 rfl (Nat.le_of_ble_eq_true rfl) rfl ?_
  refine g_aload_n (pc := 6) C dX7_enter_6 rfl 1 rfl ?_
  refine g_iload_n (pc := 7) C dX7_enter_7 rfl 2 rfl ?_
  refine g_iconst (pc := 8) C 2 dX7_enter_8 (by decide) ?_
  refine g_iadd (pc := 9) C dX7_enter_9 (fun z2 ez2 => ?_)
  refine g_ldc (pc := 10) C dX7_enter_10 (C.wd wk_816) ?_
  refine g_iand (pc := 12) C dX7_enter_12 (fun z3 ez3 => ?_)
  have hz3 : zI 0 65535 z3 := zi_and1 (zi_c 65535 (a := 0) (b := 65535) (by decide)) ez3
  refine zcallVi (pc := 13) (st := []) C C.2.2.2.2.2 (n_X7_readWord l D ad cy tl A z3) (cwV 1 C.2.2.2.2.1 gw_RX7_122 rfl rfl rfl cd_X7_readWord ⟨Nat.le_of_ble_eq_true rfl, Nat.le_of_ble_eq_true rfl⟩) (hr_0 C) rfl rfl (Nat.le_of_ble_eq_true rfl) ⟨Nat.le_of_ble_eq_true rfl, Nat.le_of_ble_eq_true rfl⟩ dX7_enter_13 (fun r4 => ?_)
  refine g_and (M2 := (zMr D A ad cy tl)) (fun hr4 => ?_)
  refine g_istore_n (pc := 16) C ([(3, .int r4), (2, .int r1), (0, .ref (ad 0)), (1, .int p0)]) dX7_enter_16 rfl (Nat.le_of_ble_eq_true rfl) rfl ?_
  refine g_aload_n (pc := 17) C dX7_enter_17 rfl 2 rfl ?_
  refine gr_0_17 (pc := 18) C wk_710 dX7_enter_18 (fun z5 vz5 => ?_)
  refine g_istore (pc := 21) C ([(4, .int z5), (3, .int r4), (2, .int r1), (0, .ref (ad 0)), (1, .int p0)]) dX7_enter_21 (Nat.le_of_ble_eq_true rfl) rfl ?_
  refine g_aload_n (pc := 23) C dX7_enter_23 rfl 3 rfl ?_
  refine g_iload_n (pc := 24) C dX7_enter_24 rfl 2 rfl ?_
  refine g_ldc (pc := 25) C dX7_enter_25 (C.wd wk_792) ?_
  refine g_iand (pc := 27) C dX7_enter_27 (fun z6 ez6 => ?_)
  have vz6 : zEv z6 := zev_and ez6
  have hz6 : zI 0 65534 z6 := zi_and1 (zi_c 65534 (a := 0) (b := 65534) (by decide)) ez6
  refine pr_0_17 (pc := 28) C wk_710 vz6 dX7_enter_28 ?_
  refine g_aload_n (pc := 31) C dX7_enter_31 rfl 3 rfl ?_
  refine g_bipush (pc := 32) C 13 dX7_enter_32 (by decide) ?_
  refine g_iload (pc := 34) C dX7_enter_34 0 rfl ?_
  refine zcallVv (pc := 36) (st := []) C C.2.2.2.2.2 (n_X7_register_ l D ad cy tl A 13 z5) (cwV 2 C.2.2.2.2.1 gw_RX7_149 rfl rfl rfl cd_X7_register_ ⟨Nat.le_of_ble_eq_true rfl, Nat.le_of_ble_eq_true rfl⟩) (hr_0 C) rfl rfl (Nat.le_of_ble_eq_true rfl) ⟨Nat.le_of_ble_eq_true rfl, Nat.le_of_ble_eq_true rfl⟩ dX7_enter_36 ?_
  refine g_aload_n (pc := 39) C dX7_enter_39 rfl 3 rfl ?_
  refine g_bipush (pc := 40) C 14 dX7_enter_40 (by decide) ?_
  refine g_aload_n (pc := 42) C dX7_enter_42 rfl 3 rfl ?_
  refine gr_0_16 (pc := 43) C wk_709 dX7_enter_43 (fun z7 => ?_)
  refine zcallVv (pc := 46) (st := []) C C.2.2.2.2.2 (n_X7_register_ l D ad cy tl A 14 z7) (cwV 2 C.2.2.2.2.1 gw_RX7_149 rfl rfl rfl cd_X7_register_ ⟨Nat.le_of_ble_eq_true rfl, Nat.le_of_ble_eq_true rfl⟩) (hr_0 C) rfl rfl (Nat.le_of_ble_eq_true rfl) ⟨Nat.le_of_ble_eq_true rfl, Nat.le_of_ble_eq_true rfl⟩ dX7_enter_46 ?_
  refine g_aload_n (pc := 49) C dX7_enter_49 rfl 3 rfl ?_
  refine g_bipush (pc := 50) C 15 dX7_enter_50 (by decide) ?_
  refine g_aload_n (pc := 52) C dX7_enter_52 rfl 3 rfl ?_
  refine gr_0_18 (pc := 53) C wk_711 dX7_enter_53 (fun z8 => ?_)
  refine zcallVv (pc := 56) (st := []) C C.2.2.2.2.2 (n_X7_register_ l D ad cy tl A 15 z8) (cwV 2 C.2.2.2.2.1 gw_RX7_149 rfl rfl rfl cd_X7_register_ ⟨Nat.le_of_ble_eq_true rfl, Nat.le_of_ble_eq_true rfl⟩) (hr_0 C) rfl rfl (Nat.le_of_ble_eq_true rfl) ⟨Nat.le_of_ble_eq_true rfl, Nat.le_of_ble_eq_true rfl⟩ dX7_enter_56 ?_
  refine g_aload_n (pc := 59) C dX7_enter_59 rfl 3 rfl ?_
  refine g_iload_n (pc := 60) C dX7_enter_60 rfl 1 rfl ?_
  refine g_ldc (pc := 61) C dX7_enter_61 (C.wd wk_792) ?_
  refine g_iand (pc := 63) C dX7_enter_63 (fun z9 ez9 => ?_)
  have vz9 : zEv z9 := zev_and ez9
  have hz9 : zI 0 65534 z9 := zi_and1 (zi_c 65534 (a := 0) (b := 65534) (by decide)) ez9
  refine pr_0_16 (pc := 64) C wk_709 dX7_enter_64 ?_
  exact g_return r dX7_enter_67 (fun _ h => h)

