set_option maxHeartbeats 2000000 in
set_option maxRecDepth 100000 in
theorem n_X7_loadL (l : Launch) (D : va_G) (ad : Nat → Nat) (cy : Nat → ClassId) (tl : Int32) (A : Nat → Prop) (p0 : Int32) (p1 : Int32) (htl : zI 0 1000 tl) (hp0 : zI (-2147483648) (-1) p0) : zMi l yX7_load wz_X7_load ({ frames := 4, cells := 0, slots := 0, locals := 86 }) [.ref (ad 0), .int p0, .int p1] D (zTr cy) A (zMr D A ad cy tl) (fun r H => ∃ t, zload tl p0 p1 r t ∧ zMr D A ad cy t H) := by
  refine zstart_i (cc := cX7_load) (maxL := 5) (ty := .int) (own := RX7) (by decide) rfl rfl (Nat.le_of_ble_eq_true rfl) (fun p e s m args below meth c Q C r => ?_)
  refine g_sub (lv' := [(0, .ref (ad 0)), (1, .int p0), (2, .int p1)]) [0, 1, 2] rfl ?_
  refine g_aload_n (pc := 0) C dX7_load_0 rfl 0 rfl ?_
  refine g_iconst (pc := 1) C 0 dX7_load_1 (by decide) ?_
  refine pr_0_0 (pc := 2) C wk_693 dX7_load_2 ?_
  refine g_iload_n (pc := 5) C dX7_load_5 rfl 1 rfl ?_
  refine g_iconst (pc := 6) C 0 dX7_load_6 (by decide) ?_
  refine g_iconst (pc := 7) C 3 dX7_load_7 (by decide) ?_
  refine zcallSi (pc := 8) (st := []) C C.2.2.2.2.2 (n_X7_in l D ad cy tl A p0 0 3 0 3 (by decide) (by decide)) (va_cwS 3 C.2.2.2.2.1 gw_RX7_47 rfl rfl rfl cs_X7_in ⟨Nat.le_of_ble_eq_true rfl, Nat.le_of_ble_eq_true rfl⟩) rfl rfl (Nat.le_of_ble_eq_true rfl) ⟨Nat.le_of_ble_eq_true rfl, Nat.le_of_ble_eq_true rfl⟩ dX7_load_8 (fun r1 => ?_)
  refine g_and (M2 := (zMr D A ad cy tl)) (fun hr1 => ?_)
  have kr1 := zin_01 hr1
  refine g_if_ne (pc := 11) C 16 dX7_load_11 (by decide) (fun c2 => ?_) (fun c2 => ?_)
  · exact zi_dis (zin_1 hr1 c2) hp0 (by decide)
  · have h3 : zI 0 0 r1 := zr_eq c2 kr1 (zi_c 0 (a := 0) (b := 0) (by decide)) (by decide)
    refine g_iconst (pc := 14) C (-1) dX7_load_14 (by decide) ?_
    exact g_ireturn r dX7_load_15 rfl (fun _ h => ⟨_, Or.inr ⟨zlokL hp0.2, rfl, rfl⟩, h⟩)

set_option maxHeartbeats 2000000 in
set_option maxRecDepth 100000 in
theorem n_X7_load0 (l : Launch) (D : va_G) (ad : Nat → Nat) (cy : Nat → ClassId) (tl : Int32) (A : Nat → Prop) (p1 : Int32) (htl : zI 0 1000 tl) : zMi l yX7_load wz_X7_load ({ frames := 4, cells := 0, slots := 0, locals := 86 }) [.ref (ad 0), .int 0, .int p1] D (zTr cy) A (zMr D A ad cy tl) (fun r H => ∃ t, zload tl 0 p1 r t ∧ zMr D A ad cy t H) := by
  refine zstart_i (cc := cX7_load) (maxL := 5) (ty := .int) (own := RX7) (by decide) rfl rfl (Nat.le_of_ble_eq_true rfl) (fun p e s m args below meth c Q C r => ?_)
  have J60 : ∀ (n : Nat) (a4_60 : Int32) (_ : zI 0 8192 p1) (_ : zI 0 1000 a4_60) (_ : zI 0 (8192 - tl.toInt) p1) (_ : (1000 - (a4_60 : Int32).toInt).toNat = n), zG p l e ({ frames := 4, cells := 0, slots := 0, locals := 86 }) s m args below meth c 5 0 0 A Q (zMr D A ad cy tl) 60 [(0, .ref (ad 0)), (1, .int 0), (2, .int p1), (3, .int 8192), (4, .int a4_60)] [] := by
    intro n
    induction n using Nat.strongRecOn with
    | ind n ih =>
      intro a4_60 hc_a2_60 ha4_60 hok hn
      refine g_iload (pc := 60) C dX7_load_60 4 rfl ?_
      refine g_aload_n (pc := 62) C dX7_load_62 rfl 0 rfl ?_
      refine gr_0_25 (pc := 63) C wk_718 dX7_load_63 ?_
      refine g_icmp_ge (pc := 66) C 177 dX7_load_66 (by decide) (fun c1 => ?_) (fun c1 => ?_)
      · refine g_aload_n (pc := 177) C dX7_load_177 rfl 0 rfl ?_
        refine gr_0_25 (pc := 178) C wk_718 dX7_load_178 ?_
        refine g_istore (pc := 181) C ([(4, .int tl), (0, .ref (ad 0)), (1, .int 0), (2, .int p1), (3, .int 8192)]) dX7_load_181 (Nat.le_of_ble_eq_true rfl) rfl ?_
        refine g_aload_n (pc := 183) C dX7_load_183 rfl 1 rfl ?_
        refine g_iconst (pc := 184) C 0 dX7_load_184 (by decide) ?_
        refine pr_0_25 (pc := 185) C wk_718 dX7_load_185 ?_
        refine g_iload (pc := 188) C dX7_load_188 0 rfl ?_
        exact g_ireturn r dX7_load_190 rfl (fun _ h => ⟨_, Or.inl ⟨zlok0.mpr hok, rfl, rfl⟩, h⟩)
      · have h2 : zI 0 999 a4_60 := zr_lt1 (zc_nle c1) ha4_60 htl (by decide)
        have h3 : zI 1 1000 tl := zr_lt2 (zc_nle c1) ha4_60 htl (by decide)
        refine g_iload_n (pc := 69) C dX7_load_69 rfl 1 rfl ?_
        refine g_tableI (pc := 70) C 0 0 (zi_w (zi_c 0 (a := 0) (b := 0) (by decide)) (a' := 0) (b' := 0 + (0 : Nat)) (by decide)) [96] dX7_load_70 (by decide) (by decide) (by decide) (List.forall_mem_cons.mpr ⟨?_, fun _ h => absurd h List.not_mem_nil⟩)
        · refine g_aload_n (pc := 96) C dX7_load_96 rfl 0 rfl ?_
          refine gr_0_1 (pc := 97) C wk_694 dX7_load_97 ?_
          refine g_iload_n (pc := 100) C dX7_load_100 rfl 2 rfl ?_
          refine g_iload (pc := 101) C dX7_load_101 4 rfl ?_
          refine g_iadd (pc := 103) C dX7_load_103 (fun z4 ez4 => ?_)
          have hz4 : zI 0 8191 z4 := zlix (S := 8192) ez4 hok h2 (zc_nle c1) (by decide)
          refine g_aload_n (pc := 104) C dX7_load_104 rfl 0 rfl ?_
          refine gr_0_24 (pc := 105) C wk_717 dX7_load_105 ?_
          refine g_iload (pc := 108) C dX7_load_108 4 rfl ?_
          refine lr_9 (pc := 110) C (zi_in h2 (by decide)) dX7_load_110 (fun z5 hz5 => ?_)
          refine g_i2b (pc := 111) C dX7_load_111 (fun z6 ez6 => ?_)
          have hz6 : zI (-128) 127 z6 := zi_i2b ez6
          refine sr_1 (pc := 112) C (zi_in hz4 (by decide)) dX7_load_112 ?_
          refine g_goto (pc := 113) C 171 dX7_load_113 (by decide) ?_
          obtain ⟨z7, ez7⟩ : ∃ z : Int32, z = a4_60 + 1 := ⟨_, rfl⟩
          have hz7 : zI 1 1000 z7 := zi_add h2 (zi_c 1 (a := 1) (b := 1) (by decide)) ez7 (by decide)
          refine g_iinc (pc := 171) C z7 ([(4, .int z7), (0, .ref (ad 0)), (1, .int 0), (2, .int p1), (3, .int 8192)]) dX7_load_171 4 rfl (by rw [ez7]; rfl) (Nat.le_of_ble_eq_true rfl) rfl ?_
          refine g_goto (pc := 174) C 60 dX7_load_174 (by decide) ?_
          exact g_sub [1, 2, 3, 4, 0] rfl (ih (1000 - (z7 : Int32).toInt).toNat (by rw [← hn]; exact zdec ez7 h2 (by decide) (zi_w hz7 (a' := 0) (b' := 1000) (by decide))) z7 hc_a2_60 (zi_w hz7 (a' := 0) (b' := 1000) (by decide)) hok rfl)
  have J40 : zG p l e ({ frames := 4, cells := 0, slots := 0, locals := 86 }) s m args below meth c 5 0 0 A Q (zMr D A ad cy tl) 40 [(0, .ref (ad 0)), (1, .int 0), (2, .int p1)] [.int 8192] := by
    refine g_istore_n (pc := 40) C ([(3, .int 8192), (0, .ref (ad 0)), (1, .int 0), (2, .int p1)]) dX7_load_40 rfl (Nat.le_of_ble_eq_true rfl) rfl ?_
    refine g_iload_n (pc := 41) C dX7_load_41 rfl 3 rfl ?_
    refine g_if_lt (pc := 42) C 55 dX7_load_42 (by decide) (fun c8 => ?_) (fun c8 => ?_)
    · have h9 : zI (-2147483648) (-1) p1 := zr_lt1 (zc_lt c8) (zi_full p1) (zi_c 0 (a := 0) (b := 0) (by decide)) (by decide)
      refine g_iconst (pc := 55) C (-1) dX7_load_55 (by decide) ?_
      have kc0 := (zc_lt c8)
      have : (0 : Int32).toInt = 0 := rfl
      exact g_ireturn r dX7_load_56 rfl (fun _ h => ⟨_, Or.inr ⟨fun q => by have q := zlok0.mp q; have q1 := q.1; have q2 := q.2; omega, rfl, rfl⟩, h⟩)
    · have h10 : zI 0 2147483647 p1 := zr_le2 (zc_nlt c8) (zi_c 0 (a := 0) (b := 0) (by decide)) (zi_full p1) (by decide)
      refine g_iload_n (pc := 45) C dX7_load_45 rfl 3 rfl ?_
      refine g_iload_n (pc := 46) C dX7_load_46 rfl 0 rfl ?_
      refine g_aload_n (pc := 47) C dX7_load_47 rfl 1 rfl ?_
      refine gr_0_25 (pc := 48) C wk_718 dX7_load_48 ?_
      refine g_isub (pc := 51) C dX7_load_51 (fun z11 ez11 => ?_)
      have hz11 : zI 7192 8192 z11 := zi_sub (zi_c 8192 (a := 8192) (b := 8192) (by decide)) htl ez11 (by decide)
      refine g_icmp_le (pc := 52) C 57 dX7_load_52 (by decide) (fun c12 => ?_) (fun c12 => ?_)
      · have h13 : zI 0 8192 p1 := zr_le1 (zc_le c12) h10 hz11 (by decide)
        refine g_iconst (pc := 57) C 0 dX7_load_57 (by decide) ?_
        refine g_istore (pc := 58) C ([(4, .int 0), (3, .int 8192), (0, .ref (ad 0)), (1, .int 0), (2, .int p1)]) dX7_load_58 (Nat.le_of_ble_eq_true rfl) rfl ?_
        have kc0 := (zc_nlt c8)
        have : (0 : Int32).toInt = 0 := rfl
        have kc1 := (zc_le c12)
        have kq1 := zsubE (zi_c 8192 (a := 8192) (b := 8192) (by decide)) htl ez11 (by decide)
        have : (8192 : Int32).toInt = 8192 := rfl
        have k14 : zI 0 (8192 - tl.toInt) p1 := ⟨by omega, by omega⟩
        exact g_sub [2, 3, 4, 1, 0] rfl (J60 (1000 - (0 : Int32).toInt).toNat 0 h13 (zi_c 0 (a := 0) (b := 1000) (by decide)) k14 rfl)
      · have h15 : zI 7193 2147483647 p1 := zr_lt2 (zc_nle c12) hz11 h10 (by decide)
        refine g_iconst (pc := 55) C (-1) dX7_load_55 (by decide) ?_
        have kc0 := (zc_nlt c8)
        have : (0 : Int32).toInt = 0 := rfl
        have kc1 := (zc_nle c12)
        have kq1 := zsubE (zi_c 8192 (a := 8192) (b := 8192) (by decide)) htl ez11 (by decide)
        have : (8192 : Int32).toInt = 8192 := rfl
        exact g_ireturn r dX7_load_56 rfl (fun _ h => ⟨_, Or.inr ⟨fun q => by have q := zlok0.mp q; have q1 := q.1; have q2 := q.2; omega, rfl, rfl⟩, h⟩)
  refine g_sub (lv' := [(0, .ref (ad 0)), (1, .int 0), (2, .int p1)]) [0, 1, 2] rfl ?_
  refine g_aload_n (pc := 0) C dX7_load_0 rfl 0 rfl ?_
  refine g_iconst (pc := 1) C 0 dX7_load_1 (by decide) ?_
  refine pr_0_0 (pc := 2) C wk_693 dX7_load_2 ?_
  refine g_iload_n (pc := 5) C dX7_load_5 rfl 1 rfl ?_
  refine g_iconst (pc := 6) C 0 dX7_load_6 (by decide) ?_
  refine g_iconst (pc := 7) C 3 dX7_load_7 (by decide) ?_
  refine zcallSi (pc := 8) (st := []) C C.2.2.2.2.2 (n_X7_in l D ad cy tl A 0 0 3 0 3 (by decide) (by decide)) (va_cwS 3 C.2.2.2.2.1 gw_RX7_47 rfl rfl rfl cs_X7_in ⟨Nat.le_of_ble_eq_true rfl, Nat.le_of_ble_eq_true rfl⟩) rfl rfl (Nat.le_of_ble_eq_true rfl) ⟨Nat.le_of_ble_eq_true rfl, Nat.le_of_ble_eq_true rfl⟩ dX7_load_8 (fun r16 => ?_)
  refine g_and (M2 := (zMr D A ad cy tl)) (fun hr16 => ?_)
  have kr16 := zin_01 hr16
  refine g_if_ne (pc := 11) C 16 dX7_load_11 (by decide) (fun c17 => ?_) (fun c17 => ?_)
  · have h18 : zI 1 1 r16 := zr_neL c17 kr16 (zi_c 0 (a := 0) (b := 0) (by decide)) (by decide)
    refine g_iload_n (pc := 16) C dX7_load_16 rfl 1 rfl ?_
    refine g_iconst (pc := 17) C 1 dX7_load_17 (by decide) ?_
    refine g_icmp_ne (pc := 18) C 26 dX7_load_18 (by decide) (fun _ => ?_) (fun h => absurd h (by decide))
    refine g_iload_n (pc := 26) C dX7_load_26 rfl 1 rfl ?_
    refine g_iconst (pc := 27) C 2 dX7_load_27 (by decide) ?_
    refine g_icmp_ne (pc := 28) C 37 dX7_load_28 (by decide) (fun _ => ?_) (fun h => absurd h (by decide))
    refine g_sipush (pc := 37) C 8192 dX7_load_37 (by decide) ?_
    exact g_sub [0, 1, 2] rfl (J40 )
  · exact absurd (zi_c 0 (a := 0) (b := 3) (by decide)) (zin_0 hr16 c17)

set_option maxHeartbeats 2000000 in
set_option maxRecDepth 100000 in
theorem n_X7_load1 (l : Launch) (D : va_G) (ad : Nat → Nat) (cy : Nat → ClassId) (tl : Int32) (A : Nat → Prop) (p1 : Int32) (htl : zI 0 1000 tl) : zMi l yX7_load wz_X7_load ({ frames := 4, cells := 0, slots := 0, locals := 86 }) [.ref (ad 0), .int 1, .int p1] D (zTr cy) A (zMr D A ad cy tl) (fun r H => ∃ t, zload tl 1 p1 r t ∧ zMr D A ad cy t H) := by
  refine zstart_i (cc := cX7_load) (maxL := 5) (ty := .int) (own := RX7) (by decide) rfl rfl (Nat.le_of_ble_eq_true rfl) (fun p e s m args below meth c Q C r => ?_)
  have J60 : ∀ (n : Nat) (a4_60 : Int32) (_ : zI 0 65536 p1) (_ : zI 0 1000 a4_60) (_ : zI 0 (65536 - tl.toInt) p1) (_ : (1000 - (a4_60 : Int32).toInt).toNat = n), zG p l e ({ frames := 4, cells := 0, slots := 0, locals := 86 }) s m args below meth c 5 0 0 A Q (zMr D A ad cy tl) 60 [(0, .ref (ad 0)), (1, .int 1), (2, .int p1), (3, .int 65536), (4, .int a4_60)] [] := by
    intro n
    induction n using Nat.strongRecOn with
    | ind n ih =>
      intro a4_60 hc_a2_60 ha4_60 hok hn
      refine g_iload (pc := 60) C dX7_load_60 4 rfl ?_
      refine g_aload_n (pc := 62) C dX7_load_62 rfl 0 rfl ?_
      refine gr_0_25 (pc := 63) C wk_718 dX7_load_63 ?_
      refine g_icmp_ge (pc := 66) C 177 dX7_load_66 (by decide) (fun c1 => ?_) (fun c1 => ?_)
      · refine g_aload_n (pc := 177) C dX7_load_177 rfl 0 rfl ?_
        refine gr_0_25 (pc := 178) C wk_718 dX7_load_178 ?_
        refine g_istore (pc := 181) C ([(4, .int tl), (0, .ref (ad 0)), (1, .int 1), (2, .int p1), (3, .int 65536)]) dX7_load_181 (Nat.le_of_ble_eq_true rfl) rfl ?_
        refine g_aload_n (pc := 183) C dX7_load_183 rfl 1 rfl ?_
        refine g_iconst (pc := 184) C 0 dX7_load_184 (by decide) ?_
        refine pr_0_25 (pc := 185) C wk_718 dX7_load_185 ?_
        refine g_iload (pc := 188) C dX7_load_188 0 rfl ?_
        exact g_ireturn r dX7_load_190 rfl (fun _ h => ⟨_, Or.inl ⟨zlok1.mpr hok, rfl, rfl⟩, h⟩)
      · have h2 : zI 0 999 a4_60 := zr_lt1 (zc_nle c1) ha4_60 htl (by decide)
        have h3 : zI 1 1000 tl := zr_lt2 (zc_nle c1) ha4_60 htl (by decide)
        refine g_iload_n (pc := 69) C dX7_load_69 rfl 1 rfl ?_
        refine g_tableI (pc := 70) C 1 0 (zi_w (zi_c 1 (a := 1) (b := 1) (by decide)) (a' := 1) (b' := 1 + (0 : Nat)) (by decide)) [116] dX7_load_70 (by decide) (by decide) (by decide) (List.forall_mem_cons.mpr ⟨?_, fun _ h => absurd h List.not_mem_nil⟩)
        · refine g_aload_n (pc := 116) C dX7_load_116 rfl 0 rfl ?_
          refine g_iload_n (pc := 117) C dX7_load_117 rfl 2 rfl ?_
          refine g_iload (pc := 118) C dX7_load_118 4 rfl ?_
          refine g_iadd (pc := 120) C dX7_load_120 (fun z4 ez4 => ?_)
          have hz4 : zI 0 65535 z4 := zlix (S := 65536) ez4 hok h2 (zc_nle c1) (by decide)
          refine g_aload_n (pc := 121) C dX7_load_121 rfl 0 rfl ?_
          refine gr_0_24 (pc := 122) C wk_717 dX7_load_122 ?_
          refine g_iload (pc := 125) C dX7_load_125 4 rfl ?_
          refine lr_9 (pc := 127) C (zi_in h2 (by decide)) dX7_load_127 (fun z5 hz5 => ?_)
          refine zcallVv (pc := 128) (st := []) C C.2.2.2.2.2 (n_X7_writeByte l D ad cy tl A z4 z5 hz4 hz5) (cwV 2 C.2.2.2.2.1 gw_RX7_76 rfl rfl rfl cd_X7_writeByte ⟨Nat.le_of_ble_eq_true rfl, Nat.le_of_ble_eq_true rfl⟩) (hr_0 C) rfl rfl (Nat.le_of_ble_eq_true rfl) ⟨Nat.le_of_ble_eq_true rfl, Nat.le_of_ble_eq_true rfl⟩ dX7_load_128 ?_
          refine g_goto (pc := 131) C 171 dX7_load_131 (by decide) ?_
          obtain ⟨z6, ez6⟩ : ∃ z : Int32, z = a4_60 + 1 := ⟨_, rfl⟩
          have hz6 : zI 1 1000 z6 := zi_add h2 (zi_c 1 (a := 1) (b := 1) (by decide)) ez6 (by decide)
          refine g_iinc (pc := 171) C z6 ([(4, .int z6), (0, .ref (ad 0)), (1, .int 1), (2, .int p1), (3, .int 65536)]) dX7_load_171 4 rfl (by rw [ez6]; rfl) (Nat.le_of_ble_eq_true rfl) rfl ?_
          refine g_goto (pc := 174) C 60 dX7_load_174 (by decide) ?_
          exact g_sub [1, 2, 3, 4, 0] rfl (ih (1000 - (z6 : Int32).toInt).toNat (by rw [← hn]; exact zdec ez6 h2 (by decide) (zi_w hz6 (a' := 0) (b' := 1000) (by decide))) z6 hc_a2_60 (zi_w hz6 (a' := 0) (b' := 1000) (by decide)) hok rfl)
  have J40 : zG p l e ({ frames := 4, cells := 0, slots := 0, locals := 86 }) s m args below meth c 5 0 0 A Q (zMr D A ad cy tl) 40 [(0, .ref (ad 0)), (1, .int 1), (2, .int p1)] [.int 65536] := by
    refine g_istore_n (pc := 40) C ([(3, .int 65536), (0, .ref (ad 0)), (1, .int 1), (2, .int p1)]) dX7_load_40 rfl (Nat.le_of_ble_eq_true rfl) rfl ?_
    refine g_iload_n (pc := 41) C dX7_load_41 rfl 3 rfl ?_
    refine g_if_lt (pc := 42) C 55 dX7_load_42 (by decide) (fun c7 => ?_) (fun c7 => ?_)
    · have h8 : zI (-2147483648) (-1) p1 := zr_lt1 (zc_lt c7) (zi_full p1) (zi_c 0 (a := 0) (b := 0) (by decide)) (by decide)
      refine g_iconst (pc := 55) C (-1) dX7_load_55 (by decide) ?_
      have kc0 := (zc_lt c7)
      have : (0 : Int32).toInt = 0 := rfl
      exact g_ireturn r dX7_load_56 rfl (fun _ h => ⟨_, Or.inr ⟨fun q => by have q := zlok1.mp q; have q1 := q.1; have q2 := q.2; omega, rfl, rfl⟩, h⟩)
    · have h9 : zI 0 2147483647 p1 := zr_le2 (zc_nlt c7) (zi_c 0 (a := 0) (b := 0) (by decide)) (zi_full p1) (by decide)
      refine g_iload_n (pc := 45) C dX7_load_45 rfl 3 rfl ?_
      refine g_iload_n (pc := 46) C dX7_load_46 rfl 0 rfl ?_
      refine g_aload_n (pc := 47) C dX7_load_47 rfl 1 rfl ?_
      refine gr_0_25 (pc := 48) C wk_718 dX7_load_48 ?_
      refine g_isub (pc := 51) C dX7_load_51 (fun z10 ez10 => ?_)
      have hz10 : zI 64536 65536 z10 := zi_sub (zi_c 65536 (a := 65536) (b := 65536) (by decide)) htl ez10 (by decide)
      refine g_icmp_le (pc := 52) C 57 dX7_load_52 (by decide) (fun c11 => ?_) (fun c11 => ?_)
      · have h12 : zI 0 65536 p1 := zr_le1 (zc_le c11) h9 hz10 (by decide)
        refine g_iconst (pc := 57) C 0 dX7_load_57 (by decide) ?_
        refine g_istore (pc := 58) C ([(4, .int 0), (3, .int 65536), (0, .ref (ad 0)), (1, .int 1), (2, .int p1)]) dX7_load_58 (Nat.le_of_ble_eq_true rfl) rfl ?_
        have kc0 := (zc_nlt c7)
        have : (0 : Int32).toInt = 0 := rfl
        have kc1 := (zc_le c11)
        have kq1 := zsubE (zi_c 65536 (a := 65536) (b := 65536) (by decide)) htl ez10 (by decide)
        have : (65536 : Int32).toInt = 65536 := rfl
        have k13 : zI 0 (65536 - tl.toInt) p1 := ⟨by omega, by omega⟩
        exact g_sub [2, 3, 4, 1, 0] rfl (J60 (1000 - (0 : Int32).toInt).toNat 0 h12 (zi_c 0 (a := 0) (b := 1000) (by decide)) k13 rfl)
      · have h14 : zI 64537 2147483647 p1 := zr_lt2 (zc_nle c11) hz10 h9 (by decide)
        refine g_iconst (pc := 55) C (-1) dX7_load_55 (by decide) ?_
        have kc0 := (zc_nlt c7)
        have : (0 : Int32).toInt = 0 := rfl
        have kc1 := (zc_nle c11)
        have kq1 := zsubE (zi_c 65536 (a := 65536) (b := 65536) (by decide)) htl ez10 (by decide)
        have : (65536 : Int32).toInt = 65536 := rfl
        exact g_ireturn r dX7_load_56 rfl (fun _ h => ⟨_, Or.inr ⟨fun q => by have q := zlok1.mp q; have q1 := q.1; have q2 := q.2; omega, rfl, rfl⟩, h⟩)
  refine g_sub (lv' := [(0, .ref (ad 0)), (1, .int 1), (2, .int p1)]) [0, 1, 2] rfl ?_
  refine g_aload_n (pc := 0) C dX7_load_0 rfl 0 rfl ?_
  refine g_iconst (pc := 1) C 0 dX7_load_1 (by decide) ?_
  refine pr_0_0 (pc := 2) C wk_693 dX7_load_2 ?_
  refine g_iload_n (pc := 5) C dX7_load_5 rfl 1 rfl ?_
  refine g_iconst (pc := 6) C 0 dX7_load_6 (by decide) ?_
  refine g_iconst (pc := 7) C 3 dX7_load_7 (by decide) ?_
  refine zcallSi (pc := 8) (st := []) C C.2.2.2.2.2 (n_X7_in l D ad cy tl A 1 0 3 0 3 (by decide) (by decide)) (va_cwS 3 C.2.2.2.2.1 gw_RX7_47 rfl rfl rfl cs_X7_in ⟨Nat.le_of_ble_eq_true rfl, Nat.le_of_ble_eq_true rfl⟩) rfl rfl (Nat.le_of_ble_eq_true rfl) ⟨Nat.le_of_ble_eq_true rfl, Nat.le_of_ble_eq_true rfl⟩ dX7_load_8 (fun r15 => ?_)
  refine g_and (M2 := (zMr D A ad cy tl)) (fun hr15 => ?_)
  have kr15 := zin_01 hr15
  refine g_if_ne (pc := 11) C 16 dX7_load_11 (by decide) (fun c16 => ?_) (fun c16 => ?_)
  · have h17 : zI 1 1 r15 := zr_neL c16 kr15 (zi_c 0 (a := 0) (b := 0) (by decide)) (by decide)
    refine g_iload_n (pc := 16) C dX7_load_16 rfl 1 rfl ?_
    refine g_iconst (pc := 17) C 1 dX7_load_17 (by decide) ?_
    refine g_icmp_ne (pc := 18) C 26 dX7_load_18 (by decide) (fun h => absurd h (by decide)) (fun _ => ?_)
    refine g_ldc (pc := 21) C dX7_load_21 (C.wd wk_692) ?_
    refine g_goto (pc := 23) C 40 dX7_load_23 (by decide) ?_
    exact g_sub [0, 1, 2] rfl (J40 )
  · exact absurd (zi_c 1 (a := 0) (b := 3) (by decide)) (zin_0 hr15 c16)

set_option maxHeartbeats 2000000 in
set_option maxRecDepth 100000 in
theorem n_X7_load2 (l : Launch) (D : va_G) (ad : Nat → Nat) (cy : Nat → ClassId) (tl : Int32) (A : Nat → Prop) (p1 : Int32) (htl : zI 0 1000 tl) : zMi l yX7_load wz_X7_load ({ frames := 4, cells := 0, slots := 0, locals := 86 }) [.ref (ad 0), .int 2, .int p1] D (zTr cy) A (zMr D A ad cy tl) (fun r H => ∃ t, zload tl 2 p1 r t ∧ zMr D A ad cy t H) := by
  refine zstart_i (cc := cX7_load) (maxL := 5) (ty := .int) (own := RX7) (by decide) rfl rfl (Nat.le_of_ble_eq_true rfl) (fun p e s m args below meth c Q C r => ?_)
  have J60 : ∀ (n : Nat) (a4_60 : Int32) (_ : zI 0 16384 p1) (_ : zI 0 1000 a4_60) (_ : zI 0 (16384 - tl.toInt) p1) (_ : (1000 - (a4_60 : Int32).toInt).toNat = n), zG p l e ({ frames := 4, cells := 0, slots := 0, locals := 86 }) s m args below meth c 5 0 0 A Q (zMr D A ad cy tl) 60 [(0, .ref (ad 0)), (1, .int 2), (2, .int p1), (3, .int 16384), (4, .int a4_60)] [] := by
    intro n
    induction n using Nat.strongRecOn with
    | ind n ih =>
      intro a4_60 hc_a2_60 ha4_60 hok hn
      refine g_iload (pc := 60) C dX7_load_60 4 rfl ?_
      refine g_aload_n (pc := 62) C dX7_load_62 rfl 0 rfl ?_
      refine gr_0_25 (pc := 63) C wk_718 dX7_load_63 ?_
      refine g_icmp_ge (pc := 66) C 177 dX7_load_66 (by decide) (fun c1 => ?_) (fun c1 => ?_)
      · refine g_aload_n (pc := 177) C dX7_load_177 rfl 0 rfl ?_
        refine gr_0_25 (pc := 178) C wk_718 dX7_load_178 ?_
        refine g_istore (pc := 181) C ([(4, .int tl), (0, .ref (ad 0)), (1, .int 2), (2, .int p1), (3, .int 16384)]) dX7_load_181 (Nat.le_of_ble_eq_true rfl) rfl ?_
        refine g_aload_n (pc := 183) C dX7_load_183 rfl 1 rfl ?_
        refine g_iconst (pc := 184) C 0 dX7_load_184 (by decide) ?_
        refine pr_0_25 (pc := 185) C wk_718 dX7_load_185 ?_
        refine g_iload (pc := 188) C dX7_load_188 0 rfl ?_
        exact g_ireturn r dX7_load_190 rfl (fun _ h => ⟨_, Or.inl ⟨zlok2.mpr hok, rfl, rfl⟩, h⟩)
      · have h2 : zI 0 999 a4_60 := zr_lt1 (zc_nle c1) ha4_60 htl (by decide)
        have h3 : zI 1 1000 tl := zr_lt2 (zc_nle c1) ha4_60 htl (by decide)
        refine g_iload_n (pc := 69) C dX7_load_69 rfl 1 rfl ?_
        refine g_tableI (pc := 70) C 2 0 (zi_w (zi_c 2 (a := 2) (b := 2) (by decide)) (a' := 2) (b' := 2 + (0 : Nat)) (by decide)) [134] dX7_load_70 (by decide) (by decide) (by decide) (List.forall_mem_cons.mpr ⟨?_, fun _ h => absurd h List.not_mem_nil⟩)
        · refine g_aload_n (pc := 134) C dX7_load_134 rfl 0 rfl ?_
          refine gr_0_3 (pc := 135) C wk_696 dX7_load_135 ?_
          refine g_iload_n (pc := 138) C dX7_load_138 rfl 2 rfl ?_
          refine g_iload (pc := 139) C dX7_load_139 4 rfl ?_
          refine g_iadd (pc := 141) C dX7_load_141 (fun z4 ez4 => ?_)
          have hz4 : zI 0 16383 z4 := zlix (S := 16384) ez4 hok h2 (zc_nle c1) (by decide)
          refine g_aload_n (pc := 142) C dX7_load_142 rfl 0 rfl ?_
          refine gr_0_24 (pc := 143) C wk_717 dX7_load_143 ?_
          refine g_iload (pc := 146) C dX7_load_146 4 rfl ?_
          refine lr_9 (pc := 148) C (zi_in h2 (by decide)) dX7_load_148 (fun z5 hz5 => ?_)
          refine g_i2b (pc := 149) C dX7_load_149 (fun z6 ez6 => ?_)
          have hz6 : zI (-128) 127 z6 := zi_i2b ez6
          refine sr_3 (pc := 150) C (zi_in hz4 (by decide)) dX7_load_150 ?_
          refine g_goto (pc := 151) C 171 dX7_load_151 (by decide) ?_
          obtain ⟨z7, ez7⟩ : ∃ z : Int32, z = a4_60 + 1 := ⟨_, rfl⟩
          have hz7 : zI 1 1000 z7 := zi_add h2 (zi_c 1 (a := 1) (b := 1) (by decide)) ez7 (by decide)
          refine g_iinc (pc := 171) C z7 ([(4, .int z7), (0, .ref (ad 0)), (1, .int 2), (2, .int p1), (3, .int 16384)]) dX7_load_171 4 rfl (by rw [ez7]; rfl) (Nat.le_of_ble_eq_true rfl) rfl ?_
          refine g_goto (pc := 174) C 60 dX7_load_174 (by decide) ?_
          exact g_sub [1, 2, 3, 4, 0] rfl (ih (1000 - (z7 : Int32).toInt).toNat (by rw [← hn]; exact zdec ez7 h2 (by decide) (zi_w hz7 (a' := 0) (b' := 1000) (by decide))) z7 hc_a2_60 (zi_w hz7 (a' := 0) (b' := 1000) (by decide)) hok rfl)
  have J40 : zG p l e ({ frames := 4, cells := 0, slots := 0, locals := 86 }) s m args below meth c 5 0 0 A Q (zMr D A ad cy tl) 40 [(0, .ref (ad 0)), (1, .int 2), (2, .int p1)] [.int 16384] := by
    refine g_istore_n (pc := 40) C ([(3, .int 16384), (0, .ref (ad 0)), (1, .int 2), (2, .int p1)]) dX7_load_40 rfl (Nat.le_of_ble_eq_true rfl) rfl ?_
    refine g_iload_n (pc := 41) C dX7_load_41 rfl 3 rfl ?_
    refine g_if_lt (pc := 42) C 55 dX7_load_42 (by decide) (fun c8 => ?_) (fun c8 => ?_)
    · have h9 : zI (-2147483648) (-1) p1 := zr_lt1 (zc_lt c8) (zi_full p1) (zi_c 0 (a := 0) (b := 0) (by decide)) (by decide)
      refine g_iconst (pc := 55) C (-1) dX7_load_55 (by decide) ?_
      have kc0 := (zc_lt c8)
      have : (0 : Int32).toInt = 0 := rfl
      exact g_ireturn r dX7_load_56 rfl (fun _ h => ⟨_, Or.inr ⟨fun q => by have q := zlok2.mp q; have q1 := q.1; have q2 := q.2; omega, rfl, rfl⟩, h⟩)
    · have h10 : zI 0 2147483647 p1 := zr_le2 (zc_nlt c8) (zi_c 0 (a := 0) (b := 0) (by decide)) (zi_full p1) (by decide)
      refine g_iload_n (pc := 45) C dX7_load_45 rfl 3 rfl ?_
      refine g_iload_n (pc := 46) C dX7_load_46 rfl 0 rfl ?_
      refine g_aload_n (pc := 47) C dX7_load_47 rfl 1 rfl ?_
      refine gr_0_25 (pc := 48) C wk_718 dX7_load_48 ?_
      refine g_isub (pc := 51) C dX7_load_51 (fun z11 ez11 => ?_)
      have hz11 : zI 15384 16384 z11 := zi_sub (zi_c 16384 (a := 16384) (b := 16384) (by decide)) htl ez11 (by decide)
      refine g_icmp_le (pc := 52) C 57 dX7_load_52 (by decide) (fun c12 => ?_) (fun c12 => ?_)
      · have h13 : zI 0 16384 p1 := zr_le1 (zc_le c12) h10 hz11 (by decide)
        refine g_iconst (pc := 57) C 0 dX7_load_57 (by decide) ?_
        refine g_istore (pc := 58) C ([(4, .int 0), (3, .int 16384), (0, .ref (ad 0)), (1, .int 2), (2, .int p1)]) dX7_load_58 (Nat.le_of_ble_eq_true rfl) rfl ?_
        have kc0 := (zc_nlt c8)
        have : (0 : Int32).toInt = 0 := rfl
        have kc1 := (zc_le c12)
        have kq1 := zsubE (zi_c 16384 (a := 16384) (b := 16384) (by decide)) htl ez11 (by decide)
        have : (16384 : Int32).toInt = 16384 := rfl
        have k14 : zI 0 (16384 - tl.toInt) p1 := ⟨by omega, by omega⟩
        exact g_sub [2, 3, 4, 1, 0] rfl (J60 (1000 - (0 : Int32).toInt).toNat 0 h13 (zi_c 0 (a := 0) (b := 1000) (by decide)) k14 rfl)
      · have h15 : zI 15385 2147483647 p1 := zr_lt2 (zc_nle c12) hz11 h10 (by decide)
        refine g_iconst (pc := 55) C (-1) dX7_load_55 (by decide) ?_
        have kc0 := (zc_nlt c8)
        have : (0 : Int32).toInt = 0 := rfl
        have kc1 := (zc_nle c12)
        have kq1 := zsubE (zi_c 16384 (a := 16384) (b := 16384) (by decide)) htl ez11 (by decide)
        have : (16384 : Int32).toInt = 16384 := rfl
        exact g_ireturn r dX7_load_56 rfl (fun _ h => ⟨_, Or.inr ⟨fun q => by have q := zlok2.mp q; have q1 := q.1; have q2 := q.2; omega, rfl, rfl⟩, h⟩)
  refine g_sub (lv' := [(0, .ref (ad 0)), (1, .int 2), (2, .int p1)]) [0, 1, 2] rfl ?_
  refine g_aload_n (pc := 0) C dX7_load_0 rfl 0 rfl ?_
  refine g_iconst (pc := 1) C 0 dX7_load_1 (by decide) ?_
  refine pr_0_0 (pc := 2) C wk_693 dX7_load_2 ?_
  refine g_iload_n (pc := 5) C dX7_load_5 rfl 1 rfl ?_
  refine g_iconst (pc := 6) C 0 dX7_load_6 (by decide) ?_
  refine g_iconst (pc := 7) C 3 dX7_load_7 (by decide) ?_
  refine zcallSi (pc := 8) (st := []) C C.2.2.2.2.2 (n_X7_in l D ad cy tl A 2 0 3 0 3 (by decide) (by decide)) (va_cwS 3 C.2.2.2.2.1 gw_RX7_47 rfl rfl rfl cs_X7_in ⟨Nat.le_of_ble_eq_true rfl, Nat.le_of_ble_eq_true rfl⟩) rfl rfl (Nat.le_of_ble_eq_true rfl) ⟨Nat.le_of_ble_eq_true rfl, Nat.le_of_ble_eq_true rfl⟩ dX7_load_8 (fun r16 => ?_)
  refine g_and (M2 := (zMr D A ad cy tl)) (fun hr16 => ?_)
  have kr16 := zin_01 hr16
  refine g_if_ne (pc := 11) C 16 dX7_load_11 (by decide) (fun c17 => ?_) (fun c17 => ?_)
  · have h18 : zI 1 1 r16 := zr_neL c17 kr16 (zi_c 0 (a := 0) (b := 0) (by decide)) (by decide)
    refine g_iload_n (pc := 16) C dX7_load_16 rfl 1 rfl ?_
    refine g_iconst (pc := 17) C 1 dX7_load_17 (by decide) ?_
    refine g_icmp_ne (pc := 18) C 26 dX7_load_18 (by decide) (fun _ => ?_) (fun h => absurd h (by decide))
    refine g_iload_n (pc := 26) C dX7_load_26 rfl 1 rfl ?_
    refine g_iconst (pc := 27) C 2 dX7_load_27 (by decide) ?_
    refine g_icmp_ne (pc := 28) C 37 dX7_load_28 (by decide) (fun h => absurd h (by decide)) (fun _ => ?_)
    refine g_sipush (pc := 31) C 16384 dX7_load_31 (by decide) ?_
    refine g_goto (pc := 34) C 40 dX7_load_34 (by decide) ?_
    exact g_sub [0, 1, 2] rfl (J40 )
  · exact absurd (zi_c 2 (a := 0) (b := 3) (by decide)) (zin_0 hr16 c17)

set_option maxHeartbeats 2000000 in
set_option maxRecDepth 100000 in
theorem n_X7_load3 (l : Launch) (D : va_G) (ad : Nat → Nat) (cy : Nat → ClassId) (tl : Int32) (A : Nat → Prop) (p1 : Int32) (htl : zI 0 1000 tl) : zMi l yX7_load wz_X7_load ({ frames := 4, cells := 0, slots := 0, locals := 86 }) [.ref (ad 0), .int 3, .int p1] D (zTr cy) A (zMr D A ad cy tl) (fun r H => ∃ t, zload tl 3 p1 r t ∧ zMr D A ad cy t H) := by
  refine zstart_i (cc := cX7_load) (maxL := 5) (ty := .int) (own := RX7) (by decide) rfl rfl (Nat.le_of_ble_eq_true rfl) (fun p e s m args below meth c Q C r => ?_)
  have J60 : ∀ (n : Nat) (a4_60 : Int32) (_ : zI 0 8192 p1) (_ : zI 0 1000 a4_60) (_ : zI 0 (8192 - tl.toInt) p1) (_ : (1000 - (a4_60 : Int32).toInt).toNat = n), zG p l e ({ frames := 4, cells := 0, slots := 0, locals := 86 }) s m args below meth c 5 0 0 A Q (zMr D A ad cy tl) 60 [(0, .ref (ad 0)), (1, .int 3), (2, .int p1), (3, .int 8192), (4, .int a4_60)] [] := by
    intro n
    induction n using Nat.strongRecOn with
    | ind n ih =>
      intro a4_60 hc_a2_60 ha4_60 hok hn
      refine g_iload (pc := 60) C dX7_load_60 4 rfl ?_
      refine g_aload_n (pc := 62) C dX7_load_62 rfl 0 rfl ?_
      refine gr_0_25 (pc := 63) C wk_718 dX7_load_63 ?_
      refine g_icmp_ge (pc := 66) C 177 dX7_load_66 (by decide) (fun c1 => ?_) (fun c1 => ?_)
      · refine g_aload_n (pc := 177) C dX7_load_177 rfl 0 rfl ?_
        refine gr_0_25 (pc := 178) C wk_718 dX7_load_178 ?_
        refine g_istore (pc := 181) C ([(4, .int tl), (0, .ref (ad 0)), (1, .int 3), (2, .int p1), (3, .int 8192)]) dX7_load_181 (Nat.le_of_ble_eq_true rfl) rfl ?_
        refine g_aload_n (pc := 183) C dX7_load_183 rfl 1 rfl ?_
        refine g_iconst (pc := 184) C 0 dX7_load_184 (by decide) ?_
        refine pr_0_25 (pc := 185) C wk_718 dX7_load_185 ?_
        refine g_iload (pc := 188) C dX7_load_188 0 rfl ?_
        exact g_ireturn r dX7_load_190 rfl (fun _ h => ⟨_, Or.inl ⟨zlok3.mpr hok, rfl, rfl⟩, h⟩)
      · have h2 : zI 0 999 a4_60 := zr_lt1 (zc_nle c1) ha4_60 htl (by decide)
        have h3 : zI 1 1000 tl := zr_lt2 (zc_nle c1) ha4_60 htl (by decide)
        refine g_iload_n (pc := 69) C dX7_load_69 rfl 1 rfl ?_
        refine g_tableO (pc := 70) C (zi_c 3 (a := 3) (b := 3) (by decide)) (by decide) 154 dX7_load_70 (by decide) ?_
        refine g_aload_n (pc := 154) C dX7_load_154 rfl 0 rfl ?_
        refine gr_0_4 (pc := 155) C wk_697 dX7_load_155 ?_
        refine g_iload_n (pc := 158) C dX7_load_158 rfl 2 rfl ?_
        refine g_iload (pc := 159) C dX7_load_159 4 rfl ?_
        refine g_iadd (pc := 161) C dX7_load_161 (fun z4 ez4 => ?_)
        have hz4 : zI 0 8191 z4 := zlix (S := 8192) ez4 hok h2 (zc_nle c1) (by decide)
        refine g_aload_n (pc := 162) C dX7_load_162 rfl 0 rfl ?_
        refine gr_0_24 (pc := 163) C wk_717 dX7_load_163 ?_
        refine g_iload (pc := 166) C dX7_load_166 4 rfl ?_
        refine lr_9 (pc := 168) C (zi_in h2 (by decide)) dX7_load_168 (fun z5 hz5 => ?_)
        refine g_i2b (pc := 169) C dX7_load_169 (fun z6 ez6 => ?_)
        have hz6 : zI (-128) 127 z6 := zi_i2b ez6
        refine sr_4 (pc := 170) C (zi_in hz4 (by decide)) dX7_load_170 ?_
        obtain ⟨z7, ez7⟩ : ∃ z : Int32, z = a4_60 + 1 := ⟨_, rfl⟩
        have hz7 : zI 1 1000 z7 := zi_add h2 (zi_c 1 (a := 1) (b := 1) (by decide)) ez7 (by decide)
        refine g_iinc (pc := 171) C z7 ([(4, .int z7), (0, .ref (ad 0)), (1, .int 3), (2, .int p1), (3, .int 8192)]) dX7_load_171 4 rfl (by rw [ez7]; rfl) (Nat.le_of_ble_eq_true rfl) rfl ?_
        refine g_goto (pc := 174) C 60 dX7_load_174 (by decide) ?_
        exact g_sub [1, 2, 3, 4, 0] rfl (ih (1000 - (z7 : Int32).toInt).toNat (by rw [← hn]; exact zdec ez7 h2 (by decide) (zi_w hz7 (a' := 0) (b' := 1000) (by decide))) z7 hc_a2_60 (zi_w hz7 (a' := 0) (b' := 1000) (by decide)) hok rfl)
  have J40 : zG p l e ({ frames := 4, cells := 0, slots := 0, locals := 86 }) s m args below meth c 5 0 0 A Q (zMr D A ad cy tl) 40 [(0, .ref (ad 0)), (1, .int 3), (2, .int p1)] [.int 8192] := by
    refine g_istore_n (pc := 40) C ([(3, .int 8192), (0, .ref (ad 0)), (1, .int 3), (2, .int p1)]) dX7_load_40 rfl (Nat.le_of_ble_eq_true rfl) rfl ?_
    refine g_iload_n (pc := 41) C dX7_load_41 rfl 3 rfl ?_
    refine g_if_lt (pc := 42) C 55 dX7_load_42 (by decide) (fun c8 => ?_) (fun c8 => ?_)
    · have h9 : zI (-2147483648) (-1) p1 := zr_lt1 (zc_lt c8) (zi_full p1) (zi_c 0 (a := 0) (b := 0) (by decide)) (by decide)
      refine g_iconst (pc := 55) C (-1) dX7_load_55 (by decide) ?_
      have kc0 := (zc_lt c8)
      have : (0 : Int32).toInt = 0 := rfl
      exact g_ireturn r dX7_load_56 rfl (fun _ h => ⟨_, Or.inr ⟨fun q => by have q := zlok3.mp q; have q1 := q.1; have q2 := q.2; omega, rfl, rfl⟩, h⟩)
    · have h10 : zI 0 2147483647 p1 := zr_le2 (zc_nlt c8) (zi_c 0 (a := 0) (b := 0) (by decide)) (zi_full p1) (by decide)
      refine g_iload_n (pc := 45) C dX7_load_45 rfl 3 rfl ?_
      refine g_iload_n (pc := 46) C dX7_load_46 rfl 0 rfl ?_
      refine g_aload_n (pc := 47) C dX7_load_47 rfl 1 rfl ?_
      refine gr_0_25 (pc := 48) C wk_718 dX7_load_48 ?_
      refine g_isub (pc := 51) C dX7_load_51 (fun z11 ez11 => ?_)
      have hz11 : zI 7192 8192 z11 := zi_sub (zi_c 8192 (a := 8192) (b := 8192) (by decide)) htl ez11 (by decide)
      refine g_icmp_le (pc := 52) C 57 dX7_load_52 (by decide) (fun c12 => ?_) (fun c12 => ?_)
      · have h13 : zI 0 8192 p1 := zr_le1 (zc_le c12) h10 hz11 (by decide)
        refine g_iconst (pc := 57) C 0 dX7_load_57 (by decide) ?_
        refine g_istore (pc := 58) C ([(4, .int 0), (3, .int 8192), (0, .ref (ad 0)), (1, .int 3), (2, .int p1)]) dX7_load_58 (Nat.le_of_ble_eq_true rfl) rfl ?_
        have kc0 := (zc_nlt c8)
        have : (0 : Int32).toInt = 0 := rfl
        have kc1 := (zc_le c12)
        have kq1 := zsubE (zi_c 8192 (a := 8192) (b := 8192) (by decide)) htl ez11 (by decide)
        have : (8192 : Int32).toInt = 8192 := rfl
        have k14 : zI 0 (8192 - tl.toInt) p1 := ⟨by omega, by omega⟩
        exact g_sub [2, 3, 4, 1, 0] rfl (J60 (1000 - (0 : Int32).toInt).toNat 0 h13 (zi_c 0 (a := 0) (b := 1000) (by decide)) k14 rfl)
      · have h15 : zI 7193 2147483647 p1 := zr_lt2 (zc_nle c12) hz11 h10 (by decide)
        refine g_iconst (pc := 55) C (-1) dX7_load_55 (by decide) ?_
        have kc0 := (zc_nlt c8)
        have : (0 : Int32).toInt = 0 := rfl
        have kc1 := (zc_nle c12)
        have kq1 := zsubE (zi_c 8192 (a := 8192) (b := 8192) (by decide)) htl ez11 (by decide)
        have : (8192 : Int32).toInt = 8192 := rfl
        exact g_ireturn r dX7_load_56 rfl (fun _ h => ⟨_, Or.inr ⟨fun q => by have q := zlok3.mp q; have q1 := q.1; have q2 := q.2; omega, rfl, rfl⟩, h⟩)
  refine g_sub (lv' := [(0, .ref (ad 0)), (1, .int 3), (2, .int p1)]) [0, 1, 2] rfl ?_
  refine g_aload_n (pc := 0) C dX7_load_0 rfl 0 rfl ?_
  refine g_iconst (pc := 1) C 0 dX7_load_1 (by decide) ?_
  refine pr_0_0 (pc := 2) C wk_693 dX7_load_2 ?_
  refine g_iload_n (pc := 5) C dX7_load_5 rfl 1 rfl ?_
  refine g_iconst (pc := 6) C 0 dX7_load_6 (by decide) ?_
  refine g_iconst (pc := 7) C 3 dX7_load_7 (by decide) ?_
  refine zcallSi (pc := 8) (st := []) C C.2.2.2.2.2 (n_X7_in l D ad cy tl A 3 0 3 0 3 (by decide) (by decide)) (va_cwS 3 C.2.2.2.2.1 gw_RX7_47 rfl rfl rfl cs_X7_in ⟨Nat.le_of_ble_eq_true rfl, Nat.le_of_ble_eq_true rfl⟩) rfl rfl (Nat.le_of_ble_eq_true rfl) ⟨Nat.le_of_ble_eq_true rfl, Nat.le_of_ble_eq_true rfl⟩ dX7_load_8 (fun r16 => ?_)
  refine g_and (M2 := (zMr D A ad cy tl)) (fun hr16 => ?_)
  have kr16 := zin_01 hr16
  refine g_if_ne (pc := 11) C 16 dX7_load_11 (by decide) (fun c17 => ?_) (fun c17 => ?_)
  · have h18 : zI 1 1 r16 := zr_neL c17 kr16 (zi_c 0 (a := 0) (b := 0) (by decide)) (by decide)
    refine g_iload_n (pc := 16) C dX7_load_16 rfl 1 rfl ?_
    refine g_iconst (pc := 17) C 1 dX7_load_17 (by decide) ?_
    refine g_icmp_ne (pc := 18) C 26 dX7_load_18 (by decide) (fun _ => ?_) (fun h => absurd h (by decide))
    refine g_iload_n (pc := 26) C dX7_load_26 rfl 1 rfl ?_
    refine g_iconst (pc := 27) C 2 dX7_load_27 (by decide) ?_
    refine g_icmp_ne (pc := 28) C 37 dX7_load_28 (by decide) (fun _ => ?_) (fun h => absurd h (by decide))
    refine g_sipush (pc := 37) C 8192 dX7_load_37 (by decide) ?_
    exact g_sub [0, 1, 2] rfl (J40 )
  · exact absurd (zi_c 3 (a := 0) (b := 3) (by decide)) (zin_0 hr16 c17)

set_option maxHeartbeats 2000000 in
set_option maxRecDepth 100000 in
theorem n_X7_loadH (l : Launch) (D : va_G) (ad : Nat → Nat) (cy : Nat → ClassId) (tl : Int32) (A : Nat → Prop) (p0 : Int32) (p1 : Int32) (htl : zI 0 1000 tl) (hp0 : zI 4 2147483647 p0) : zMi l yX7_load wz_X7_load ({ frames := 4, cells := 0, slots := 0, locals := 86 }) [.ref (ad 0), .int p0, .int p1] D (zTr cy) A (zMr D A ad cy tl) (fun r H => ∃ t, zload tl p0 p1 r t ∧ zMr D A ad cy t H) := by
  refine zstart_i (cc := cX7_load) (maxL := 5) (ty := .int) (own := RX7) (by decide) rfl rfl (Nat.le_of_ble_eq_true rfl) (fun p e s m args below meth c Q C r => ?_)
  refine g_sub (lv' := [(0, .ref (ad 0)), (1, .int p0), (2, .int p1)]) [0, 1, 2] rfl ?_
  refine g_aload_n (pc := 0) C dX7_load_0 rfl 0 rfl ?_
  refine g_iconst (pc := 1) C 0 dX7_load_1 (by decide) ?_
  refine pr_0_0 (pc := 2) C wk_693 dX7_load_2 ?_
  refine g_iload_n (pc := 5) C dX7_load_5 rfl 1 rfl ?_
  refine g_iconst (pc := 6) C 0 dX7_load_6 (by decide) ?_
  refine g_iconst (pc := 7) C 3 dX7_load_7 (by decide) ?_
  refine zcallSi (pc := 8) (st := []) C C.2.2.2.2.2 (n_X7_in l D ad cy tl A p0 0 3 0 3 (by decide) (by decide)) (va_cwS 3 C.2.2.2.2.1 gw_RX7_47 rfl rfl rfl cs_X7_in ⟨Nat.le_of_ble_eq_true rfl, Nat.le_of_ble_eq_true rfl⟩) rfl rfl (Nat.le_of_ble_eq_true rfl) ⟨Nat.le_of_ble_eq_true rfl, Nat.le_of_ble_eq_true rfl⟩ dX7_load_8 (fun r1 => ?_)
  refine g_and (M2 := (zMr D A ad cy tl)) (fun hr1 => ?_)
  have kr1 := zin_01 hr1
  refine g_if_ne (pc := 11) C 16 dX7_load_11 (by decide) (fun c2 => ?_) (fun c2 => ?_)
  · exact zi_dis (zin_1 hr1 c2) hp0 (by decide)
  · have h3 : zI 0 0 r1 := zr_eq c2 kr1 (zi_c 0 (a := 0) (b := 0) (by decide)) (by decide)
    refine g_iconst (pc := 14) C (-1) dX7_load_14 (by decide) ?_
    exact g_ireturn r dX7_load_15 rfl (fun _ h => ⟨_, Or.inr ⟨zlokH hp0.1, rfl, rfl⟩, h⟩)

theorem n_X7_load (l : Launch) (D : va_G) (ad : Nat → Nat) (cy : Nat → ClassId) (tl : Int32) (A : Nat → Prop) (p0 p1 : Int32) (htl : zI 0 1000 tl) : zMi l yX7_load wz_X7_load ({ frames := 4, cells := 0, slots := 0, locals := 86 }) [.ref (ad 0), .int p0, .int p1] D (zTr cy) A (zMr D A ad cy tl) (fun r H => ∃ t, zload tl p0 p1 r t ∧ zMr D A ad cy t H) := by
  rcases zarea p0 with h | rfl | rfl | rfl | rfl | h
  · exact n_X7_loadL l D ad cy tl A p0 p1 htl h
  · exact n_X7_load0 l D ad cy tl A p1 htl
  · exact n_X7_load1 l D ad cy tl A p1 htl
  · exact n_X7_load2 l D ad cy tl A p1 htl
  · exact n_X7_load3 l D ad cy tl A p1 htl
  · exact n_X7_loadH l D ad cy tl A p0 p1 htl h

