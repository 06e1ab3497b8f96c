set_option maxHeartbeats 2000000 in
set_option maxRecDepth 100000 in
theorem n_X6_append (l : Launch) (D : va_G) (ad : Nat → Nat) (cy : Nat → ClassId) (tl : Int32) (A : Nat → Prop) (p0 : Int32) : zMv l yX6_append wz_X6_append ({ frames := 1, cells := 0, slots := 0, locals := 26 }) [.ref (ad 0), .int p0] D (zTc cy) A (zMc D A ad cy tl) (zMc D A ad cy (zp4 tl)) := by
  refine zstart_v (cc := cX6_append) (maxL := 3) (own := RX6) (by decide) rfl rfl (Nat.le_of_ble_eq_true rfl) (fun p e s m args below meth c Q C r => ?_)
  refine g_sub (lv' := [(0, .ref (ad 0)), (1, .int p0)]) [0, 1] rfl ?_
  refine g_bipush (pc := 0) C 24 dX6_append_0 (by decide) ?_
  refine g_istore_n (pc := 2) C ([(2, .int 24), (0, .ref (ad 0)), (1, .int p0)]) dX6_append_2 rfl (Nat.le_of_ble_eq_true rfl) rfl ?_
  refine g_iload_n (pc := 3) C dX6_append_3 rfl 0 rfl ?_
  refine g_if_lt (pc := 4) C 37 dX6_append_4 (by decide) (fun h => absurd h (by decide)) (fun _ => ?_)
  refine g_aload_n (pc := 7) C dX6_append_7 rfl 1 rfl ?_
  refine gc_0_0 (pc := 8) C wk_263 dX6_append_8 ?_
  refine g_aload_n (pc := 11) C dX6_append_11 rfl 1 rfl ?_
  refine gc_0_6 (pc := 12) C wk_269 dX6_append_12 ?_
  refine g_iload_n (pc := 15) C dX6_append_15 rfl 2 rfl ?_
  refine g_iload_n (pc := 16) C dX6_append_16 rfl 0 rfl ?_
  refine g_ishr (pc := 17) C dX6_append_17 (fun z1 ez1 => ?_)
  refine zcallVv (pc := 18) (st := []) C C.2.2.2.2.2 (n_X0_put_tb l D ad cy tl A tl z1) (cwV 2 C.2.2.2.2.1 gw_RX6_66 rfl rfl rfl cd_X0_put ⟨Nat.le_of_ble_eq_true rfl, Nat.le_of_ble_eq_true rfl⟩) (hc_1 C) rfl rfl (Nat.le_of_ble_eq_true rfl) ⟨Nat.le_of_ble_eq_true rfl, Nat.le_of_ble_eq_true rfl⟩ dX6_append_18 ?_
  refine g_aload_n (pc := 21) C dX6_append_21 rfl 1 rfl ?_
  refine g_dup (pc := 22) C dX6_append_22 rfl ?_
  refine gc_0_6 (pc := 23) C wk_269 dX6_append_23 ?_
  refine g_iconst (pc := 26) C 1 dX6_append_26 (by decide) ?_
  refine g_iadd (pc := 27) C dX6_append_27 (fun z2 ez2 => ?_)
  refine pc_0_6 (pc := 28) C wk_269 dX6_append_28 ?_
  refine g_iinc (pc := 31) C 16 ([(2, .int 16), (0, .ref (ad 0)), (1, .int p0)]) dX6_append_31 0 rfl (by decide) (Nat.le_of_ble_eq_true rfl) rfl ?_
  refine g_goto (pc := 34) C 3 dX6_append_34 (by decide) ?_
  refine g_iload_n (pc := 3) C dX6_append_3 rfl 0 rfl ?_
  refine g_if_lt (pc := 4) C 37 dX6_append_4 (by decide) (fun h => absurd h (by decide)) (fun _ => ?_)
  refine g_aload_n (pc := 7) C dX6_append_7 rfl 1 rfl ?_
  refine gc_0_0 (pc := 8) C wk_263 dX6_append_8 ?_
  refine g_aload_n (pc := 11) C dX6_append_11 rfl 1 rfl ?_
  refine gc_0_6 (pc := 12) C wk_269 dX6_append_12 ?_
  refine g_iload_n (pc := 15) C dX6_append_15 rfl 2 rfl ?_
  refine g_iload_n (pc := 16) C dX6_append_16 rfl 0 rfl ?_
  refine g_ishr (pc := 17) C dX6_append_17 (fun z3 ez3 => ?_)
  refine zcallVv (pc := 18) (st := []) C C.2.2.2.2.2 (n_X0_put_tb l D ad cy z2 A z2 z3) (cwV 2 C.2.2.2.2.1 gw_RX6_66 rfl rfl rfl cd_X0_put ⟨Nat.le_of_ble_eq_true rfl, Nat.le_of_ble_eq_true rfl⟩) (hc_1 C) rfl rfl (Nat.le_of_ble_eq_true rfl) ⟨Nat.le_of_ble_eq_true rfl, Nat.le_of_ble_eq_true rfl⟩ dX6_append_18 ?_
  refine g_aload_n (pc := 21) C dX6_append_21 rfl 1 rfl ?_
  refine g_dup (pc := 22) C dX6_append_22 rfl ?_
  refine gc_0_6 (pc := 23) C wk_269 dX6_append_23 ?_
  refine g_iconst (pc := 26) C 1 dX6_append_26 (by decide) ?_
  refine g_iadd (pc := 27) C dX6_append_27 (fun z4 ez4 => ?_)
  refine pc_0_6 (pc := 28) C wk_269 dX6_append_28 ?_
  refine g_iinc (pc := 31) C 8 ([(2, .int 8), (0, .ref (ad 0)), (1, .int p0)]) dX6_append_31 0 rfl (by decide) (Nat.le_of_ble_eq_true rfl) rfl ?_
  refine g_goto (pc := 34) C 3 dX6_append_34 (by decide) ?_
  refine g_iload_n (pc := 3) C dX6_append_3 rfl 0 rfl ?_
  refine g_if_lt (pc := 4) C 37 dX6_append_4 (by decide) (fun h => absurd h (by decide)) (fun _ => ?_)
  refine g_aload_n (pc := 7) C dX6_append_7 rfl 1 rfl ?_
  refine gc_0_0 (pc := 8) C wk_263 dX6_append_8 ?_
  refine g_aload_n (pc := 11) C dX6_append_11 rfl 1 rfl ?_
  refine gc_0_6 (pc := 12) C wk_269 dX6_append_12 ?_
  refine g_iload_n (pc := 15) C dX6_append_15 rfl 2 rfl ?_
  refine g_iload_n (pc := 16) C dX6_append_16 rfl 0 rfl ?_
  refine g_ishr (pc := 17) C dX6_append_17 (fun z5 ez5 => ?_)
  refine zcallVv (pc := 18) (st := []) C C.2.2.2.2.2 (n_X0_put_tb l D ad cy z4 A z4 z5) (cwV 2 C.2.2.2.2.1 gw_RX6_66 rfl rfl rfl cd_X0_put ⟨Nat.le_of_ble_eq_true rfl, Nat.le_of_ble_eq_true rfl⟩) (hc_1 C) rfl rfl (Nat.le_of_ble_eq_true rfl) ⟨Nat.le_of_ble_eq_true rfl, Nat.le_of_ble_eq_true rfl⟩ dX6_append_18 ?_
  refine g_aload_n (pc := 21) C dX6_append_21 rfl 1 rfl ?_
  refine g_dup (pc := 22) C dX6_append_22 rfl ?_
  refine gc_0_6 (pc := 23) C wk_269 dX6_append_23 ?_
  refine g_iconst (pc := 26) C 1 dX6_append_26 (by decide) ?_
  refine g_iadd (pc := 27) C dX6_append_27 (fun z6 ez6 => ?_)
  refine pc_0_6 (pc := 28) C wk_269 dX6_append_28 ?_
  refine g_iinc (pc := 31) C 0 ([(2, .int 0), (0, .ref (ad 0)), (1, .int p0)]) dX6_append_31 0 rfl (by decide) (Nat.le_of_ble_eq_true rfl) rfl ?_
  refine g_goto (pc := 34) C 3 dX6_append_34 (by decide) ?_
  refine g_iload_n (pc := 3) C dX6_append_3 rfl 0 rfl ?_
  refine g_if_lt (pc := 4) C 37 dX6_append_4 (by decide) (fun h => absurd h (by decide)) (fun _ => ?_)
  refine g_aload_n (pc := 7) C dX6_append_7 rfl 1 rfl ?_
  refine gc_0_0 (pc := 8) C wk_263 dX6_append_8 ?_
  refine g_aload_n (pc := 11) C dX6_append_11 rfl 1 rfl ?_
  refine gc_0_6 (pc := 12) C wk_269 dX6_append_12 ?_
  refine g_iload_n (pc := 15) C dX6_append_15 rfl 2 rfl ?_
  refine g_iload_n (pc := 16) C dX6_append_16 rfl 0 rfl ?_
  refine g_ishr (pc := 17) C dX6_append_17 (fun z7 ez7 => ?_)
  refine zcallVv (pc := 18) (st := []) C C.2.2.2.2.2 (n_X0_put_tb l D ad cy z6 A z6 z7) (cwV 2 C.2.2.2.2.1 gw_RX6_66 rfl rfl rfl cd_X0_put ⟨Nat.le_of_ble_eq_true rfl, Nat.le_of_ble_eq_true rfl⟩) (hc_1 C) rfl rfl (Nat.le_of_ble_eq_true rfl) ⟨Nat.le_of_ble_eq_true rfl, Nat.le_of_ble_eq_true rfl⟩ dX6_append_18 ?_
  refine g_aload_n (pc := 21) C dX6_append_21 rfl 1 rfl ?_
  refine g_dup (pc := 22) C dX6_append_22 rfl ?_
  refine gc_0_6 (pc := 23) C wk_269 dX6_append_23 ?_
  refine g_iconst (pc := 26) C 1 dX6_append_26 (by decide) ?_
  refine g_iadd (pc := 27) C dX6_append_27 (fun z8 ez8 => ?_)
  refine pc_0_6 (pc := 28) C wk_269 dX6_append_28 ?_
  refine g_iinc (pc := 31) C (-8) ([(2, .int (-8)), (0, .ref (ad 0)), (1, .int p0)]) dX6_append_31 0 rfl (by decide) (Nat.le_of_ble_eq_true rfl) rfl ?_
  refine g_goto (pc := 34) C 3 dX6_append_34 (by decide) ?_
  refine g_iload_n (pc := 3) C dX6_append_3 rfl 0 rfl ?_
  refine g_if_lt (pc := 4) C 37 dX6_append_4 (by decide) (fun _ => ?_) (fun h => absurd (by decide) h)
  exact g_return r dX6_append_37 (fun _ h => by subst ez2 ez4 ez6 ez8; exact h)

set_option maxHeartbeats 2000000 in
set_option maxRecDepth 100000 in
theorem n_X6_feedA (l : Launch) (D : va_G) (ad : Nat → Nat) (cy : Nat → ClassId) (tl : Int32) (A : Nat → Prop) (p0 : Int32) (p1 : Int32) (p2 : Int32) (p3 : Int32) (p4 : Int32) (htl : zI 0 980 tl) : zMi l yX6_feed wz_X6_feed ({ frames := 2, cells := 0, slots := 0, locals := 48 }) [.ref (ad 0), .int p0, .int p1, .int p2, .int p3, .int p4] D (zTc cy) A (zMc D A ad cy tl) (fun r H => ∃ t, zfeed tl r t ∧ zMc D A ad cy t H) := by
  refine zstart_i (cc := cX6_feed) (maxL := 6) (ty := .int) (own := RX6) (by decide) rfl rfl (Nat.le_of_ble_eq_true rfl) (fun p e s m args below meth c Q C r => ?_)
  refine g_sub (lv' := [(0, .ref (ad 0)), (1, .int p0), (2, .int p1), (3, .int p2), (4, .int p3), (5, .int p4)]) [0, 1, 2, 3, 4, 5] rfl ?_
  refine g_aload_n (pc := 0) C dX6_feed_0 rfl 0 rfl ?_
  refine gc_0_6 (pc := 1) C wk_269 dX6_feed_1 ?_
  refine g_sipush (pc := 4) C 980 dX6_feed_4 (by decide) ?_
  refine g_icmp_le (pc := 7) C 12 dX6_feed_7 (by decide) (fun c1 => ?_) (fun c1 => ?_)
  · refine g_aload_n (pc := 12) C dX6_feed_12 rfl 0 rfl ?_
    refine g_iload_n (pc := 13) C dX6_feed_13 rfl 1 rfl ?_
    refine zcallVv (pc := 14) (st := []) C C.2.2.2.2.2 (n_X6_append l D ad cy tl A p0) (cwV 1 C.2.2.2.2.1 gw_RX6_63 rfl rfl rfl cd_X6_append ⟨Nat.le_of_ble_eq_true rfl, Nat.le_of_ble_eq_true rfl⟩) (hc_0 C) rfl rfl (Nat.le_of_ble_eq_true rfl) ⟨Nat.le_of_ble_eq_true rfl, Nat.le_of_ble_eq_true rfl⟩ dX6_feed_14 ?_
    refine g_aload_n (pc := 17) C dX6_feed_17 rfl 0 rfl ?_
    refine g_iload_n (pc := 18) C dX6_feed_18 rfl 2 rfl ?_
    refine zcallVv (pc := 19) (st := []) C C.2.2.2.2.2 (n_X6_append l D ad cy (zp4 tl) A p1) (cwV 1 C.2.2.2.2.1 gw_RX6_63 rfl rfl rfl cd_X6_append ⟨Nat.le_of_ble_eq_true rfl, Nat.le_of_ble_eq_true rfl⟩) (hc_0 C) rfl rfl (Nat.le_of_ble_eq_true rfl) ⟨Nat.le_of_ble_eq_true rfl, Nat.le_of_ble_eq_true rfl⟩ dX6_feed_19 ?_
    refine g_aload_n (pc := 22) C dX6_feed_22 rfl 0 rfl ?_
    refine g_iload_n (pc := 23) C dX6_feed_23 rfl 3 rfl ?_
    refine zcallVv (pc := 24) (st := []) C C.2.2.2.2.2 (n_X6_append l D ad cy (zp4 (zp4 tl)) A p2) (cwV 1 C.2.2.2.2.1 gw_RX6_63 rfl rfl rfl cd_X6_append ⟨Nat.le_of_ble_eq_true rfl, Nat.le_of_ble_eq_true rfl⟩) (hc_0 C) rfl rfl (Nat.le_of_ble_eq_true rfl) ⟨Nat.le_of_ble_eq_true rfl, Nat.le_of_ble_eq_true rfl⟩ dX6_feed_24 ?_
    refine g_aload_n (pc := 27) C dX6_feed_27 rfl 0 rfl ?_
    refine g_iload (pc := 28) C dX6_feed_28 4 rfl ?_
    refine zcallVv (pc := 30) (st := []) C C.2.2.2.2.2 (n_X6_append l D ad cy (zp4 (zp4 (zp4 tl))) A p3) (cwV 1 C.2.2.2.2.1 gw_RX6_63 rfl rfl rfl cd_X6_append ⟨Nat.le_of_ble_eq_true rfl, Nat.le_of_ble_eq_true rfl⟩) (hc_0 C) rfl rfl (Nat.le_of_ble_eq_true rfl) ⟨Nat.le_of_ble_eq_true rfl, Nat.le_of_ble_eq_true rfl⟩ dX6_feed_30 ?_
    refine g_aload_n (pc := 33) C dX6_feed_33 rfl 0 rfl ?_
    refine g_iload (pc := 34) C dX6_feed_34 5 rfl ?_
    refine zcallVv (pc := 36) (st := []) C C.2.2.2.2.2 (n_X6_append l D ad cy (zp4 (zp4 (zp4 (zp4 tl)))) A p4) (cwV 1 C.2.2.2.2.1 gw_RX6_63 rfl rfl rfl cd_X6_append ⟨Nat.le_of_ble_eq_true rfl, Nat.le_of_ble_eq_true rfl⟩) (hc_0 C) rfl rfl (Nat.le_of_ble_eq_true rfl) ⟨Nat.le_of_ble_eq_true rfl, Nat.le_of_ble_eq_true rfl⟩ dX6_feed_36 ?_
    refine g_aload_n (pc := 39) C dX6_feed_39 rfl 0 rfl ?_
    refine gc_0_6 (pc := 40) C wk_269 dX6_feed_40 ?_
    exact g_ireturn r dX6_feed_43 rfl (fun _ h => ⟨_, Or.inr ⟨htl.2, rfl, rfl⟩, h⟩)
  · have h2 : zI 981 980 tl := zr_lt2 (zc_nle c1) (zi_c 980 (a := 980) (b := 980) (by decide)) htl (by decide)
    exact zi_no h2 (by decide)

set_option maxHeartbeats 2000000 in
set_option maxRecDepth 100000 in
theorem n_X6_feedB (l : Launch) (D : va_G) (ad : Nat → Nat) (cy : Nat → ClassId) (tl : Int32) (A : Nat → Prop) (p0 : Int32) (p1 : Int32) (p2 : Int32) (p3 : Int32) (p4 : Int32) (htl : zI 981 1000 tl) : zMi l yX6_feed wz_X6_feed ({ frames := 2, cells := 0, slots := 0, locals := 48 }) [.ref (ad 0), .int p0, .int p1, .int p2, .int p3, .int p4] D (zTc cy) A (zMc D A ad cy tl) (fun r H => ∃ t, zfeed tl r t ∧ zMc D A ad cy t H) := by
  refine zstart_i (cc := cX6_feed) (maxL := 6) (ty := .int) (own := RX6) (by decide) rfl rfl (Nat.le_of_ble_eq_true rfl) (fun p e s m args below meth c Q C r => ?_)
  refine g_sub (lv' := [(0, .ref (ad 0)), (1, .int p0), (2, .int p1), (3, .int p2), (4, .int p3), (5, .int p4)]) [0, 1, 2, 3, 4, 5] rfl ?_
  refine g_aload_n (pc := 0) C dX6_feed_0 rfl 0 rfl ?_
  refine gc_0_6 (pc := 1) C wk_269 dX6_feed_1 ?_
  refine g_sipush (pc := 4) C 980 dX6_feed_4 (by decide) ?_
  refine g_icmp_le (pc := 7) C 12 dX6_feed_7 (by decide) (fun c1 => ?_) (fun c1 => ?_)
  · have h2 : zI 981 980 tl := zr_le1 (zc_le c1) htl (zi_c 980 (a := 980) (b := 980) (by decide)) (by decide)
    exact zi_no h2 (by decide)
  · refine g_iconst (pc := 10) C (-1) dX6_feed_10 (by decide) ?_
    exact g_ireturn r dX6_feed_11 rfl (fun _ h => ⟨_, Or.inl ⟨Int.lt_of_lt_of_le (by decide) htl.1, rfl, rfl⟩, h⟩)

theorem n_X6_feed (l : Launch) (D : va_G) (ad : Nat → Nat) (cy : Nat → ClassId) (tl : Int32) (A : Nat → Prop) (p0 p1 p2 p3 p4 : Int32) (htl : zI 0 1000 tl) : zMi l yX6_feed wz_X6_feed ({ frames := 2, cells := 0, slots := 0, locals := 48 }) [.ref (ad 0), .int p0, .int p1, .int p2, .int p3, .int p4] D (zTc cy) A (zMc D A ad cy tl) (fun r H => ∃ t, zfeed tl r t ∧ zMc D A ad cy t H) := by
  by_cases h : tl.toInt ≤ 980
  · exact n_X6_feedA l D ad cy tl A p0 p1 p2 p3 p4 ⟨htl.1, h⟩
  · exact n_X6_feedB l D ad cy tl A p0 p1 p2 p3 p4 ⟨by omega, htl.2⟩

set_option maxHeartbeats 2000000 in
set_option maxRecDepth 100000 in
theorem n_X6_end (l : Launch) (D : va_G) (ad : Nat → Nat) (cy : Nat → ClassId) (tl : Int32) (A : Nat → Prop) (p0 : Int32) (htl : zI 0 1000 tl) : zMi l yX6_end wz_X6_end ({ frames := 0, cells := 0, slots := 0, locals := 0 }) [.ref (ad 0), .int p0] D (zTc cy) A (zMc D A ad cy tl) (fun r H => ∃ t, zend tl p0 r t ∧ zMc D A ad cy t H) := by
  refine zstart_i (cc := cX6_end) (maxL := 2) (ty := .int) (own := RX6) (by decide) rfl rfl (Nat.le_of_ble_eq_true rfl) (fun p e s m args below meth c Q C r => ?_)
  refine g_sub (lv' := [(0, .ref (ad 0)), (1, .int p0)]) [0, 1] rfl ?_
  refine g_iload_n (pc := 0) C dX6_end_0 rfl 1 rfl ?_
  refine g_if_lt (pc := 1) C 12 dX6_end_1 (by decide) (fun c1 => ?_) (fun c1 => ?_)
  · have h2 : zI (-2147483648) (-1) p0 := zr_lt1 (zc_lt c1) (zi_full p0) (zi_c 0 (a := 0) (b := 0) (by decide)) (by decide)
    refine g_iconst (pc := 12) C (-1) dX6_end_12 (by decide) ?_
    have kc0 := (zc_lt c1)
    have : (0 : Int32).toInt = 0 := rfl
    exact g_ireturn r dX6_end_13 rfl (fun _ h => ⟨_, Or.inr ⟨fun q => by have q1 := q.1; have q2 := q.2; omega, rfl, rfl⟩, h⟩)
  · have h3 : zI 0 2147483647 p0 := zr_le2 (zc_nlt c1) (zi_c 0 (a := 0) (b := 0) (by decide)) (zi_full p0) (by decide)
    refine g_iload_n (pc := 4) C dX6_end_4 rfl 1 rfl ?_
    refine g_aload_n (pc := 5) C dX6_end_5 rfl 0 rfl ?_
    refine gc_0_6 (pc := 6) C wk_269 dX6_end_6 ?_
    refine g_icmp_le (pc := 9) C 14 dX6_end_9 (by decide) (fun c4 => ?_) (fun c4 => ?_)
    · have h5 : zI 0 1000 p0 := zr_le1 (zc_le c4) h3 htl (by decide)
      refine g_aload_n (pc := 14) C dX6_end_14 rfl 0 rfl ?_
      refine g_iload_n (pc := 15) C dX6_end_15 rfl 1 rfl ?_
      refine pc_0_6 (pc := 16) C wk_269 dX6_end_16 ?_
      refine g_iload_n (pc := 19) C dX6_end_19 rfl 1 rfl ?_
      have kc0 := (zc_nlt c1)
      have : (0 : Int32).toInt = 0 := rfl
      have kc1 := (zc_le c4)
      exact g_ireturn r dX6_end_20 rfl (fun _ h => ⟨_, Or.inl ⟨⟨by omega, by omega⟩, rfl, rfl⟩, h⟩)
    · have h6 : zI 1 2147483647 p0 := zr_lt2 (zc_nle c4) htl h3 (by decide)
      refine g_iconst (pc := 12) C (-1) dX6_end_12 (by decide) ?_
      have kc0 := (zc_nlt c1)
      have : (0 : Int32).toInt = 0 := rfl
      have kc1 := (zc_nle c4)
      exact g_ireturn r dX6_end_13 rfl (fun _ h => ⟨_, Or.inr ⟨fun q => by have q1 := q.1; have q2 := q.2; omega, rfl, rfl⟩, h⟩)

set_option maxHeartbeats 2000000 in
set_option maxRecDepth 100000 in
theorem n_X6_putInArea (l : Launch) (D : va_G) (ad : Nat → Nat) (cy : Nat → ClassId) (tl : Int32) (A : Nat → Prop) (p0 : Int32) (p1 : Int32) (p2 : Int32) : zMv l yX6_putInArea wz_X6_putInArea ({ frames := 3, cells := 0, slots := 0, locals := 73 }) [.ref (ad 0), .int p0, .int p1, .int p2] D (zTc cy) A (zMc D A ad cy tl) (zMc D A ad cy tl) := by
  refine zstart_v (cc := cX6_putInArea) (maxL := 4) (own := RX6) (by decide) rfl rfl (Nat.le_of_ble_eq_true rfl) (fun p e s m args below meth c Q C r => ?_)
  have J82 : zG p l e ({ frames := 3, cells := 0, slots := 0, locals := 73 }) s m args below meth c 4 0 0 A Q (zMc D A ad cy tl) 82 [(0, .ref (ad 0)), (1, .int p0), (2, .int p1), (3, .int p2)] [] := by
    exact g_return r dX6_putInArea_82 (fun _ h => h)
  refine g_sub (lv' := [(0, .ref (ad 0)), (1, .int p0), (2, .int p1), (3, .int p2)]) [0, 1, 2, 3] rfl ?_
  refine g_iload_n (pc := 0) C dX6_putInArea_0 rfl 1 rfl ?_
  refine g_table (pc := 1) C [70, 28, 43, 55] dX6_putInArea_1 (by decide) (by decide) (by decide) (List.forall_mem_cons.mpr ⟨?_, (List.forall_mem_cons.mpr ⟨?_, (List.forall_mem_cons.mpr ⟨?_, (List.forall_mem_cons.mpr ⟨?_, fun _ h => absurd h List.not_mem_nil⟩)⟩)⟩)⟩)
  · refine g_aload_n (pc := 70) C dX6_putInArea_70 rfl 0 rfl ?_
    refine gc_0_2 (pc := 71) C wk_265 dX6_putInArea_71 ?_
    refine gc_7_0 (pc := 74) C wk_155 dX6_putInArea_74 ?_
    refine g_iload_n (pc := 77) C dX6_putInArea_77 rfl 2 rfl ?_
    refine g_iload_n (pc := 78) C dX6_putInArea_78 rfl 3 rfl ?_
    refine zcallVv (pc := 79) (st := []) C C.2.2.2.2.2 (n_X0_put_gb l D ad cy tl A p1 p2) (cwV 2 C.2.2.2.2.1 gw_RX6_66 rfl rfl rfl cd_X0_put ⟨Nat.le_of_ble_eq_true rfl, Nat.le_of_ble_eq_true rfl⟩) (hc_8 C) rfl rfl (Nat.le_of_ble_eq_true rfl) ⟨Nat.le_of_ble_eq_true rfl, Nat.le_of_ble_eq_true rfl⟩ dX6_putInArea_79 ?_
    exact g_sub [0, 1, 2, 3] rfl (J82 )
  · refine g_aload_n (pc := 28) C dX6_putInArea_28 rfl 0 rfl ?_
    refine gc_0_4 (pc := 29) C wk_267 dX6_putInArea_29 ?_
    refine gc_12_0 (pc := 32) C wk_197 dX6_putInArea_32 ?_
    refine g_iload_n (pc := 35) C dX6_putInArea_35 rfl 2 rfl ?_
    refine g_iload_n (pc := 36) C dX6_putInArea_36 rfl 3 rfl ?_
    refine zcallVv (pc := 37) (st := []) C C.2.2.2.2.2 (n_X0_put_rb l D ad cy tl A p1 p2) (cwV 2 C.2.2.2.2.1 gw_RX6_66 rfl rfl rfl cd_X0_put ⟨Nat.le_of_ble_eq_true rfl, Nat.le_of_ble_eq_true rfl⟩) (hc_13 C) rfl rfl (Nat.le_of_ble_eq_true rfl) ⟨Nat.le_of_ble_eq_true rfl, Nat.le_of_ble_eq_true rfl⟩ dX6_putInArea_37 ?_
    refine g_goto (pc := 40) C 82 dX6_putInArea_40 (by decide) ?_
    exact g_sub [0, 1, 2, 3] rfl (J82 )
  · refine g_aload_n (pc := 43) C dX6_putInArea_43 rfl 0 rfl ?_
    refine gc_0_4 (pc := 44) C wk_267 dX6_putInArea_44 ?_
    refine g_iload_n (pc := 47) C dX6_putInArea_47 rfl 2 rfl ?_
    refine g_iload_n (pc := 48) C dX6_putInArea_48 rfl 3 rfl ?_
    refine zcallVv (pc := 49) (st := []) C C.2.2.2.2.2 (n_X2_putByte l D ad cy tl A p1 p2) (cwV 2 C.2.2.2.2.1 gw_RX6_85 rfl rfl rfl cd_X2_putByte ⟨Nat.le_of_ble_eq_true rfl, Nat.le_of_ble_eq_true rfl⟩) (hc_12 C) rfl rfl (Nat.le_of_ble_eq_true rfl) ⟨Nat.le_of_ble_eq_true rfl, Nat.le_of_ble_eq_true rfl⟩ dX6_putInArea_49 ?_
    refine g_goto (pc := 52) C 82 dX6_putInArea_52 (by decide) ?_
    exact g_sub [0, 1, 2, 3] rfl (J82 )
  · refine g_aload_n (pc := 55) C dX6_putInArea_55 rfl 0 rfl ?_
    refine gc_0_1 (pc := 56) C wk_264 dX6_putInArea_56 ?_
    refine gc_3_0 (pc := 59) C wk_121 dX6_putInArea_59 ?_
    refine g_iload_n (pc := 62) C dX6_putInArea_62 rfl 2 rfl ?_
    refine g_iload_n (pc := 63) C dX6_putInArea_63 rfl 3 rfl ?_
    refine zcallVv (pc := 64) (st := []) C C.2.2.2.2.2 (n_X0_put_pb l D ad cy tl A p1 p2) (cwV 2 C.2.2.2.2.1 gw_RX6_66 rfl rfl rfl cd_X0_put ⟨Nat.le_of_ble_eq_true rfl, Nat.le_of_ble_eq_true rfl⟩) (hc_4 C) rfl rfl (Nat.le_of_ble_eq_true rfl) ⟨Nat.le_of_ble_eq_true rfl, Nat.le_of_ble_eq_true rfl⟩ dX6_putInArea_64 ?_
    refine g_goto (pc := 67) C 82 dX6_putInArea_67 (by decide) ?_
    exact g_sub [0, 1, 2, 3] rfl (J82 )

set_option maxHeartbeats 2000000 in
set_option maxRecDepth 100000 in
theorem n_X6_sizeOfAreaL (l : Launch) (D : va_G) (ad : Nat → Nat) (cy : Nat → ClassId) (tl : Int32) (A : Nat → Prop) (p0 : Int32) (hp0 : zI (-2147483648) (-1) p0) : zMi l yX6_sizeOfArea wz_X6_sizeOfArea ({ frames := 0, cells := 0, slots := 0, locals := 0 }) [.int p0] D (zTc cy) A (zMc D A ad cy tl) (fun r H => zI (-1) (-1) r ∧ (zMc D A ad cy tl) H) := by
  refine zstart_i (cc := cX6_sizeOfArea) (maxL := 1) (ty := .int) (own := RX6) (by decide) rfl rfl (Nat.le_of_ble_eq_true rfl) (fun p e s m args below meth c Q C r => ?_)
  refine g_sub (lv' := [(0, .int p0)]) [0] rfl ?_
  refine g_iload_n (pc := 0) C dX6_sizeOfArea_0 rfl 0 rfl ?_
  refine g_tableO (pc := 1) C hp0 (by decide) 47 dX6_sizeOfArea_1 (by decide) ?_
  refine g_iconst (pc := 47) C (-1) dX6_sizeOfArea_47 (by decide) ?_
  exact g_ireturn r dX6_sizeOfArea_48 rfl (fun _ h => ⟨(zi_c (-1) (a := (-1)) (b := (-1)) (by decide)), h⟩)

set_option maxHeartbeats 2000000 in
set_option maxRecDepth 100000 in
theorem n_X6_loadL (l : Launch) (D : va_G) (ad : Nat → Nat) (cy : Nat → ClassId) (tl : Int32) (A : Nat → Prop) (p0 : Int32) (p1 : Int32) (htl : zI 0 1000 tl) (hp0 : zI (-2147483648) (-1) p0) : zMi l yX6_load wz_X6_load ({ frames := 4, cells := 0, slots := 0, locals := 96 }) [.ref (ad 0), .int p0, .int p1] D (zTc cy) A (zMc D A ad cy tl) (fun r H => ∃ t, zload tl p0 p1 r t ∧ zMc D A ad cy t H) := by
  refine zstart_i (cc := cX6_load) (maxL := 6) (ty := .int) (own := RX6) (by decide) rfl rfl (Nat.le_of_ble_eq_true rfl) (fun p e s m args below meth c Q C r => ?_)
  refine g_sub (lv' := [(0, .ref (ad 0)), (1, .int p0), (2, .int p1)]) [0, 1, 2] rfl ?_
  refine g_iload_n (pc := 0) C dX6_load_0 rfl 1 rfl ?_
  refine zcallSi (pc := 1) (st := []) C C.2.2.2.2.2 (n_X6_sizeOfAreaL l D ad cy tl A p0 hp0) (va_cwS 1 C.2.2.2.2.1 gw_RX6_70 rfl rfl rfl cs_X6_sizeOfArea ⟨Nat.le_of_ble_eq_true rfl, Nat.le_of_ble_eq_true rfl⟩) rfl rfl (Nat.le_of_ble_eq_true rfl) ⟨Nat.le_of_ble_eq_true rfl, Nat.le_of_ble_eq_true rfl⟩ dX6_load_1 (fun r1 => ?_)
  refine g_and (M2 := (zMc D A ad cy tl)) (fun hr1 => ?_)
  refine g_istore_n (pc := 4) C ([(3, .int r1), (0, .ref (ad 0)), (1, .int p0), (2, .int p1)]) dX6_load_4 rfl (Nat.le_of_ble_eq_true rfl) rfl ?_
  refine g_iload_n (pc := 5) C dX6_load_5 rfl 0 rfl ?_
  refine g_iconst (pc := 6) C (-1) dX6_load_6 (by decide) ?_
  refine g_icmp_eq (pc := 7) C 24 dX6_load_7 (by decide) (fun c2 => ?_) (fun c2 => ?_)
  · refine g_iconst (pc := 24) C (-1) dX6_load_24 (by decide) ?_
    exact g_ireturn r dX6_load_25 rfl (fun _ h => ⟨_, Or.inr ⟨zlokL hp0.2, rfl, rfl⟩, h⟩)
  · have h3 : zI 0 (-1) r1 := zr_neL c2 hr1 (zi_c (-1) (a := (-1)) (b := (-1)) (by decide)) (by decide)
    exact zi_no h3 (by decide)

set_option maxHeartbeats 2000000 in
set_option maxRecDepth 100000 in
theorem n_X6_sizeOfArea0 (l : Launch) (D : va_G) (ad : Nat → Nat) (cy : Nat → ClassId) (tl : Int32) (A : Nat → Prop) : zMi l yX6_sizeOfArea wz_X6_sizeOfArea ({ frames := 0, cells := 0, slots := 0, locals := 0 }) [.int 0] D (zTc cy) A (zMc D A ad cy tl) (fun r H => zI 8192 8192 r ∧ (zMc D A ad cy tl) H) := by
  refine zstart_i (cc := cX6_sizeOfArea) (maxL := 1) (ty := .int) (own := RX6) (by decide) rfl rfl (Nat.le_of_ble_eq_true rfl) (fun p e s m args below meth c Q C r => ?_)
  refine g_sub (lv' := [(0, .int 0)]) [0] rfl ?_
  refine g_iload_n (pc := 0) C dX6_sizeOfArea_0 rfl 0 rfl ?_
  refine g_tableI (pc := 1) C 0 0 (zi_w (zi_c 0 (a := 0) (b := 0) (by decide)) (a' := 0) (b' := 0 + (0 : Nat)) (by decide)) [32] dX6_sizeOfArea_1 (by decide) (by decide) (by decide) (List.forall_mem_cons.mpr ⟨?_, fun _ h => absurd h List.not_mem_nil⟩)
  · refine g_sipush (pc := 32) C 8192 dX6_sizeOfArea_32 (by decide) ?_
    exact g_ireturn r dX6_sizeOfArea_35 rfl (fun _ h => ⟨(zi_c 8192 (a := 8192) (b := 8192) (by decide)), h⟩)

set_option maxHeartbeats 2000000 in
set_option maxRecDepth 100000 in
theorem n_X6_load0 (l : Launch) (D : va_G) (ad : Nat → Nat) (cy : Nat → ClassId) (tl : Int32) (A : Nat → Prop) (p1 : Int32) (htl : zI 0 1000 tl) : zMi l yX6_load wz_X6_load ({ frames := 4, cells := 0, slots := 0, locals := 96 }) [.ref (ad 0), .int 0, .int p1] D (zTc cy) A (zMc D A ad cy tl) (fun r H => ∃ t, zload tl 0 p1 r t ∧ zMc D A ad cy t H) := by
  refine zstart_i (cc := cX6_load) (maxL := 6) (ty := .int) (own := RX6) (by decide) rfl rfl (Nat.le_of_ble_eq_true rfl) (fun p e s m args below meth c Q C r => ?_)
  have J35 : ∀ (n : Nat) (a3_35 : Int32) (a5_35 : Int32) (_ : zI 0 8192 p1) (_ : zI 8192 8192 a3_35) (_ : zI 0 1000 a5_35) (_ : zI 0 (8192 - tl.toInt) p1) (_ : (1000 - (a5_35 : Int32).toInt).toNat = n), zG p l e ({ frames := 4, cells := 0, slots := 0, locals := 96 }) s m args below meth c 6 0 0 A Q (zMc D A ad cy tl) 35 [(0, .ref (ad 0)), (1, .int 0), (2, .int p1), (3, .int a3_35), (4, .int tl), (5, .int a5_35)] [] := by
    intro n
    induction n using Nat.strongRecOn with
    | ind n ih =>
      intro a3_35 a5_35 hc_a2_35 ha3_35 ha5_35 hok hn
      refine g_iload (pc := 35) C dX6_load_35 5 rfl ?_
      refine g_iload (pc := 37) C dX6_load_37 4 rfl ?_
      refine g_icmp_ge (pc := 39) C 66 dX6_load_39 (by decide) (fun c1 => ?_) (fun c1 => ?_)
      · refine g_aload_n (pc := 66) C dX6_load_66 rfl 0 rfl ?_
        refine g_iconst (pc := 67) C 0 dX6_load_67 (by decide) ?_
        refine pc_0_6 (pc := 68) C wk_269 dX6_load_68 ?_
        refine g_iload (pc := 71) C dX6_load_71 4 rfl ?_
        exact g_ireturn r dX6_load_73 rfl (fun _ h => ⟨_, Or.inl ⟨zlok0.mpr hok, rfl, rfl⟩, h⟩)
      · have h2 : zI 0 999 a5_35 := zr_lt1 (zc_nle c1) ha5_35 htl (by decide)
        have h3 : zI 1 1000 tl := zr_lt2 (zc_nle c1) ha5_35 htl (by decide)
        refine g_aload_n (pc := 42) C dX6_load_42 rfl 0 rfl ?_
        refine g_iload_n (pc := 43) C dX6_load_43 rfl 1 rfl ?_
        refine g_iload_n (pc := 44) C dX6_load_44 rfl 2 rfl ?_
        refine g_iload (pc := 45) C dX6_load_45 5 rfl ?_
        refine g_iadd (pc := 47) C dX6_load_47 (fun z4 ez4 => ?_)
        have hz4 : zI 0 9191 z4 := zi_add hc_a2_35 h2 ez4 (by decide)
        refine g_aload_n (pc := 48) C dX6_load_48 rfl 0 rfl ?_
        refine gc_0_0 (pc := 49) C wk_263 dX6_load_49 ?_
        refine g_iload (pc := 52) C dX6_load_52 5 rfl ?_
        refine zcallVi (pc := 54) (st := [.int z4, .int 0, .ref (ad 0)]) C C.2.2.2.2.2 (n_X0_get_tb l D ad cy tl A a5_35) (cwV 1 C.2.2.2.2.1 gw_RX6_74 rfl rfl rfl cd_X0_get ⟨Nat.le_of_ble_eq_true rfl, Nat.le_of_ble_eq_true rfl⟩) (hc_1 C) rfl rfl (Nat.le_of_ble_eq_true rfl) ⟨Nat.le_of_ble_eq_true rfl, Nat.le_of_ble_eq_true rfl⟩ dX6_load_54 (fun r5 => ?_)
        refine g_and (M2 := (zMc D A ad cy tl)) (fun hr5 => ?_)
        refine zcallVv (pc := 57) (st := []) C C.2.2.2.2.2 (n_X6_putInArea l D ad cy tl A 0 z4 r5) (cwV 3 C.2.2.2.2.1 gw_RX6_77 rfl rfl rfl cd_X6_putInArea ⟨Nat.le_of_ble_eq_true rfl, Nat.le_of_ble_eq_true rfl⟩) (hc_0 C) rfl rfl (Nat.le_of_ble_eq_true rfl) ⟨Nat.le_of_ble_eq_true rfl, Nat.le_of_ble_eq_true rfl⟩ dX6_load_57 ?_
        obtain ⟨z6, ez6⟩ : ∃ z : Int32, z = a5_35 + 1 := ⟨_, rfl⟩
        have hz6 : zI 1 1000 z6 := zi_add h2 (zi_c 1 (a := 1) (b := 1) (by decide)) ez6 (by decide)
        refine g_iinc (pc := 60) C z6 ([(5, .int z6), (0, .ref (ad 0)), (1, .int 0), (2, .int p1), (3, .int a3_35), (4, .int tl)]) dX6_load_60 5 rfl (by rw [ez6]; rfl) (Nat.le_of_ble_eq_true rfl) rfl ?_
        refine g_goto (pc := 63) C 35 dX6_load_63 (by decide) ?_
        exact g_sub [1, 2, 3, 4, 5, 0] rfl (ih (1000 - (z6 : Int32).toInt).toNat (by rw [← hn]; exact zdec ez6 h2 (by decide) (zi_w hz6 (a' := 0) (b' := 1000) (by decide))) a3_35 z6 hc_a2_35 ha3_35 (zi_w hz6 (a' := 0) (b' := 1000) (by decide)) hok rfl)
  refine g_sub (lv' := [(0, .ref (ad 0)), (1, .int 0), (2, .int p1)]) [0, 1, 2] rfl ?_
  refine g_iload_n (pc := 0) C dX6_load_0 rfl 1 rfl ?_
  refine zcallSi (pc := 1) (st := []) C C.2.2.2.2.2 (n_X6_sizeOfArea0 l D ad cy tl A ) (va_cwS 1 C.2.2.2.2.1 gw_RX6_70 rfl rfl rfl cs_X6_sizeOfArea ⟨Nat.le_of_ble_eq_true rfl, Nat.le_of_ble_eq_true rfl⟩) rfl rfl (Nat.le_of_ble_eq_true rfl) ⟨Nat.le_of_ble_eq_true rfl, Nat.le_of_ble_eq_true rfl⟩ dX6_load_1 (fun r7 => ?_)
  refine g_and (M2 := (zMc D A ad cy tl)) (fun hr7 => ?_)
  refine g_istore_n (pc := 4) C ([(3, .int r7), (0, .ref (ad 0)), (1, .int 0), (2, .int p1)]) dX6_load_4 rfl (Nat.le_of_ble_eq_true rfl) rfl ?_
  refine g_iload_n (pc := 5) C dX6_load_5 rfl 0 rfl ?_
  refine g_iconst (pc := 6) C (-1) dX6_load_6 (by decide) ?_
  refine g_icmp_eq (pc := 7) C 24 dX6_load_7 (by decide) (fun c8 => ?_) (fun c8 => ?_)
  · have h9 : zI 8192 (-1) r7 := zr_eq c8 hr7 (zi_c (-1) (a := (-1)) (b := (-1)) (by decide)) (by decide)
    exact zi_no h9 (by decide)
  · refine g_iload_n (pc := 10) C dX6_load_10 rfl 3 rfl ?_
    refine g_if_lt (pc := 11) C 24 dX6_load_11 (by decide) (fun c10 => ?_) (fun c10 => ?_)
    · have h11 : zI (-2147483648) (-1) p1 := zr_lt1 (zc_lt c10) (zi_full p1) (zi_c 0 (a := 0) (b := 0) (by decide)) (by decide)
      refine g_iconst (pc := 24) C (-1) dX6_load_24 (by decide) ?_
      have : ((-1) : Int32).toInt = -1 := rfl
      have kc1 := (zc_lt c10)
      have : (0 : Int32).toInt = 0 := rfl
      exact g_ireturn r dX6_load_25 rfl (fun _ h => ⟨_, Or.inr ⟨fun q => by have q := zlok0.mp q; have q1 := q.1; have q2 := q.2; omega, rfl, rfl⟩, h⟩)
    · have h12 : zI 0 2147483647 p1 := zr_le2 (zc_nlt c10) (zi_c 0 (a := 0) (b := 0) (by decide)) (zi_full p1) (by decide)
      refine g_iload_n (pc := 14) C dX6_load_14 rfl 3 rfl ?_
      refine g_iload_n (pc := 15) C dX6_load_15 rfl 0 rfl ?_
      refine g_aload_n (pc := 16) C dX6_load_16 rfl 1 rfl ?_
      refine gc_0_6 (pc := 17) C wk_269 dX6_load_17 ?_
      refine g_isub (pc := 20) C dX6_load_20 (fun z13 ez13 => ?_)
      have hz13 : zI 7192 8192 z13 := zi_sub hr7 htl ez13 (by decide)
      refine g_icmp_le (pc := 21) C 26 dX6_load_21 (by decide) (fun c14 => ?_) (fun c14 => ?_)
      · have h15 : zI 0 8192 p1 := zr_le1 (zc_le c14) h12 hz13 (by decide)
        refine g_aload_n (pc := 26) C dX6_load_26 rfl 1 rfl ?_
        refine gc_0_6 (pc := 27) C wk_269 dX6_load_27 ?_
        refine g_istore (pc := 30) C ([(4, .int tl), (3, .int r7), (0, .ref (ad 0)), (1, .int 0), (2, .int p1)]) dX6_load_30 (Nat.le_of_ble_eq_true rfl) rfl ?_
        refine g_iconst (pc := 32) C 0 dX6_load_32 (by decide) ?_
        refine g_istore (pc := 33) C ([(5, .int 0), (4, .int tl), (3, .int r7), (0, .ref (ad 0)), (1, .int 0), (2, .int p1)]) dX6_load_33 (Nat.le_of_ble_eq_true rfl) rfl ?_
        have : ((-1) : Int32).toInt = -1 := rfl
        have kc1 := (zc_nlt c10)
        have : (0 : Int32).toInt = 0 := rfl
        have kc2 := (zc_le c14)
        have kq2 := zsubE hr7 htl ez13 (by decide)
        have k16 : zI 0 (8192 - tl.toInt) p1 := ⟨by omega, by omega⟩
        exact g_sub [3, 4, 5, 2, 1, 0] rfl (J35 (1000 - (0 : Int32).toInt).toNat r7 0 h15 hr7 (zi_c 0 (a := 0) (b := 1000) (by decide)) k16 rfl)
      · have h17 : zI 7193 2147483647 p1 := zr_lt2 (zc_nle c14) hz13 h12 (by decide)
        refine g_iconst (pc := 24) C (-1) dX6_load_24 (by decide) ?_
        have : ((-1) : Int32).toInt = -1 := rfl
        have kc1 := (zc_nlt c10)
        have : (0 : Int32).toInt = 0 := rfl
        have kc2 := (zc_nle c14)
        have kq2 := zsubE hr7 htl ez13 (by decide)
        exact g_ireturn r dX6_load_25 rfl (fun _ h => ⟨_, Or.inr ⟨fun q => by have q := zlok0.mp q; have q1 := q.1; have q2 := q.2; omega, rfl, rfl⟩, h⟩)

set_option maxHeartbeats 2000000 in
set_option maxRecDepth 100000 in
theorem n_X6_sizeOfArea1 (l : Launch) (D : va_G) (ad : Nat → Nat) (cy : Nat → ClassId) (tl : Int32) (A : Nat → Prop) : zMi l yX6_sizeOfArea wz_X6_sizeOfArea ({ frames := 0, cells := 0, slots := 0, locals := 0 }) [.int 1] D (zTc cy) A (zMc D A ad cy tl) (fun r H => zI 65536 65536 r ∧ (zMc D A ad cy tl) H) := by
  refine zstart_i (cc := cX6_sizeOfArea) (maxL := 1) (ty := .int) (own := RX6) (by decide) rfl rfl (Nat.le_of_ble_eq_true rfl) (fun p e s m args below meth c Q C r => ?_)
  refine g_sub (lv' := [(0, .int 1)]) [0] rfl ?_
  refine g_iload_n (pc := 0) C dX6_sizeOfArea_0 rfl 0 rfl ?_
  refine g_tableI (pc := 1) C 1 0 (zi_w (zi_c 1 (a := 1) (b := 1) (by decide)) (a' := 1) (b' := 1 + (0 : Nat)) (by decide)) [36] dX6_sizeOfArea_1 (by decide) (by decide) (by decide) (List.forall_mem_cons.mpr ⟨?_, fun _ h => absurd h List.not_mem_nil⟩)
  · refine g_ldc (pc := 36) C dX6_sizeOfArea_36 (C.wd wk_309) ?_
    exact g_ireturn r dX6_sizeOfArea_38 rfl (fun _ h => ⟨(zi_c 65536 (a := 65536) (b := 65536) (by decide)), h⟩)

set_option maxHeartbeats 2000000 in
set_option maxRecDepth 100000 in
theorem n_X6_load1 (l : Launch) (D : va_G) (ad : Nat → Nat) (cy : Nat → ClassId) (tl : Int32) (A : Nat → Prop) (p1 : Int32) (htl : zI 0 1000 tl) : zMi l yX6_load wz_X6_load ({ frames := 4, cells := 0, slots := 0, locals := 96 }) [.ref (ad 0), .int 1, .int p1] D (zTc cy) A (zMc D A ad cy tl) (fun r H => ∃ t, zload tl 1 p1 r t ∧ zMc D A ad cy t H) := by
  refine zstart_i (cc := cX6_load) (maxL := 6) (ty := .int) (own := RX6) (by decide) rfl rfl (Nat.le_of_ble_eq_true rfl) (fun p e s m args below meth c Q C r => ?_)
  have J35 : ∀ (n : Nat) (a3_35 : Int32) (a5_35 : Int32) (_ : zI 0 65536 p1) (_ : zI 65536 65536 a3_35) (_ : zI 0 1000 a5_35) (_ : zI 0 (65536 - tl.toInt) p1) (_ : (1000 - (a5_35 : Int32).toInt).toNat = n), zG p l e ({ frames := 4, cells := 0, slots := 0, locals := 96 }) s m args below meth c 6 0 0 A Q (zMc D A ad cy tl) 35 [(0, .ref (ad 0)), (1, .int 1), (2, .int p1), (3, .int a3_35), (4, .int tl), (5, .int a5_35)] [] := by
    intro n
    induction n using Nat.strongRecOn with
    | ind n ih =>
      intro a3_35 a5_35 hc_a2_35 ha3_35 ha5_35 hok hn
      refine g_iload (pc := 35) C dX6_load_35 5 rfl ?_
      refine g_iload (pc := 37) C dX6_load_37 4 rfl ?_
      refine g_icmp_ge (pc := 39) C 66 dX6_load_39 (by decide) (fun c1 => ?_) (fun c1 => ?_)
      · refine g_aload_n (pc := 66) C dX6_load_66 rfl 0 rfl ?_
        refine g_iconst (pc := 67) C 0 dX6_load_67 (by decide) ?_
        refine pc_0_6 (pc := 68) C wk_269 dX6_load_68 ?_
        refine g_iload (pc := 71) C dX6_load_71 4 rfl ?_
        exact g_ireturn r dX6_load_73 rfl (fun _ h => ⟨_, Or.inl ⟨zlok1.mpr hok, rfl, rfl⟩, h⟩)
      · have h2 : zI 0 999 a5_35 := zr_lt1 (zc_nle c1) ha5_35 htl (by decide)
        have h3 : zI 1 1000 tl := zr_lt2 (zc_nle c1) ha5_35 htl (by decide)
        refine g_aload_n (pc := 42) C dX6_load_42 rfl 0 rfl ?_
        refine g_iload_n (pc := 43) C dX6_load_43 rfl 1 rfl ?_
        refine g_iload_n (pc := 44) C dX6_load_44 rfl 2 rfl ?_
        refine g_iload (pc := 45) C dX6_load_45 5 rfl ?_
        refine g_iadd (pc := 47) C dX6_load_47 (fun z4 ez4 => ?_)
        have hz4 : zI 0 66535 z4 := zi_add hc_a2_35 h2 ez4 (by decide)
        refine g_aload_n (pc := 48) C dX6_load_48 rfl 0 rfl ?_
        refine gc_0_0 (pc := 49) C wk_263 dX6_load_49 ?_
        refine g_iload (pc := 52) C dX6_load_52 5 rfl ?_
        refine zcallVi (pc := 54) (st := [.int z4, .int 1, .ref (ad 0)]) C C.2.2.2.2.2 (n_X0_get_tb l D ad cy tl A a5_35) (cwV 1 C.2.2.2.2.1 gw_RX6_74 rfl rfl rfl cd_X0_get ⟨Nat.le_of_ble_eq_true rfl, Nat.le_of_ble_eq_true rfl⟩) (hc_1 C) rfl rfl (Nat.le_of_ble_eq_true rfl) ⟨Nat.le_of_ble_eq_true rfl, Nat.le_of_ble_eq_true rfl⟩ dX6_load_54 (fun r5 => ?_)
        refine g_and (M2 := (zMc D A ad cy tl)) (fun hr5 => ?_)
        refine zcallVv (pc := 57) (st := []) C C.2.2.2.2.2 (n_X6_putInArea l D ad cy tl A 1 z4 r5) (cwV 3 C.2.2.2.2.1 gw_RX6_77 rfl rfl rfl cd_X6_putInArea ⟨Nat.le_of_ble_eq_true rfl, Nat.le_of_ble_eq_true rfl⟩) (hc_0 C) rfl rfl (Nat.le_of_ble_eq_true rfl) ⟨Nat.le_of_ble_eq_true rfl, Nat.le_of_ble_eq_true rfl⟩ dX6_load_57 ?_
        obtain ⟨z6, ez6⟩ : ∃ z : Int32, z = a5_35 + 1 := ⟨_, rfl⟩
        have hz6 : zI 1 1000 z6 := zi_add h2 (zi_c 1 (a := 1) (b := 1) (by decide)) ez6 (by decide)
        refine g_iinc (pc := 60) C z6 ([(5, .int z6), (0, .ref (ad 0)), (1, .int 1), (2, .int p1), (3, .int a3_35), (4, .int tl)]) dX6_load_60 5 rfl (by rw [ez6]; rfl) (Nat.le_of_ble_eq_true rfl) rfl ?_
        refine g_goto (pc := 63) C 35 dX6_load_63 (by decide) ?_
        exact g_sub [1, 2, 3, 4, 5, 0] rfl (ih (1000 - (z6 : Int32).toInt).toNat (by rw [← hn]; exact zdec ez6 h2 (by decide) (zi_w hz6 (a' := 0) (b' := 1000) (by decide))) a3_35 z6 hc_a2_35 ha3_35 (zi_w hz6 (a' := 0) (b' := 1000) (by decide)) hok rfl)
  refine g_sub (lv' := [(0, .ref (ad 0)), (1, .int 1), (2, .int p1)]) [0, 1, 2] rfl ?_
  refine g_iload_n (pc := 0) C dX6_load_0 rfl 1 rfl ?_
  refine zcallSi (pc := 1) (st := []) C C.2.2.2.2.2 (n_X6_sizeOfArea1 l D ad cy tl A ) (va_cwS 1 C.2.2.2.2.1 gw_RX6_70 rfl rfl rfl cs_X6_sizeOfArea ⟨Nat.le_of_ble_eq_true rfl, Nat.le_of_ble_eq_true rfl⟩) rfl rfl (Nat.le_of_ble_eq_true rfl) ⟨Nat.le_of_ble_eq_true rfl, Nat.le_of_ble_eq_true rfl⟩ dX6_load_1 (fun r7 => ?_)
  refine g_and (M2 := (zMc D A ad cy tl)) (fun hr7 => ?_)
  refine g_istore_n (pc := 4) C ([(3, .int r7), (0, .ref (ad 0)), (1, .int 1), (2, .int p1)]) dX6_load_4 rfl (Nat.le_of_ble_eq_true rfl) rfl ?_
  refine g_iload_n (pc := 5) C dX6_load_5 rfl 0 rfl ?_
  refine g_iconst (pc := 6) C (-1) dX6_load_6 (by decide) ?_
  refine g_icmp_eq (pc := 7) C 24 dX6_load_7 (by decide) (fun c8 => ?_) (fun c8 => ?_)
  · have h9 : zI 65536 (-1) r7 := zr_eq c8 hr7 (zi_c (-1) (a := (-1)) (b := (-1)) (by decide)) (by decide)
    exact zi_no h9 (by decide)
  · refine g_iload_n (pc := 10) C dX6_load_10 rfl 3 rfl ?_
    refine g_if_lt (pc := 11) C 24 dX6_load_11 (by decide) (fun c10 => ?_) (fun c10 => ?_)
    · have h11 : zI (-2147483648) (-1) p1 := zr_lt1 (zc_lt c10) (zi_full p1) (zi_c 0 (a := 0) (b := 0) (by decide)) (by decide)
      refine g_iconst (pc := 24) C (-1) dX6_load_24 (by decide) ?_
      have : ((-1) : Int32).toInt = -1 := rfl
      have kc1 := (zc_lt c10)
      have : (0 : Int32).toInt = 0 := rfl
      exact g_ireturn r dX6_load_25 rfl (fun _ h => ⟨_, Or.inr ⟨fun q => by have q := zlok1.mp q; have q1 := q.1; have q2 := q.2; omega, rfl, rfl⟩, h⟩)
    · have h12 : zI 0 2147483647 p1 := zr_le2 (zc_nlt c10) (zi_c 0 (a := 0) (b := 0) (by decide)) (zi_full p1) (by decide)
      refine g_iload_n (pc := 14) C dX6_load_14 rfl 3 rfl ?_
      refine g_iload_n (pc := 15) C dX6_load_15 rfl 0 rfl ?_
      refine g_aload_n (pc := 16) C dX6_load_16 rfl 1 rfl ?_
      refine gc_0_6 (pc := 17) C wk_269 dX6_load_17 ?_
      refine g_isub (pc := 20) C dX6_load_20 (fun z13 ez13 => ?_)
      have hz13 : zI 64536 65536 z13 := zi_sub hr7 htl ez13 (by decide)
      refine g_icmp_le (pc := 21) C 26 dX6_load_21 (by decide) (fun c14 => ?_) (fun c14 => ?_)
      · have h15 : zI 0 65536 p1 := zr_le1 (zc_le c14) h12 hz13 (by decide)
        refine g_aload_n (pc := 26) C dX6_load_26 rfl 1 rfl ?_
        refine gc_0_6 (pc := 27) C wk_269 dX6_load_27 ?_
        refine g_istore (pc := 30) C ([(4, .int tl), (3, .int r7), (0, .ref (ad 0)), (1, .int 1), (2, .int p1)]) dX6_load_30 (Nat.le_of_ble_eq_true rfl) rfl ?_
        refine g_iconst (pc := 32) C 0 dX6_load_32 (by decide) ?_
        refine g_istore (pc := 33) C ([(5, .int 0), (4, .int tl), (3, .int r7), (0, .ref (ad 0)), (1, .int 1), (2, .int p1)]) dX6_load_33 (Nat.le_of_ble_eq_true rfl) rfl ?_
        have : ((-1) : Int32).toInt = -1 := rfl
        have kc1 := (zc_nlt c10)
        have : (0 : Int32).toInt = 0 := rfl
        have kc2 := (zc_le c14)
        have kq2 := zsubE hr7 htl ez13 (by decide)
        have k16 : zI 0 (65536 - tl.toInt) p1 := ⟨by omega, by omega⟩
        exact g_sub [3, 4, 5, 2, 1, 0] rfl (J35 (1000 - (0 : Int32).toInt).toNat r7 0 h15 hr7 (zi_c 0 (a := 0) (b := 1000) (by decide)) k16 rfl)
      · have h17 : zI 64537 2147483647 p1 := zr_lt2 (zc_nle c14) hz13 h12 (by decide)
        refine g_iconst (pc := 24) C (-1) dX6_load_24 (by decide) ?_
        have : ((-1) : Int32).toInt = -1 := rfl
        have kc1 := (zc_nlt c10)
        have : (0 : Int32).toInt = 0 := rfl
        have kc2 := (zc_nle c14)
        have kq2 := zsubE hr7 htl ez13 (by decide)
        exact g_ireturn r dX6_load_25 rfl (fun _ h => ⟨_, Or.inr ⟨fun q => by have q := zlok1.mp q; have q1 := q.1; have q2 := q.2; omega, rfl, rfl⟩, h⟩)

set_option maxHeartbeats 2000000 in
set_option maxRecDepth 100000 in
theorem n_X6_sizeOfArea2 (l : Launch) (D : va_G) (ad : Nat → Nat) (cy : Nat → ClassId) (tl : Int32) (A : Nat → Prop) : zMi l yX6_sizeOfArea wz_X6_sizeOfArea ({ frames := 0, cells := 0, slots := 0, locals := 0 }) [.int 2] D (zTc cy) A (zMc D A ad cy tl) (fun r H => zI 16384 16384 r ∧ (zMc D A ad cy tl) H) := by
  refine zstart_i (cc := cX6_sizeOfArea) (maxL := 1) (ty := .int) (own := RX6) (by decide) rfl rfl (Nat.le_of_ble_eq_true rfl) (fun p e s m args below meth c Q C r => ?_)
  refine g_sub (lv' := [(0, .int 2)]) [0] rfl ?_
  refine g_iload_n (pc := 0) C dX6_sizeOfArea_0 rfl 0 rfl ?_
  refine g_tableI (pc := 1) C 2 0 (zi_w (zi_c 2 (a := 2) (b := 2) (by decide)) (a' := 2) (b' := 2 + (0 : Nat)) (by decide)) [39] dX6_sizeOfArea_1 (by decide) (by decide) (by decide) (List.forall_mem_cons.mpr ⟨?_, fun _ h => absurd h List.not_mem_nil⟩)
  · refine g_sipush (pc := 39) C 16384 dX6_sizeOfArea_39 (by decide) ?_
    exact g_ireturn r dX6_sizeOfArea_42 rfl (fun _ h => ⟨(zi_c 16384 (a := 16384) (b := 16384) (by decide)), h⟩)

set_option maxHeartbeats 2000000 in
set_option maxRecDepth 100000 in
theorem n_X6_load2 (l : Launch) (D : va_G) (ad : Nat → Nat) (cy : Nat → ClassId) (tl : Int32) (A : Nat → Prop) (p1 : Int32) (htl : zI 0 1000 tl) : zMi l yX6_load wz_X6_load ({ frames := 4, cells := 0, slots := 0, locals := 96 }) [.ref (ad 0), .int 2, .int p1] D (zTc cy) A (zMc D A ad cy tl) (fun r H => ∃ t, zload tl 2 p1 r t ∧ zMc D A ad cy t H) := by
  refine zstart_i (cc := cX6_load) (maxL := 6) (ty := .int) (own := RX6) (by decide) rfl rfl (Nat.le_of_ble_eq_true rfl) (fun p e s m args below meth c Q C r => ?_)
  have J35 : ∀ (n : Nat) (a3_35 : Int32) (a5_35 : Int32) (_ : zI 0 16384 p1) (_ : zI 16384 16384 a3_35) (_ : zI 0 1000 a5_35) (_ : zI 0 (16384 - tl.toInt) p1) (_ : (1000 - (a5_35 : Int32).toInt).toNat = n), zG p l e ({ frames := 4, cells := 0, slots := 0, locals := 96 }) s m args below meth c 6 0 0 A Q (zMc D A ad cy tl) 35 [(0, .ref (ad 0)), (1, .int 2), (2, .int p1), (3, .int a3_35), (4, .int tl), (5, .int a5_35)] [] := by
    intro n
    induction n using Nat.strongRecOn with
    | ind n ih =>
      intro a3_35 a5_35 hc_a2_35 ha3_35 ha5_35 hok hn
      refine g_iload (pc := 35) C dX6_load_35 5 rfl ?_
      refine g_iload (pc := 37) C dX6_load_37 4 rfl ?_
      refine g_icmp_ge (pc := 39) C 66 dX6_load_39 (by decide) (fun c1 => ?_) (fun c1 => ?_)
      · refine g_aload_n (pc := 66) C dX6_load_66 rfl 0 rfl ?_
        refine g_iconst (pc := 67) C 0 dX6_load_67 (by decide) ?_
        refine pc_0_6 (pc := 68) C wk_269 dX6_load_68 ?_
        refine g_iload (pc := 71) C dX6_load_71 4 rfl ?_
        exact g_ireturn r dX6_load_73 rfl (fun _ h => ⟨_, Or.inl ⟨zlok2.mpr hok, rfl, rfl⟩, h⟩)
      · have h2 : zI 0 999 a5_35 := zr_lt1 (zc_nle c1) ha5_35 htl (by decide)
        have h3 : zI 1 1000 tl := zr_lt2 (zc_nle c1) ha5_35 htl (by decide)
        refine g_aload_n (pc := 42) C dX6_load_42 rfl 0 rfl ?_
        refine g_iload_n (pc := 43) C dX6_load_43 rfl 1 rfl ?_
        refine g_iload_n (pc := 44) C dX6_load_44 rfl 2 rfl ?_
        refine g_iload (pc := 45) C dX6_load_45 5 rfl ?_
        refine g_iadd (pc := 47) C dX6_load_47 (fun z4 ez4 => ?_)
        have hz4 : zI 0 17383 z4 := zi_add hc_a2_35 h2 ez4 (by decide)
        refine g_aload_n (pc := 48) C dX6_load_48 rfl 0 rfl ?_
        refine gc_0_0 (pc := 49) C wk_263 dX6_load_49 ?_
        refine g_iload (pc := 52) C dX6_load_52 5 rfl ?_
        refine zcallVi (pc := 54) (st := [.int z4, .int 2, .ref (ad 0)]) C C.2.2.2.2.2 (n_X0_get_tb l D ad cy tl A a5_35) (cwV 1 C.2.2.2.2.1 gw_RX6_74 rfl rfl rfl cd_X0_get ⟨Nat.le_of_ble_eq_true rfl, Nat.le_of_ble_eq_true rfl⟩) (hc_1 C) rfl rfl (Nat.le_of_ble_eq_true rfl) ⟨Nat.le_of_ble_eq_true rfl, Nat.le_of_ble_eq_true rfl⟩ dX6_load_54 (fun r5 => ?_)
        refine g_and (M2 := (zMc D A ad cy tl)) (fun hr5 => ?_)
        refine zcallVv (pc := 57) (st := []) C C.2.2.2.2.2 (n_X6_putInArea l D ad cy tl A 2 z4 r5) (cwV 3 C.2.2.2.2.1 gw_RX6_77 rfl rfl rfl cd_X6_putInArea ⟨Nat.le_of_ble_eq_true rfl, Nat.le_of_ble_eq_true rfl⟩) (hc_0 C) rfl rfl (Nat.le_of_ble_eq_true rfl) ⟨Nat.le_of_ble_eq_true rfl, Nat.le_of_ble_eq_true rfl⟩ dX6_load_57 ?_
        obtain ⟨z6, ez6⟩ : ∃ z : Int32, z = a5_35 + 1 := ⟨_, rfl⟩
        have hz6 : zI 1 1000 z6 := zi_add h2 (zi_c 1 (a := 1) (b := 1) (by decide)) ez6 (by decide)
        refine g_iinc (pc := 60) C z6 ([(5, .int z6), (0, .ref (ad 0)), (1, .int 2), (2, .int p1), (3, .int a3_35), (4, .int tl)]) dX6_load_60 5 rfl (by rw [ez6]; rfl) (Nat.le_of_ble_eq_true rfl) rfl ?_
        refine g_goto (pc := 63) C 35 dX6_load_63 (by decide) ?_
        exact g_sub [1, 2, 3, 4, 5, 0] rfl (ih (1000 - (z6 : Int32).toInt).toNat (by rw [← hn]; exact zdec ez6 h2 (by decide) (zi_w hz6 (a' := 0) (b' := 1000) (by decide))) a3_35 z6 hc_a2_35 ha3_35 (zi_w hz6 (a' := 0) (b' := 1000) (by decide)) hok rfl)
  refine g_sub (lv' := [(0, .ref (ad 0)), (1, .int 2), (2, .int p1)]) [0, 1, 2] rfl ?_
  refine g_iload_n (pc := 0) C dX6_load_0 rfl 1 rfl ?_
  refine zcallSi (pc := 1) (st := []) C C.2.2.2.2.2 (n_X6_sizeOfArea2 l D ad cy tl A ) (va_cwS 1 C.2.2.2.2.1 gw_RX6_70 rfl rfl rfl cs_X6_sizeOfArea ⟨Nat.le_of_ble_eq_true rfl, Nat.le_of_ble_eq_true rfl⟩) rfl rfl (Nat.le_of_ble_eq_true rfl) ⟨Nat.le_of_ble_eq_true rfl, Nat.le_of_ble_eq_true rfl⟩ dX6_load_1 (fun r7 => ?_)
  refine g_and (M2 := (zMc D A ad cy tl)) (fun hr7 => ?_)
  refine g_istore_n (pc := 4) C ([(3, .int r7), (0, .ref (ad 0)), (1, .int 2), (2, .int p1)]) dX6_load_4 rfl (Nat.le_of_ble_eq_true rfl) rfl ?_
  refine g_iload_n (pc := 5) C dX6_load_5 rfl 0 rfl ?_
  refine g_iconst (pc := 6) C (-1) dX6_load_6 (by decide) ?_
  refine g_icmp_eq (pc := 7) C 24 dX6_load_7 (by decide) (fun c8 => ?_) (fun c8 => ?_)
  · have h9 : zI 16384 (-1) r7 := zr_eq c8 hr7 (zi_c (-1) (a := (-1)) (b := (-1)) (by decide)) (by decide)
    exact zi_no h9 (by decide)
  · refine g_iload_n (pc := 10) C dX6_load_10 rfl 3 rfl ?_
    refine g_if_lt (pc := 11) C 24 dX6_load_11 (by decide) (fun c10 => ?_) (fun c10 => ?_)
    · have h11 : zI (-2147483648) (-1) p1 := zr_lt1 (zc_lt c10) (zi_full p1) (zi_c 0 (a := 0) (b := 0) (by decide)) (by decide)
      refine g_iconst (pc := 24) C (-1) dX6_load_24 (by decide) ?_
      have : ((-1) : Int32).toInt = -1 := rfl
      have kc1 := (zc_lt c10)
      have : (0 : Int32).toInt = 0 := rfl
      exact g_ireturn r dX6_load_25 rfl (fun _ h => ⟨_, Or.inr ⟨fun q => by have q := zlok2.mp q; have q1 := q.1; have q2 := q.2; omega, rfl, rfl⟩, h⟩)
    · have h12 : zI 0 2147483647 p1 := zr_le2 (zc_nlt c10) (zi_c 0 (a := 0) (b := 0) (by decide)) (zi_full p1) (by decide)
      refine g_iload_n (pc := 14) C dX6_load_14 rfl 3 rfl ?_
      refine g_iload_n (pc := 15) C dX6_load_15 rfl 0 rfl ?_
      refine g_aload_n (pc := 16) C dX6_load_16 rfl 1 rfl ?_
      refine gc_0_6 (pc := 17) C wk_269 dX6_load_17 ?_
      refine g_isub (pc := 20) C dX6_load_20 (fun z13 ez13 => ?_)
      have hz13 : zI 15384 16384 z13 := zi_sub hr7 htl ez13 (by decide)
      refine g_icmp_le (pc := 21) C 26 dX6_load_21 (by decide) (fun c14 => ?_) (fun c14 => ?_)
      · have h15 : zI 0 16384 p1 := zr_le1 (zc_le c14) h12 hz13 (by decide)
        refine g_aload_n (pc := 26) C dX6_load_26 rfl 1 rfl ?_
        refine gc_0_6 (pc := 27) C wk_269 dX6_load_27 ?_
        refine g_istore (pc := 30) C ([(4, .int tl), (3, .int r7), (0, .ref (ad 0)), (1, .int 2), (2, .int p1)]) dX6_load_30 (Nat.le_of_ble_eq_true rfl) rfl ?_
        refine g_iconst (pc := 32) C 0 dX6_load_32 (by decide) ?_
        refine g_istore (pc := 33) C ([(5, .int 0), (4, .int tl), (3, .int r7), (0, .ref (ad 0)), (1, .int 2), (2, .int p1)]) dX6_load_33 (Nat.le_of_ble_eq_true rfl) rfl ?_
        have : ((-1) : Int32).toInt = -1 := rfl
        have kc1 := (zc_nlt c10)
        have : (0 : Int32).toInt = 0 := rfl
        have kc2 := (zc_le c14)
        have kq2 := zsubE hr7 htl ez13 (by decide)
        have k16 : zI 0 (16384 - tl.toInt) p1 := ⟨by omega, by omega⟩
        exact g_sub [3, 4, 5, 2, 1, 0] rfl (J35 (1000 - (0 : Int32).toInt).toNat r7 0 h15 hr7 (zi_c 0 (a := 0) (b := 1000) (by decide)) k16 rfl)
      · have h17 : zI 15385 2147483647 p1 := zr_lt2 (zc_nle c14) hz13 h12 (by decide)
        refine g_iconst (pc := 24) C (-1) dX6_load_24 (by decide) ?_
        have : ((-1) : Int32).toInt = -1 := rfl
        have kc1 := (zc_nlt c10)
        have : (0 : Int32).toInt = 0 := rfl
        have kc2 := (zc_nle c14)
        have kq2 := zsubE hr7 htl ez13 (by decide)
        exact g_ireturn r dX6_load_25 rfl (fun _ h => ⟨_, Or.inr ⟨fun q => by have q := zlok2.mp q; have q1 := q.1; have q2 := q.2; omega, rfl, rfl⟩, h⟩)

set_option maxHeartbeats 2000000 in
set_option maxRecDepth 100000 in
theorem n_X6_sizeOfArea3 (l : Launch) (D : va_G) (ad : Nat → Nat) (cy : Nat → ClassId) (tl : Int32) (A : Nat → Prop) : zMi l yX6_sizeOfArea wz_X6_sizeOfArea ({ frames := 0, cells := 0, slots := 0, locals := 0 }) [.int 3] D (zTc cy) A (zMc D A ad cy tl) (fun r H => zI 8192 8192 r ∧ (zMc D A ad cy tl) H) := by
  refine zstart_i (cc := cX6_sizeOfArea) (maxL := 1) (ty := .int) (own := RX6) (by decide) rfl rfl (Nat.le_of_ble_eq_true rfl) (fun p e s m args below meth c Q C r => ?_)
  refine g_sub (lv' := [(0, .int 3)]) [0] rfl ?_
  refine g_iload_n (pc := 0) C dX6_sizeOfArea_0 rfl 0 rfl ?_
  refine g_tableI (pc := 1) C 3 0 (zi_w (zi_c 3 (a := 3) (b := 3) (by decide)) (a' := 3) (b' := 3 + (0 : Nat)) (by decide)) [43] dX6_sizeOfArea_1 (by decide) (by decide) (by decide) (List.forall_mem_cons.mpr ⟨?_, fun _ h => absurd h List.not_mem_nil⟩)
  · refine g_sipush (pc := 43) C 8192 dX6_sizeOfArea_43 (by decide) ?_
    exact g_ireturn r dX6_sizeOfArea_46 rfl (fun _ h => ⟨(zi_c 8192 (a := 8192) (b := 8192) (by decide)), h⟩)

set_option maxHeartbeats 2000000 in
set_option maxRecDepth 100000 in
theorem n_X6_load3 (l : Launch) (D : va_G) (ad : Nat → Nat) (cy : Nat → ClassId) (tl : Int32) (A : Nat → Prop) (p1 : Int32) (htl : zI 0 1000 tl) : zMi l yX6_load wz_X6_load ({ frames := 4, cells := 0, slots := 0, locals := 96 }) [.ref (ad 0), .int 3, .int p1] D (zTc cy) A (zMc D A ad cy tl) (fun r H => ∃ t, zload tl 3 p1 r t ∧ zMc D A ad cy t H) := by
  refine zstart_i (cc := cX6_load) (maxL := 6) (ty := .int) (own := RX6) (by decide) rfl rfl (Nat.le_of_ble_eq_true rfl) (fun p e s m args below meth c Q C r => ?_)
  have J35 : ∀ (n : Nat) (a3_35 : Int32) (a5_35 : Int32) (_ : zI 0 8192 p1) (_ : zI 8192 8192 a3_35) (_ : zI 0 1000 a5_35) (_ : zI 0 (8192 - tl.toInt) p1) (_ : (1000 - (a5_35 : Int32).toInt).toNat = n), zG p l e ({ frames := 4, cells := 0, slots := 0, locals := 96 }) s m args below meth c 6 0 0 A Q (zMc D A ad cy tl) 35 [(0, .ref (ad 0)), (1, .int 3), (2, .int p1), (3, .int a3_35), (4, .int tl), (5, .int a5_35)] [] := by
    intro n
    induction n using Nat.strongRecOn with
    | ind n ih =>
      intro a3_35 a5_35 hc_a2_35 ha3_35 ha5_35 hok hn
      refine g_iload (pc := 35) C dX6_load_35 5 rfl ?_
      refine g_iload (pc := 37) C dX6_load_37 4 rfl ?_
      refine g_icmp_ge (pc := 39) C 66 dX6_load_39 (by decide) (fun c1 => ?_) (fun c1 => ?_)
      · refine g_aload_n (pc := 66) C dX6_load_66 rfl 0 rfl ?_
        refine g_iconst (pc := 67) C 0 dX6_load_67 (by decide) ?_
        refine pc_0_6 (pc := 68) C wk_269 dX6_load_68 ?_
        refine g_iload (pc := 71) C dX6_load_71 4 rfl ?_
        exact g_ireturn r dX6_load_73 rfl (fun _ h => ⟨_, Or.inl ⟨zlok3.mpr hok, rfl, rfl⟩, h⟩)
      · have h2 : zI 0 999 a5_35 := zr_lt1 (zc_nle c1) ha5_35 htl (by decide)
        have h3 : zI 1 1000 tl := zr_lt2 (zc_nle c1) ha5_35 htl (by decide)
        refine g_aload_n (pc := 42) C dX6_load_42 rfl 0 rfl ?_
        refine g_iload_n (pc := 43) C dX6_load_43 rfl 1 rfl ?_
        refine g_iload_n (pc := 44) C dX6_load_44 rfl 2 rfl ?_
        refine g_iload (pc := 45) C dX6_load_45 5 rfl ?_
        refine g_iadd (pc := 47) C dX6_load_47 (fun z4 ez4 => ?_)
        have hz4 : zI 0 9191 z4 := zi_add hc_a2_35 h2 ez4 (by decide)
        refine g_aload_n (pc := 48) C dX6_load_48 rfl 0 rfl ?_
        refine gc_0_0 (pc := 49) C wk_263 dX6_load_49 ?_
        refine g_iload (pc := 52) C dX6_load_52 5 rfl ?_
        refine zcallVi (pc := 54) (st := [.int z4, .int 3, .ref (ad 0)]) C C.2.2.2.2.2 (n_X0_get_tb l D ad cy tl A a5_35) (cwV 1 C.2.2.2.2.1 gw_RX6_74 rfl rfl rfl cd_X0_get ⟨Nat.le_of_ble_eq_true rfl, Nat.le_of_ble_eq_true rfl⟩) (hc_1 C) rfl rfl (Nat.le_of_ble_eq_true rfl) ⟨Nat.le_of_ble_eq_true rfl, Nat.le_of_ble_eq_true rfl⟩ dX6_load_54 (fun r5 => ?_)
        refine g_and (M2 := (zMc D A ad cy tl)) (fun hr5 => ?_)
        refine zcallVv (pc := 57) (st := []) C C.2.2.2.2.2 (n_X6_putInArea l D ad cy tl A 3 z4 r5) (cwV 3 C.2.2.2.2.1 gw_RX6_77 rfl rfl rfl cd_X6_putInArea ⟨Nat.le_of_ble_eq_true rfl, Nat.le_of_ble_eq_true rfl⟩) (hc_0 C) rfl rfl (Nat.le_of_ble_eq_true rfl) ⟨Nat.le_of_ble_eq_true rfl, Nat.le_of_ble_eq_true rfl⟩ dX6_load_57 ?_
        obtain ⟨z6, ez6⟩ : ∃ z : Int32, z = a5_35 + 1 := ⟨_, rfl⟩
        have hz6 : zI 1 1000 z6 := zi_add h2 (zi_c 1 (a := 1) (b := 1) (by decide)) ez6 (by decide)
        refine g_iinc (pc := 60) C z6 ([(5, .int z6), (0, .ref (ad 0)), (1, .int 3), (2, .int p1), (3, .int a3_35), (4, .int tl)]) dX6_load_60 5 rfl (by rw [ez6]; rfl) (Nat.le_of_ble_eq_true rfl) rfl ?_
        refine g_goto (pc := 63) C 35 dX6_load_63 (by decide) ?_
        exact g_sub [1, 2, 3, 4, 5, 0] rfl (ih (1000 - (z6 : Int32).toInt).toNat (by rw [← hn]; exact zdec ez6 h2 (by decide) (zi_w hz6 (a' := 0) (b' := 1000) (by decide))) a3_35 z6 hc_a2_35 ha3_35 (zi_w hz6 (a' := 0) (b' := 1000) (by decide)) hok rfl)
  refine g_sub (lv' := [(0, .ref (ad 0)), (1, .int 3), (2, .int p1)]) [0, 1, 2] rfl ?_
  refine g_iload_n (pc := 0) C dX6_load_0 rfl 1 rfl ?_
  refine zcallSi (pc := 1) (st := []) C C.2.2.2.2.2 (n_X6_sizeOfArea3 l D ad cy tl A ) (va_cwS 1 C.2.2.2.2.1 gw_RX6_70 rfl rfl rfl cs_X6_sizeOfArea ⟨Nat.le_of_ble_eq_true rfl, Nat.le_of_ble_eq_true rfl⟩) rfl rfl (Nat.le_of_ble_eq_true rfl) ⟨Nat.le_of_ble_eq_true rfl, Nat.le_of_ble_eq_true rfl⟩ dX6_load_1 (fun r7 => ?_)
  refine g_and (M2 := (zMc D A ad cy tl)) (fun hr7 => ?_)
  refine g_istore_n (pc := 4) C ([(3, .int r7), (0, .ref (ad 0)), (1, .int 3), (2, .int p1)]) dX6_load_4 rfl (Nat.le_of_ble_eq_true rfl) rfl ?_
  refine g_iload_n (pc := 5) C dX6_load_5 rfl 0 rfl ?_
  refine g_iconst (pc := 6) C (-1) dX6_load_6 (by decide) ?_
  refine g_icmp_eq (pc := 7) C 24 dX6_load_7 (by decide) (fun c8 => ?_) (fun c8 => ?_)
  · have h9 : zI 8192 (-1) r7 := zr_eq c8 hr7 (zi_c (-1) (a := (-1)) (b := (-1)) (by decide)) (by decide)
    exact zi_no h9 (by decide)
  · refine g_iload_n (pc := 10) C dX6_load_10 rfl 3 rfl ?_
    refine g_if_lt (pc := 11) C 24 dX6_load_11 (by decide) (fun c10 => ?_) (fun c10 => ?_)
    · have h11 : zI (-2147483648) (-1) p1 := zr_lt1 (zc_lt c10) (zi_full p1) (zi_c 0 (a := 0) (b := 0) (by decide)) (by decide)
      refine g_iconst (pc := 24) C (-1) dX6_load_24 (by decide) ?_
      have : ((-1) : Int32).toInt = -1 := rfl
      have kc1 := (zc_lt c10)
      have : (0 : Int32).toInt = 0 := rfl
      exact g_ireturn r dX6_load_25 rfl (fun _ h => ⟨_, Or.inr ⟨fun q => by have q := zlok3.mp q; have q1 := q.1; have q2 := q.2; omega, rfl, rfl⟩, h⟩)
    · have h12 : zI 0 2147483647 p1 := zr_le2 (zc_nlt c10) (zi_c 0 (a := 0) (b := 0) (by decide)) (zi_full p1) (by decide)
      refine g_iload_n (pc := 14) C dX6_load_14 rfl 3 rfl ?_
      refine g_iload_n (pc := 15) C dX6_load_15 rfl 0 rfl ?_
      refine g_aload_n (pc := 16) C dX6_load_16 rfl 1 rfl ?_
      refine gc_0_6 (pc := 17) C wk_269 dX6_load_17 ?_
      refine g_isub (pc := 20) C dX6_load_20 (fun z13 ez13 => ?_)
      have hz13 : zI 7192 8192 z13 := zi_sub hr7 htl ez13 (by decide)
      refine g_icmp_le (pc := 21) C 26 dX6_load_21 (by decide) (fun c14 => ?_) (fun c14 => ?_)
      · have h15 : zI 0 8192 p1 := zr_le1 (zc_le c14) h12 hz13 (by decide)
        refine g_aload_n (pc := 26) C dX6_load_26 rfl 1 rfl ?_
        refine gc_0_6 (pc := 27) C wk_269 dX6_load_27 ?_
        refine g_istore (pc := 30) C ([(4, .int tl), (3, .int r7), (0, .ref (ad 0)), (1, .int 3), (2, .int p1)]) dX6_load_30 (Nat.le_of_ble_eq_true rfl) rfl ?_
        refine g_iconst (pc := 32) C 0 dX6_load_32 (by decide) ?_
        refine g_istore (pc := 33) C ([(5, .int 0), (4, .int tl), (3, .int r7), (0, .ref (ad 0)), (1, .int 3), (2, .int p1)]) dX6_load_33 (Nat.le_of_ble_eq_true rfl) rfl ?_
        have : ((-1) : Int32).toInt = -1 := rfl
        have kc1 := (zc_nlt c10)
        have : (0 : Int32).toInt = 0 := rfl
        have kc2 := (zc_le c14)
        have kq2 := zsubE hr7 htl ez13 (by decide)
        have k16 : zI 0 (8192 - tl.toInt) p1 := ⟨by omega, by omega⟩
        exact g_sub [3, 4, 5, 2, 1, 0] rfl (J35 (1000 - (0 : Int32).toInt).toNat r7 0 h15 hr7 (zi_c 0 (a := 0) (b := 1000) (by decide)) k16 rfl)
      · have h17 : zI 7193 2147483647 p1 := zr_lt2 (zc_nle c14) hz13 h12 (by decide)
        refine g_iconst (pc := 24) C (-1) dX6_load_24 (by decide) ?_
        have : ((-1) : Int32).toInt = -1 := rfl
        have kc1 := (zc_nlt c10)
        have : (0 : Int32).toInt = 0 := rfl
        have kc2 := (zc_nle c14)
        have kq2 := zsubE hr7 htl ez13 (by decide)
        exact g_ireturn r dX6_load_25 rfl (fun _ h => ⟨_, Or.inr ⟨fun q => by have q := zlok3.mp q; have q1 := q.1; have q2 := q.2; omega, rfl, rfl⟩, h⟩)

set_option maxHeartbeats 2000000 in
set_option maxRecDepth 100000 in
theorem n_X6_sizeOfAreaH (l : Launch) (D : va_G) (ad : Nat → Nat) (cy : Nat → ClassId) (tl : Int32) (A : Nat → Prop) (p0 : Int32) (hp0 : zI 4 2147483647 p0) : zMi l yX6_sizeOfArea wz_X6_sizeOfArea ({ frames := 0, cells := 0, slots := 0, locals := 0 }) [.int p0] D (zTc cy) A (zMc D A ad cy tl) (fun r H => zI (-1) (-1) r ∧ (zMc D A ad cy tl) H) := by
  refine zstart_i (cc := cX6_sizeOfArea) (maxL := 1) (ty := .int) (own := RX6) (by decide) rfl rfl (Nat.le_of_ble_eq_true rfl) (fun p e s m args below meth c Q C r => ?_)
  refine g_sub (lv' := [(0, .int p0)]) [0] rfl ?_
  refine g_iload_n (pc := 0) C dX6_sizeOfArea_0 rfl 0 rfl ?_
  refine g_tableO (pc := 1) C hp0 (by decide) 47 dX6_sizeOfArea_1 (by decide) ?_
  refine g_iconst (pc := 47) C (-1) dX6_sizeOfArea_47 (by decide) ?_
  exact g_ireturn r dX6_sizeOfArea_48 rfl (fun _ h => ⟨(zi_c (-1) (a := (-1)) (b := (-1)) (by decide)), h⟩)

set_option maxHeartbeats 2000000 in
set_option maxRecDepth 100000 in
theorem n_X6_loadH (l : Launch) (D : va_G) (ad : Nat → Nat) (cy : Nat → ClassId) (tl : Int32) (A : Nat → Prop) (p0 : Int32) (p1 : Int32) (htl : zI 0 1000 tl) (hp0 : zI 4 2147483647 p0) : zMi l yX6_load wz_X6_load ({ frames := 4, cells := 0, slots := 0, locals := 96 }) [.ref (ad 0), .int p0, .int p1] D (zTc cy) A (zMc D A ad cy tl) (fun r H => ∃ t, zload tl p0 p1 r t ∧ zMc D A ad cy t H) := by
  refine zstart_i (cc := cX6_load) (maxL := 6) (ty := .int) (own := RX6) (by decide) rfl rfl (Nat.le_of_ble_eq_true rfl) (fun p e s m args below meth c Q C r => ?_)
  refine g_sub (lv' := [(0, .ref (ad 0)), (1, .int p0), (2, .int p1)]) [0, 1, 2] rfl ?_
  refine g_iload_n (pc := 0) C dX6_load_0 rfl 1 rfl ?_
  refine zcallSi (pc := 1) (st := []) C C.2.2.2.2.2 (n_X6_sizeOfAreaH l D ad cy tl A p0 hp0) (va_cwS 1 C.2.2.2.2.1 gw_RX6_70 rfl rfl rfl cs_X6_sizeOfArea ⟨Nat.le_of_ble_eq_true rfl, Nat.le_of_ble_eq_true rfl⟩) rfl rfl (Nat.le_of_ble_eq_true rfl) ⟨Nat.le_of_ble_eq_true rfl, Nat.le_of_ble_eq_true rfl⟩ dX6_load_1 (fun r1 => ?_)
  refine g_and (M2 := (zMc D A ad cy tl)) (fun hr1 => ?_)
  refine g_istore_n (pc := 4) C ([(3, .int r1), (0, .ref (ad 0)), (1, .int p0), (2, .int p1)]) dX6_load_4 rfl (Nat.le_of_ble_eq_true rfl) rfl ?_
  refine g_iload_n (pc := 5) C dX6_load_5 rfl 0 rfl ?_
  refine g_iconst (pc := 6) C (-1) dX6_load_6 (by decide) ?_
  refine g_icmp_eq (pc := 7) C 24 dX6_load_7 (by decide) (fun c2 => ?_) (fun c2 => ?_)
  · refine g_iconst (pc := 24) C (-1) dX6_load_24 (by decide) ?_
    exact g_ireturn r dX6_load_25 rfl (fun _ h => ⟨_, Or.inr ⟨zlokH hp0.1, rfl, rfl⟩, h⟩)
  · have h3 : zI 0 (-1) r1 := zr_neL c2 hr1 (zi_c (-1) (a := (-1)) (b := (-1)) (by decide)) (by decide)
    exact zi_no h3 (by decide)

set_option maxHeartbeats 2000000 in
set_option maxRecDepth 100000 in
theorem n_X6_reset (l : Launch) (D : va_G) (ad : Nat → Nat) (cy : Nat → ClassId) (tl : Int32) (A : Nat → Prop) : zMv l yX6_reset wz_X6_reset ({ frames := 5, cells := 0, slots := 0, locals := 108 }) [.ref (ad 0)] D (zTc cy) A (zMc D A ad cy tl) (zMc D A ad cy tl) := by
  refine zstart_v (cc := cX6_reset) (maxL := 1) (own := RX6) (by decide) rfl rfl (Nat.le_of_ble_eq_true rfl) (fun p e s m args below meth c Q C r => ?_)
  refine g_sub (lv' := [(0, .ref (ad 0))]) [0] rfl ?_
  refine g_aload_n (pc := 0) C dX6_reset_0 rfl 0 rfl ?_
  refine gc_0_5 (pc := 1) C wk_268 dX6_reset_1 ?_
  refine zcallVv (pc := 4) (st := []) C C.2.2.2.2.2 (n_X4_restart l D ad cy tl A ) (cwV 0 C.2.2.2.2.1 gw_RX6_92 rfl rfl rfl cd_X4_restart ⟨Nat.le_of_ble_eq_true rfl, Nat.le_of_ble_eq_true rfl⟩) (hc_19 C) rfl rfl (Nat.le_of_ble_eq_true rfl) ⟨Nat.le_of_ble_eq_true rfl, Nat.le_of_ble_eq_true rfl⟩ dX6_reset_4 ?_
  exact g_return r dX6_reset_7 (fun _ h => h)

set_option maxHeartbeats 2000000 in
set_option maxRecDepth 100000 in
theorem n_X6_runA (l : Launch) (D : va_G) (ad : Nat → Nat) (cy : Nat → ClassId) (tl : Int32) (A : Nat → Prop) (p0 : Int32) (hp0 : zI 0 2000 p0) : zMi l yX6_run wz_X6_run ({ frames := 7, cells := 0, slots := 0, locals := 169 }) [.ref (ad 0), .int p0] D (zTc cy) A (zMc D A ad cy tl) (fun _ => (zMc D A ad cy tl)) := by
  refine zstart_i (cc := cX6_run) (maxL := 3) (ty := .int) (own := RX6) (by decide) rfl rfl (Nat.le_of_ble_eq_true rfl) (fun p e s m args below meth c Q C r => ?_)
  have J23 : ∀ (n : Nat) (a2_23 : Int32) (_ : zI 0 2000 a2_23) (_ : (2000 - (a2_23 : Int32).toInt).toNat = n), zG p l e ({ frames := 7, cells := 0, slots := 0, locals := 169 }) s m args below meth c 3 0 0 A Q (zMc D A ad cy tl) 23 [(0, .ref (ad 0)), (1, .int p0), (2, .int a2_23)] [] := by
    intro n
    induction n using Nat.strongRecOn with
    | ind n ih =>
      intro a2_23 ha2_23 hn
      refine g_iload_n (pc := 23) C dX6_run_23 rfl 2 rfl ?_
      refine g_iload_n (pc := 24) C dX6_run_24 rfl 1 rfl ?_
      refine g_icmp_ge (pc := 25) C 53 dX6_run_25 (by decide) (fun c1 => ?_) (fun c1 => ?_)
      · refine g_iload_n (pc := 53) C dX6_run_53 rfl 1 rfl ?_
        exact g_ireturn r dX6_run_54 rfl (fun _ h => h)
      · have h2 : zI 0 1999 a2_23 := zr_lt1 (zc_nle c1) ha2_23 hp0 (by decide)
        have h3 : zI 1 2000 p0 := zr_lt2 (zc_nle c1) ha2_23 hp0 (by decide)
        refine g_aload_n (pc := 28) C dX6_run_28 rfl 0 rfl ?_
        refine gc_0_5 (pc := 29) C wk_268 dX6_run_29 ?_
        refine zcallVi (pc := 32) (st := []) C C.2.2.2.2.2 (n_X4_fetch l D ad cy tl A ) (cwV 0 C.2.2.2.2.1 gw_RX6_102 rfl rfl rfl cd_X4_fetch ⟨Nat.le_of_ble_eq_true rfl, Nat.le_of_ble_eq_true rfl⟩) (hc_19 C) rfl rfl (Nat.le_of_ble_eq_true rfl) ⟨Nat.le_of_ble_eq_true rfl, Nat.le_of_ble_eq_true rfl⟩ dX6_run_32 (fun r4 => ?_)
        refine g_and (M2 := (zMc D A ad cy tl)) (fun hr4 => ?_)
        refine g_if_ne (pc := 35) C 40 dX6_run_35 (by decide) (fun c5 => ?_) (fun c5 => ?_)
        · have h6 : zI 1 1 r4 := zr_neL c5 hr4 (zi_c 0 (a := 0) (b := 0) (by decide)) (by decide)
          refine g_aload_n (pc := 40) C dX6_run_40 rfl 0 rfl ?_
          refine gc_0_5 (pc := 41) C wk_268 dX6_run_41 ?_
          refine zcallVv (pc := 44) (st := []) C C.2.2.2.2.2 (n_X4_perform l D ad cy tl A ) (cwV 0 C.2.2.2.2.1 gw_RX6_106 rfl rfl rfl cd_X4_perform ⟨Nat.le_of_ble_eq_true rfl, Nat.le_of_ble_eq_true rfl⟩) (hc_19 C) rfl rfl (Nat.le_of_ble_eq_true rfl) ⟨Nat.le_of_ble_eq_true rfl, Nat.le_of_ble_eq_true rfl⟩ dX6_run_44 ?_
          obtain ⟨z7, ez7⟩ : ∃ z : Int32, z = a2_23 + 1 := ⟨_, rfl⟩
          have hz7 : zI 1 2000 z7 := zi_add h2 (zi_c 1 (a := 1) (b := 1) (by decide)) ez7 (by decide)
          refine g_iinc (pc := 47) C z7 ([(2, .int z7), (0, .ref (ad 0)), (1, .int p0)]) dX6_run_47 2 rfl (by rw [ez7]; rfl) (Nat.le_of_ble_eq_true rfl) rfl ?_
          refine g_goto (pc := 50) C 23 dX6_run_50 (by decide) ?_
          exact g_sub [1, 2, 0] rfl (ih (2000 - (z7 : Int32).toInt).toNat (by rw [← hn]; exact zdec ez7 h2 (by decide) (zi_w hz7 (a' := 0) (b' := 2000) (by decide))) z7 (zi_w hz7 (a' := 0) (b' := 2000) (by decide)) rfl)
        · have h8 : zI 0 0 r4 := zr_eq c5 hr4 (zi_c 0 (a := 0) (b := 0) (by decide)) (by decide)
          refine g_iload_n (pc := 38) C dX6_run_38 rfl 2 rfl ?_
          exact g_ireturn r dX6_run_39 rfl (fun _ h => h)
  refine g_sub (lv' := [(0, .ref (ad 0)), (1, .int p0)]) [0, 1] rfl ?_
  refine g_iload_n (pc := 0) C dX6_run_0 rfl 1 rfl ?_
  refine g_if_lt (pc := 1) C 11 dX6_run_1 (by decide) (fun c9 => ?_) (fun c9 => ?_)
  · have h10 : zI 0 (-1) p0 := zr_lt1 (zc_lt c9) hp0 (zi_c 0 (a := 0) (b := 0) (by decide)) (by decide)
    exact zi_no h10 (by decide)
  · refine g_iload_n (pc := 4) C dX6_run_4 rfl 1 rfl ?_
    refine g_sipush (pc := 5) C 2000 dX6_run_5 (by decide) ?_
    refine g_icmp_le (pc := 8) C 21 dX6_run_8 (by decide) (fun c11 => ?_) (fun c11 => ?_)
    · refine g_iconst (pc := 21) C 0 dX6_run_21 (by decide) ?_
      refine g_istore_n (pc := 22) C ([(2, .int 0), (0, .ref (ad 0)), (1, .int p0)]) dX6_run_22 rfl (Nat.le_of_ble_eq_true rfl) rfl ?_
      exact g_sub [1, 2, 0] rfl (J23 (2000 - (0 : Int32).toInt).toNat 0 (zi_c 0 (a := 0) (b := 2000) (by decide)) rfl)
    · have h12 : zI 2001 2000 p0 := zr_lt2 (zc_nle c11) (zi_c 2000 (a := 2000) (b := 2000) (by decide)) hp0 (by decide)
      exact zi_no h12 (by decide)

set_option maxHeartbeats 2000000 in
set_option maxRecDepth 100000 in
theorem n_X6_state (l : Launch) (D : va_G) (ad : Nat → Nat) (cy : Nat → ClassId) (tl : Int32) (A : Nat → Prop) (p0 : Int32) : zMi l yX6_state wz_X6_state ({ frames := 4, cells := 0, slots := 0, locals := 88 }) [.ref (ad 0), .int p0] D (zTc cy) A (zMc D A ad cy tl) (fun _ => (zMc D A ad cy tl)) := by
  refine zstart_i (cc := cX6_state) (maxL := 2) (ty := .int) (own := RX6) (by decide) rfl rfl (Nat.le_of_ble_eq_true rfl) (fun p e s m args below meth c Q C r => ?_)
  have J100 : zG p l e ({ frames := 4, cells := 0, slots := 0, locals := 88 }) s m args below meth c 2 0 0 A Q (zMc D A ad cy tl) 100 [(0, .ref (ad 0)), (1, .int p0)] [] := by
    refine g_iconst (pc := 100) C (-1) dX6_state_100 (by decide) ?_
    exact g_ireturn r dX6_state_101 rfl (fun _ h => h)
  refine g_sub (lv' := [(0, .ref (ad 0)), (1, .int p0)]) [0, 1] rfl ?_
  refine g_iload_n (pc := 0) C dX6_state_0 rfl 1 rfl ?_
  refine g_table (pc := 1) C [88, 40, 48, 56, 64, 72, 80] dX6_state_1 (by decide) (by decide) (by decide) (List.forall_mem_cons.mpr ⟨?_, (List.forall_mem_cons.mpr ⟨?_, (List.forall_mem_cons.mpr ⟨?_, (List.forall_mem_cons.mpr ⟨?_, (List.forall_mem_cons.mpr ⟨?_, (List.forall_mem_cons.mpr ⟨?_, (List.forall_mem_cons.mpr ⟨?_, fun _ h => absurd h List.not_mem_nil⟩)⟩)⟩)⟩)⟩)⟩)⟩)
  · refine g_iload_n (pc := 88) C dX6_state_88 rfl 1 rfl ?_
    refine g_bipush (pc := 89) C 16 dX6_state_89 (by decide) ?_
    refine g_icmp_lt (pc := 91) C 100 dX6_state_91 (by decide) (fun c1 => ?_) (fun c1 => ?_)
    · have h2 : zI (-2147483648) 15 p0 := zr_lt1 (zc_lt c1) (zi_full p0) (zi_c 16 (a := 16) (b := 16) (by decide)) (by decide)
      exact g_sub [0, 1] rfl (J100 )
    · have h3 : zI 16 2147483647 p0 := zr_le2 (zc_nlt c1) (zi_c 16 (a := 16) (b := 16) (by decide)) (zi_full p0) (by decide)
      refine g_iload_n (pc := 94) C dX6_state_94 rfl 1 rfl ?_
      refine g_bipush (pc := 95) C 31 dX6_state_95 (by decide) ?_
      refine g_icmp_le (pc := 97) C 102 dX6_state_97 (by decide) (fun c4 => ?_) (fun c4 => ?_)
      · have h5 : zI 16 31 p0 := zr_le1 (zc_le c4) h3 (zi_c 31 (a := 31) (b := 31) (by decide)) (by decide)
        refine g_aload_n (pc := 102) C dX6_state_102 rfl 0 rfl ?_
        refine gc_0_4 (pc := 103) C wk_267 dX6_state_103 ?_
        refine g_aload_n (pc := 106) C dX6_state_106 rfl 0 rfl ?_
        refine gc_0_5 (pc := 107) C wk_268 dX6_state_107 ?_
        refine gc_19_4 (pc := 110) C wk_225 dX6_state_110 (fun z6 => ?_)
        refine g_iconst (pc := 113) C 2 dX6_state_113 (by decide) ?_
        refine g_iload_n (pc := 114) C dX6_state_114 rfl 1 rfl ?_
        refine g_bipush (pc := 115) C 16 dX6_state_115 (by decide) ?_
        refine g_isub (pc := 117) C dX6_state_117 (fun z7 ez7 => ?_)
        have hz7 : zI 0 15 z7 := zi_sub h5 (zi_c 16 (a := 16) (b := 16) (by decide)) ez7 (by decide)
        refine g_imul (pc := 118) C dX6_state_118 (fun z8 ez8 => ?_)
        have hz8 : zI 0 30 z8 := zi_mul (zi_c 2 (a := 2) (b := 2) (by decide)) hz7 ez8 (by decide)
        refine g_iadd (pc := 119) C dX6_state_119 (fun z9 ez9 => ?_)
        refine zcallVi (pc := 120) (st := []) C C.2.2.2.2.2 (n_X2_wordAt l D ad cy tl A z9) (cwV 1 C.2.2.2.2.1 gw_RX6_127 rfl rfl rfl cd_X2_wordAt ⟨Nat.le_of_ble_eq_true rfl, Nat.le_of_ble_eq_true rfl⟩) (hc_12 C) rfl rfl (Nat.le_of_ble_eq_true rfl) ⟨Nat.le_of_ble_eq_true rfl, Nat.le_of_ble_eq_true rfl⟩ dX6_state_120 (fun r10 => ?_)
        exact g_ireturn r dX6_state_123 rfl (fun _ h => h)
      · have h11 : zI 32 2147483647 p0 := zr_lt2 (zc_nle c4) (zi_c 31 (a := 31) (b := 31) (by decide)) h3 (by decide)
        exact g_sub [0, 1] rfl (J100 )
  · refine g_aload_n (pc := 40) C dX6_state_40 rfl 0 rfl ?_
    refine gc_0_5 (pc := 41) C wk_268 dX6_state_41 ?_
    refine gc_19_3 (pc := 44) C wk_223 dX6_state_44 (fun z12 => ?_)
    exact g_ireturn r dX6_state_47 rfl (fun _ h => h)
  · refine g_aload_n (pc := 48) C dX6_state_48 rfl 0 rfl ?_
    refine gc_0_5 (pc := 49) C wk_268 dX6_state_49 ?_
    refine gc_19_4 (pc := 52) C wk_225 dX6_state_52 (fun z13 => ?_)
    exact g_ireturn r dX6_state_55 rfl (fun _ h => h)
  · refine g_aload_n (pc := 56) C dX6_state_56 rfl 0 rfl ?_
    refine gc_0_5 (pc := 57) C wk_268 dX6_state_57 ?_
    refine gc_19_5 (pc := 60) C wk_227 dX6_state_60 (fun z14 => ?_)
    exact g_ireturn r dX6_state_63 rfl (fun _ h => h)
  · refine g_aload_n (pc := 64) C dX6_state_64 rfl 0 rfl ?_
    refine gc_0_5 (pc := 65) C wk_268 dX6_state_65 ?_
    refine gc_19_6 (pc := 68) C wk_229 dX6_state_68 (fun z15 => ?_)
    exact g_ireturn r dX6_state_71 rfl (fun _ h => h)
  · refine g_aload_n (pc := 72) C dX6_state_72 rfl 0 rfl ?_
    refine gc_0_5 (pc := 73) C wk_268 dX6_state_73 ?_
    refine gc_19_7 (pc := 76) C wk_231 dX6_state_76 (fun z16 => ?_)
    exact g_ireturn r dX6_state_79 rfl (fun _ h => h)
  · refine g_aload_n (pc := 80) C dX6_state_80 rfl 0 rfl ?_
    refine gc_0_5 (pc := 81) C wk_268 dX6_state_81 ?_
    refine gc_19_8 (pc := 84) C wk_233 dX6_state_84 (fun z17 => ?_)
    exact g_ireturn r dX6_state_87 rfl (fun _ h => h)

set_option maxHeartbeats 2000000 in
set_option maxRecDepth 100000 in
theorem n_X6_peek (l : Launch) (D : va_G) (ad : Nat → Nat) (cy : Nat → ClassId) (tl : Int32) (A : Nat → Prop) (p0 : Int32) : zMi l yX6_peek wz_X6_peek ({ frames := 2, cells := 0, slots := 0, locals := 43 }) [.ref (ad 0), .int p0] D (zTc cy) A (zMc D A ad cy tl) (fun _ => (zMc D A ad cy tl)) := by
  refine zstart_i (cc := cX6_peek) (maxL := 2) (ty := .int) (own := RX6) (by decide) rfl rfl (Nat.le_of_ble_eq_true rfl) (fun p e s m args below meth c Q C r => ?_)
  have J10 : zG p l e ({ frames := 2, cells := 0, slots := 0, locals := 43 }) s m args below meth c 2 0 0 A Q (zMc D A ad cy tl) 10 [(0, .ref (ad 0)), (1, .int p0)] [] := by
    refine g_iconst (pc := 10) C (-1) dX6_peek_10 (by decide) ?_
    exact g_ireturn r dX6_peek_11 rfl (fun _ h => h)
  refine g_sub (lv' := [(0, .ref (ad 0)), (1, .int p0)]) [0, 1] rfl ?_
  refine g_iload_n (pc := 0) C dX6_peek_0 rfl 1 rfl ?_
  refine g_if_lt (pc := 1) C 10 dX6_peek_1 (by decide) (fun c1 => ?_) (fun c1 => ?_)
  · have h2 : zI (-2147483648) (-1) p0 := zr_lt1 (zc_lt c1) (zi_full p0) (zi_c 0 (a := 0) (b := 0) (by decide)) (by decide)
    exact g_sub [0, 1] rfl (J10 )
  · have h3 : zI 0 2147483647 p0 := zr_le2 (zc_nlt c1) (zi_c 0 (a := 0) (b := 0) (by decide)) (zi_full p0) (by decide)
    refine g_iload_n (pc := 4) C dX6_peek_4 rfl 1 rfl ?_
    refine g_ldc (pc := 5) C dX6_peek_5 (C.wd wk_309) ?_
    refine g_icmp_lt (pc := 7) C 12 dX6_peek_7 (by decide) (fun c4 => ?_) (fun c4 => ?_)
    · have h5 : zI 0 65535 p0 := zr_lt1 (zc_lt c4) h3 (zi_c 65536 (a := 65536) (b := 65536) (by decide)) (by decide)
      refine g_aload_n (pc := 12) C dX6_peek_12 rfl 0 rfl ?_
      refine gc_0_4 (pc := 13) C wk_267 dX6_peek_13 ?_
      refine g_iload_n (pc := 16) C dX6_peek_16 rfl 1 rfl ?_
      refine zcallVi (pc := 17) (st := []) C C.2.2.2.2.2 (n_X2_storedAt l D ad cy tl A p0) (cwV 1 C.2.2.2.2.1 gw_RX6_130 rfl rfl rfl cd_X2_storedAt ⟨Nat.le_of_ble_eq_true rfl, Nat.le_of_ble_eq_true rfl⟩) (hc_12 C) rfl rfl (Nat.le_of_ble_eq_true rfl) ⟨Nat.le_of_ble_eq_true rfl, Nat.le_of_ble_eq_true rfl⟩ dX6_peek_17 (fun r6 => ?_)
      exact g_ireturn r dX6_peek_20 rfl (fun _ h => h)
    · have h7 : zI 65536 2147483647 p0 := zr_le2 (zc_nlt c4) (zi_c 65536 (a := 65536) (b := 65536) (by decide)) h3 (by decide)
      exact g_sub [0, 1] rfl (J10 )

set_option maxHeartbeats 2000000 in
set_option maxRecDepth 100000 in
theorem n_X6_setL (l : Launch) (D : va_G) (ad : Nat → Nat) (cy : Nat → ClassId) (tl : Int32) (A : Nat → Prop) (p0 : Int32) (p1 : Int32) (hp0 : zI (-2147483648) (-1) p0) : zMi l yX6_set wz_X6_set ({ frames := 0, cells := 0, slots := 0, locals := 0 }) [.ref (ad 0), .int p0, .int p1] D (zTc cy) A (zMc D A ad cy tl) (fun r H => zin 0 2 p0 r ∧ (zMc D A ad cy tl) H) := by
  refine zstart_i (cc := cX6_set) (maxL := 3) (ty := .boolean) (own := RX6) (by decide) rfl rfl (Nat.le_of_ble_eq_true rfl) (fun p e s m args below meth c Q C r => ?_)
  refine g_sub (lv' := [(0, .ref (ad 0)), (1, .int p0), (2, .int p1)]) [0, 1, 2] rfl ?_
  refine g_iload_n (pc := 0) C dX6_set_0 rfl 1 rfl ?_
  refine g_tableO (pc := 1) C hp0 (by decide) 70 dX6_set_1 (by decide) ?_
  refine g_iconst (pc := 70) C 0 dX6_set_70 (by decide) ?_
  exact g_ireturn r dX6_set_71 rfl (fun _ h => ⟨Or.inr ⟨fun q => by have q1 := q.1; have q2 := hp0.2; omega, rfl⟩, h⟩)

set_option maxHeartbeats 2000000 in
set_option maxRecDepth 100000 in
theorem n_X6_setM (l : Launch) (D : va_G) (ad : Nat → Nat) (cy : Nat → ClassId) (tl : Int32) (A : Nat → Prop) (p0 : Int32) (p1 : Int32) (hp0 : zI 0 2 p0) : zMi l yX6_set wz_X6_set ({ frames := 0, cells := 0, slots := 0, locals := 0 }) [.ref (ad 0), .int p0, .int p1] D (zTc cy) A (zMc D A ad cy tl) (fun r H => zin 0 2 p0 r ∧ (zMc D A ad cy tl) H) := by
  refine zstart_i (cc := cX6_set) (maxL := 3) (ty := .boolean) (own := RX6) (by decide) rfl rfl (Nat.le_of_ble_eq_true rfl) (fun p e s m args below meth c Q C r => ?_)
  have J72 : zG p l e ({ frames := 0, cells := 0, slots := 0, locals := 0 }) s m args below meth c 3 0 0 A Q (zMc D A ad cy tl) 72 [(0, .ref (ad 0)), (1, .int p0), (2, .int p1)] [] := by
    refine g_aload_n (pc := 72) C dX6_set_72 rfl 0 rfl ?_
    refine gc_0_5 (pc := 73) C wk_268 dX6_set_73 ?_
    refine g_iconst (pc := 76) C 0 dX6_set_76 (by decide) ?_
    refine pc_19_6 (pc := 77) C wk_229 dX6_set_77 ?_
    refine g_iconst (pc := 80) C 1 dX6_set_80 (by decide) ?_
    exact g_ireturn r dX6_set_81 rfl (fun _ h => ⟨Or.inl ⟨hp0, rfl⟩, h⟩)
  refine g_sub (lv' := [(0, .ref (ad 0)), (1, .int p0), (2, .int p1)]) [0, 1, 2] rfl ?_
  refine g_iload_n (pc := 0) C dX6_set_0 rfl 1 rfl ?_
  refine g_tableI (pc := 1) C 0 2 (zi_w hp0 (a' := 0) (b' := 0 + (2 : Nat)) (by decide)) [28, 42, 56] dX6_set_1 (by decide) (by decide) (by decide) (List.forall_mem_cons.mpr ⟨?_, (List.forall_mem_cons.mpr ⟨?_, (List.forall_mem_cons.mpr ⟨?_, fun _ h => absurd h List.not_mem_nil⟩)⟩)⟩)
  · refine g_aload_n (pc := 28) C dX6_set_28 rfl 0 rfl ?_
    refine gc_0_5 (pc := 29) C wk_268 dX6_set_29 ?_
    refine g_iload_n (pc := 32) C dX6_set_32 rfl 2 rfl ?_
    refine g_ldc (pc := 33) C dX6_set_33 (C.wd wk_399) ?_
    refine g_iand (pc := 35) C dX6_set_35 (fun z1 ez1 => ?_)
    have hz1 : zI 0 65534 z1 := zi_and1 (zi_c 65534 (a := 0) (b := 65534) (by decide)) ez1
    refine pc_19_3 (pc := 36) C wk_223 dX6_set_36 ?_
    refine g_goto (pc := 39) C 72 dX6_set_39 (by decide) ?_
    exact g_sub [0, 1, 2] rfl (J72 )
  · refine g_aload_n (pc := 42) C dX6_set_42 rfl 0 rfl ?_
    refine gc_0_5 (pc := 43) C wk_268 dX6_set_43 ?_
    refine g_iload_n (pc := 46) C dX6_set_46 rfl 2 rfl ?_
    refine g_ldc (pc := 47) C dX6_set_47 (C.wd wk_399) ?_
    refine g_iand (pc := 49) C dX6_set_49 (fun z2 ez2 => ?_)
    have hz2 : zI 0 65534 z2 := zi_and1 (zi_c 65534 (a := 0) (b := 65534) (by decide)) ez2
    refine pc_19_4 (pc := 50) C wk_225 dX6_set_50 ?_
    refine g_goto (pc := 53) C 72 dX6_set_53 (by decide) ?_
    exact g_sub [0, 1, 2] rfl (J72 )
  · refine g_aload_n (pc := 56) C dX6_set_56 rfl 0 rfl ?_
    refine gc_0_5 (pc := 57) C wk_268 dX6_set_57 ?_
    refine g_iload_n (pc := 60) C dX6_set_60 rfl 2 rfl ?_
    refine g_ldc (pc := 61) C dX6_set_61 (C.wd wk_400) ?_
    refine g_iand (pc := 63) C dX6_set_63 (fun z3 ez3 => ?_)
    have hz3 : zI 0 65039 z3 := zi_and1 (zi_c 65039 (a := 0) (b := 65039) (by decide)) ez3
    refine pc_19_5 (pc := 64) C wk_227 dX6_set_64 ?_
    refine g_goto (pc := 67) C 72 dX6_set_67 (by decide) ?_
    exact g_sub [0, 1, 2] rfl (J72 )

set_option maxHeartbeats 2000000 in
set_option maxRecDepth 100000 in
theorem n_X6_setH (l : Launch) (D : va_G) (ad : Nat → Nat) (cy : Nat → ClassId) (tl : Int32) (A : Nat → Prop) (p0 : Int32) (p1 : Int32) (hp0 : zI 3 2147483647 p0) : zMi l yX6_set wz_X6_set ({ frames := 0, cells := 0, slots := 0, locals := 0 }) [.ref (ad 0), .int p0, .int p1] D (zTc cy) A (zMc D A ad cy tl) (fun r H => zin 0 2 p0 r ∧ (zMc D A ad cy tl) H) := by
  refine zstart_i (cc := cX6_set) (maxL := 3) (ty := .boolean) (own := RX6) (by decide) rfl rfl (Nat.le_of_ble_eq_true rfl) (fun p e s m args below meth c Q C r => ?_)
  refine g_sub (lv' := [(0, .ref (ad 0)), (1, .int p0), (2, .int p1)]) [0, 1, 2] rfl ?_
  refine g_iload_n (pc := 0) C dX6_set_0 rfl 1 rfl ?_
  refine g_tableO (pc := 1) C hp0 (by decide) 70 dX6_set_1 (by decide) ?_
  refine g_iconst (pc := 70) C 0 dX6_set_70 (by decide) ?_
  exact g_ireturn r dX6_set_71 rfl (fun _ h => ⟨Or.inr ⟨fun q => by have q1 := q.2; have q2 := hp0.1; omega, rfl⟩, h⟩)

theorem n_X6_set (l : Launch) (D : va_G) (ad : Nat → Nat) (cy : Nat → ClassId) (tl : Int32) (A : Nat → Prop) (p0 p1 : Int32)  : zMi l yX6_set wz_X6_set ({ frames := 0, cells := 0, slots := 0, locals := 0 }) [.ref (ad 0), .int p0, .int p1] D (zTc cy) A (zMc D A ad cy tl) (fun r H => zin 0 2 p0 r ∧ zMc D A ad cy tl H) := by
  rcases ztri 0 2 p0 with h | h | h
  · exact n_X6_setL l D ad cy tl A p0 p1 h
  · exact n_X6_setM l D ad cy tl A p0 p1 h
  · exact n_X6_setH l D ad cy tl A p0 p1 h

set_option maxHeartbeats 2000000 in
set_option maxRecDepth 100000 in
theorem n_X6_picture (l : Launch) (D : va_G) (ad : Nat → Nat) (cy : Nat → ClassId) (tl : Int32) (A : Nat → Prop) (p0 : Int32) : zMi l yX6_picture wz_X6_picture ({ frames := 0, cells := 0, slots := 0, locals := 0 }) [.ref (ad 0), .int p0] D (zTc cy) A (zMc D A ad cy tl) (fun _ => (zMc D A ad cy tl)) := by
  refine zstart_i (cc := cX6_picture) (maxL := 2) (ty := .int) (own := RX6) (by decide) rfl rfl (Nat.le_of_ble_eq_true rfl) (fun p e s m args below meth c Q C r => ?_)
  have J64 : ∀ (b0_64 : Int32) (_ : zI 0 1 b0_64), zG p l e ({ frames := 0, cells := 0, slots := 0, locals := 0 }) s m args below meth c 2 0 0 A Q (zMc D A ad cy tl) 64 [(0, .ref (ad 0)), (1, .int p0)] [.int b0_64] := by
    intro b0_64 hb0_64
    exact g_ireturn r dX6_picture_64 rfl (fun _ h => h)
  have J80 : ∀ (b0_80 : Int32) (_ : zI 0 1 b0_80), zG p l e ({ frames := 0, cells := 0, slots := 0, locals := 0 }) s m args below meth c 2 0 0 A Q (zMc D A ad cy tl) 80 [(0, .ref (ad 0)), (1, .int p0)] [.int b0_80] := by
    intro b0_80 hb0_80
    exact g_ireturn r dX6_picture_80 rfl (fun _ h => h)
  have J93 : zG p l e ({ frames := 0, cells := 0, slots := 0, locals := 0 }) s m args below meth c 2 0 0 A Q (zMc D A ad cy tl) 93 [(0, .ref (ad 0)), (1, .int p0)] [] := by
    refine g_iconst (pc := 93) C (-1) dX6_picture_93 (by decide) ?_
    exact g_ireturn r dX6_picture_94 rfl (fun _ h => h)
  refine g_sub (lv' := [(0, .ref (ad 0)), (1, .int p0)]) [0, 1] rfl ?_
  refine g_iload_n (pc := 0) C dX6_picture_0 rfl 1 rfl ?_
  refine g_table (pc := 1) C [81, 32, 40, 48, 65] dX6_picture_1 (by decide) (by decide) (by decide) (List.forall_mem_cons.mpr ⟨?_, (List.forall_mem_cons.mpr ⟨?_, (List.forall_mem_cons.mpr ⟨?_, (List.forall_mem_cons.mpr ⟨?_, (List.forall_mem_cons.mpr ⟨?_, fun _ h => absurd h List.not_mem_nil⟩)⟩)⟩)⟩)⟩)
  · refine g_iload_n (pc := 81) C dX6_picture_81 rfl 1 rfl ?_
    refine g_bipush (pc := 82) C 8 dX6_picture_82 (by decide) ?_
    refine g_icmp_lt (pc := 84) C 93 dX6_picture_84 (by decide) (fun c1 => ?_) (fun c1 => ?_)
    · have h2 : zI (-2147483648) 7 p0 := zr_lt1 (zc_lt c1) (zi_full p0) (zi_c 8 (a := 8) (b := 8) (by decide)) (by decide)
      exact g_sub [0, 1] rfl (J93 )
    · have h3 : zI 8 2147483647 p0 := zr_le2 (zc_nlt c1) (zi_c 8 (a := 8) (b := 8) (by decide)) (zi_full p0) (by decide)
      refine g_iload_n (pc := 87) C dX6_picture_87 rfl 1 rfl ?_
      refine g_bipush (pc := 88) C 15 dX6_picture_88 (by decide) ?_
      refine g_icmp_le (pc := 90) C 95 dX6_picture_90 (by decide) (fun c4 => ?_) (fun c4 => ?_)
      · have h5 : zI 8 15 p0 := zr_le1 (zc_le c4) h3 (zi_c 15 (a := 15) (b := 15) (by decide)) (by decide)
        refine g_aload_n (pc := 95) C dX6_picture_95 rfl 0 rfl ?_
        refine gc_0_1 (pc := 96) C wk_264 dX6_picture_96 ?_
        refine gc_3_1 (pc := 99) C wk_123 dX6_picture_99 ?_
        refine g_iload_n (pc := 102) C dX6_picture_102 rfl 1 rfl ?_
        refine g_bipush (pc := 103) C 8 dX6_picture_103 (by decide) ?_
        refine g_isub (pc := 105) C dX6_picture_105 (fun z6 ez6 => ?_)
        have hz6 : zI 0 7 z6 := zi_sub h5 (zi_c 8 (a := 8) (b := 8) (by decide)) ez6 (by decide)
        refine lc_6 (pc := 106) C (zi_in hz6 (by decide)) dX6_picture_106 (fun z7 => ?_)
        exact g_ireturn r dX6_picture_107 rfl (fun _ h => h)
      · have h8 : zI 16 2147483647 p0 := zr_lt2 (zc_nle c4) (zi_c 15 (a := 15) (b := 15) (by decide)) h3 (by decide)
        exact g_sub [0, 1] rfl (J93 )
  · refine g_aload_n (pc := 32) C dX6_picture_32 rfl 0 rfl ?_
    refine gc_0_1 (pc := 33) C wk_264 dX6_picture_33 ?_
    refine gc_3_2 (pc := 36) C wk_125 dX6_picture_36 (fun z9 => ?_)
    exact g_ireturn r dX6_picture_39 rfl (fun _ h => h)
  · refine g_aload_n (pc := 40) C dX6_picture_40 rfl 0 rfl ?_
    refine gc_0_1 (pc := 41) C wk_264 dX6_picture_41 ?_
    refine gc_3_3 (pc := 44) C wk_127 dX6_picture_44 (fun z10 => ?_)
    exact g_ireturn r dX6_picture_47 rfl (fun _ h => h)
  · refine g_aload_n (pc := 48) C dX6_picture_48 rfl 0 rfl ?_
    refine gc_0_1 (pc := 49) C wk_264 dX6_picture_49 ?_
    refine gc_3_4 (pc := 52) C wk_129 dX6_picture_52 (fun z11 => ?_)
    refine g_iconst (pc := 55) C (-1) dX6_picture_55 (by decide) ?_
    refine g_icmp_ne (pc := 56) C 63 dX6_picture_56 (by decide) (fun c12 => ?_) (fun c12 => ?_)
    · refine g_iconst (pc := 63) C 1 dX6_picture_63 (by decide) ?_
      exact g_sub [0, 1] rfl (J64 1 (zi_c 1 (a := 0) (b := 1) (by decide)))
    · have h13 : zI (-1) (-1) z11 := zr_eq c12 (zi_full z11) (zi_c (-1) (a := (-1)) (b := (-1)) (by decide)) (by decide)
      refine g_iconst (pc := 59) C 0 dX6_picture_59 (by decide) ?_
      refine g_goto (pc := 60) C 64 dX6_picture_60 (by decide) ?_
      exact g_sub [0, 1] rfl (J64 0 (zi_c 0 (a := 0) (b := 1) (by decide)))
  · refine g_aload_n (pc := 65) C dX6_picture_65 rfl 0 rfl ?_
    refine gc_0_1 (pc := 66) C wk_264 dX6_picture_66 ?_
    refine gc_3_5 (pc := 69) C wk_132 dX6_picture_69 (fun z14 => ?_)
    refine g_if_eq (pc := 72) C 79 dX6_picture_72 (by decide) (fun c15 => ?_) (fun c15 => ?_)
    · have h16 : zI 0 0 z14 := zr_eq c15 (zi_full z14) (zi_c 0 (a := 0) (b := 0) (by decide)) (by decide)
      refine g_iconst (pc := 79) C 0 dX6_picture_79 (by decide) ?_
      exact g_sub [0, 1] rfl (J80 0 (zi_c 0 (a := 0) (b := 1) (by decide)))
    · refine g_iconst (pc := 75) C 1 dX6_picture_75 (by decide) ?_
      refine g_goto (pc := 76) C 80 dX6_picture_76 (by decide) ?_
      exact g_sub [0, 1] rfl (J80 1 (zi_c 1 (a := 0) (b := 1) (by decide)))

set_option maxHeartbeats 2000000 in
set_option maxRecDepth 100000 in
theorem n_X6_vramA (l : Launch) (D : va_G) (ad : Nat → Nat) (cy : Nat → ClassId) (tl : Int32) (A : Nat → Prop) (p0 : Int32) (hp0 : zI 0 16383 p0) : zMi l yX6_vram wz_X6_vram ({ frames := 1, cells := 0, slots := 0, locals := 22 }) [.ref (ad 0), .int p0] D (zTc cy) A (zMc D A ad cy tl) (fun _ => (zMc D A ad cy tl)) := by
  refine zstart_i (cc := cX6_vram) (maxL := 2) (ty := .int) (own := RX6) (by decide) rfl rfl (Nat.le_of_ble_eq_true rfl) (fun p e s m args below meth c Q C r => ?_)
  refine g_sub (lv' := [(0, .ref (ad 0)), (1, .int p0)]) [0, 1] rfl ?_
  refine g_iload_n (pc := 0) C dX6_vram_0 rfl 1 rfl ?_
  refine g_if_lt (pc := 1) C 11 dX6_vram_1 (by decide) (fun c1 => ?_) (fun c1 => ?_)
  · have h2 : zI 0 (-1) p0 := zr_lt1 (zc_lt c1) hp0 (zi_c 0 (a := 0) (b := 0) (by decide)) (by decide)
    exact zi_no h2 (by decide)
  · refine g_iload_n (pc := 4) C dX6_vram_4 rfl 1 rfl ?_
    refine g_sipush (pc := 5) C 16384 dX6_vram_5 (by decide) ?_
    refine g_icmp_lt (pc := 8) C 21 dX6_vram_8 (by decide) (fun c3 => ?_) (fun c3 => ?_)
    · refine g_aload_n (pc := 21) C dX6_vram_21 rfl 0 rfl ?_
      refine gc_0_1 (pc := 22) C wk_264 dX6_vram_22 ?_
      refine gc_3_0 (pc := 25) C wk_121 dX6_vram_25 ?_
      refine g_iload_n (pc := 28) C dX6_vram_28 rfl 1 rfl ?_
      refine zcallVi (pc := 29) (st := []) C C.2.2.2.2.2 (n_X0_get_pb l D ad cy tl A p0) (cwV 1 C.2.2.2.2.1 gw_RX6_74 rfl rfl rfl cd_X0_get ⟨Nat.le_of_ble_eq_true rfl, Nat.le_of_ble_eq_true rfl⟩) (hc_4 C) rfl rfl (Nat.le_of_ble_eq_true rfl) ⟨Nat.le_of_ble_eq_true rfl, Nat.le_of_ble_eq_true rfl⟩ dX6_vram_29 (fun r4 => ?_)
      refine g_and (M2 := (zMc D A ad cy tl)) (fun hr4 => ?_)
      exact g_ireturn r dX6_vram_32 rfl (fun _ h => h)
    · have h5 : zI 16384 16383 p0 := zr_le2 (zc_nlt c3) (zi_c 16384 (a := 16384) (b := 16384) (by decide)) hp0 (by decide)
      exact zi_no h5 (by decide)

set_option maxHeartbeats 2000000 in
set_option maxRecDepth 100000 in
theorem n_X6_grom (l : Launch) (D : va_G) (ad : Nat → Nat) (cy : Nat → ClassId) (tl : Int32) (A : Nat → Prop) (p0 : Int32) : zMi l yX6_grom wz_X6_grom ({ frames := 0, cells := 0, slots := 0, locals := 0 }) [.ref (ad 0), .int p0] D (zTc cy) A (zMc D A ad cy tl) (fun _ => (zMc D A ad cy tl)) := by
  refine zstart_i (cc := cX6_grom) (maxL := 2) (ty := .int) (own := RX6) (by decide) rfl rfl (Nat.le_of_ble_eq_true rfl) (fun p e s m args below meth c Q C r => ?_)
  have J59 : ∀ (b0_59 : Int32) (_ : zI 0 1 b0_59), zG p l e ({ frames := 0, cells := 0, slots := 0, locals := 0 }) s m args below meth c 2 0 0 A Q (zMc D A ad cy tl) 59 [(0, .ref (ad 0)), (1, .int p0)] [.int b0_59] := by
    intro b0_59 hb0_59
    exact g_ireturn r dX6_grom_59 rfl (fun _ h => h)
  refine g_sub (lv' := [(0, .ref (ad 0)), (1, .int p0)]) [0, 1] rfl ?_
  refine g_iload_n (pc := 0) C dX6_grom_0 rfl 1 rfl ?_
  refine g_table (pc := 1) C [60, 28, 36, 44] dX6_grom_1 (by decide) (by decide) (by decide) (List.forall_mem_cons.mpr ⟨?_, (List.forall_mem_cons.mpr ⟨?_, (List.forall_mem_cons.mpr ⟨?_, (List.forall_mem_cons.mpr ⟨?_, fun _ h => absurd h List.not_mem_nil⟩)⟩)⟩)⟩)
  · refine g_iconst (pc := 60) C (-1) dX6_grom_60 (by decide) ?_
    exact g_ireturn r dX6_grom_61 rfl (fun _ h => h)
  · refine g_aload_n (pc := 28) C dX6_grom_28 rfl 0 rfl ?_
    refine gc_0_2 (pc := 29) C wk_265 dX6_grom_29 ?_
    refine gc_7_1 (pc := 32) C wk_157 dX6_grom_32 (fun z1 => ?_)
    exact g_ireturn r dX6_grom_35 rfl (fun _ h => h)
  · refine g_aload_n (pc := 36) C dX6_grom_36 rfl 0 rfl ?_
    refine gc_0_2 (pc := 37) C wk_265 dX6_grom_37 ?_
    refine gc_7_2 (pc := 40) C wk_159 dX6_grom_40 (fun z2 => ?_)
    exact g_ireturn r dX6_grom_43 rfl (fun _ h => h)
  · refine g_aload_n (pc := 44) C dX6_grom_44 rfl 0 rfl ?_
    refine gc_0_2 (pc := 45) C wk_265 dX6_grom_45 ?_
    refine gc_7_3 (pc := 48) C wk_161 dX6_grom_48 (fun z3 => ?_)
    refine g_if_eq (pc := 51) C 58 dX6_grom_51 (by decide) (fun c4 => ?_) (fun c4 => ?_)
    · have h5 : zI 0 0 z3 := zr_eq c4 (zi_full z3) (zi_c 0 (a := 0) (b := 0) (by decide)) (by decide)
      refine g_iconst (pc := 58) C 0 dX6_grom_58 (by decide) ?_
      exact g_sub [0, 1] rfl (J59 0 (zi_c 0 (a := 0) (b := 1) (by decide)))
    · refine g_iconst (pc := 54) C 1 dX6_grom_54 (by decide) ?_
      refine g_goto (pc := 55) C 59 dX6_grom_55 (by decide) ?_
      exact g_sub [0, 1] rfl (J59 1 (zi_c 1 (a := 0) (b := 1) (by decide)))

set_option maxHeartbeats 2000000 in
set_option maxRecDepth 100000 in
theorem n_X6_frame (l : Launch) (D : va_G) (ad : Nat → Nat) (cy : Nat → ClassId) (tl : Int32) (A : Nat → Prop) : zMv l yX6_frame wz_X6_frame ({ frames := 0, cells := 0, slots := 0, locals := 0 }) [.ref (ad 0)] D (zTc cy) A (zMc D A ad cy tl) (zMc D A ad cy tl) := by
  refine zstart_v (cc := cX6_frame) (maxL := 1) (own := RX6) (by decide) rfl rfl (Nat.le_of_ble_eq_true rfl) (fun p e s m args below meth c Q C r => ?_)
  refine g_sub (lv' := [(0, .ref (ad 0))]) [0] rfl ?_
  refine g_aload_n (pc := 0) C dX6_frame_0 rfl 0 rfl ?_
  refine gc_0_1 (pc := 1) C wk_264 dX6_frame_1 ?_
  refine g_iconst (pc := 4) C 1 dX6_frame_4 (by decide) ?_
  refine pc_3_5 (pc := 5) C wk_132 (zi_c 1 (a := 0) (b := 1) (by decide)) dX6_frame_5 ?_
  exact g_return r dX6_frame_8 (fun _ h => h)

set_option maxHeartbeats 2000000 in
set_option maxRecDepth 100000 in
theorem n_X6_interruptL (l : Launch) (D : va_G) (ad : Nat → Nat) (cy : Nat → ClassId) (tl : Int32) (A : Nat → Prop) (p0 : Int32) (hp0 : zI (-2147483648) 1 p0) : zMi l yX6_interrupt wz_X6_interrupt ({ frames := 0, cells := 0, slots := 0, locals := 0 }) [.ref (ad 0), .int p0] D (zTc cy) A (zMc D A ad cy tl) (fun r H => zin 2 15 p0 r ∧ (zMc D A ad cy tl) H) := by
  refine zstart_i (cc := cX6_interrupt) (maxL := 2) (ty := .boolean) (own := RX6) (by decide) rfl rfl (Nat.le_of_ble_eq_true rfl) (fun p e s m args below meth c Q C r => ?_)
  have J11 : zG p l e ({ frames := 0, cells := 0, slots := 0, locals := 0 }) s m args below meth c 2 0 0 A Q (zMc D A ad cy tl) 11 [(0, .ref (ad 0)), (1, .int p0)] [] := by
    refine g_iconst (pc := 11) C 0 dX6_interrupt_11 (by decide) ?_
    exact g_ireturn r dX6_interrupt_12 rfl (fun _ h => ⟨Or.inr ⟨fun q => by have q1 := q.1; have q2 := hp0.2; omega, rfl⟩, h⟩)
  refine g_sub (lv' := [(0, .ref (ad 0)), (1, .int p0)]) [0, 1] rfl ?_
  refine g_iload_n (pc := 0) C dX6_interrupt_0 rfl 1 rfl ?_
  refine g_iconst (pc := 1) C 2 dX6_interrupt_1 (by decide) ?_
  refine g_icmp_lt (pc := 2) C 11 dX6_interrupt_2 (by decide) (fun c1 => ?_) (fun c1 => ?_)
  · exact g_sub [0, 1] rfl (J11 )
  · have h2 : zI 2 1 p0 := zr_le2 (zc_nlt c1) (zi_c 2 (a := 2) (b := 2) (by decide)) hp0 (by decide)
    exact zi_no h2 (by decide)

set_option maxHeartbeats 2000000 in
set_option maxRecDepth 100000 in
theorem n_X6_interruptM (l : Launch) (D : va_G) (ad : Nat → Nat) (cy : Nat → ClassId) (tl : Int32) (A : Nat → Prop) (p0 : Int32) (hp0 : zI 2 15 p0) : zMi l yX6_interrupt wz_X6_interrupt ({ frames := 0, cells := 0, slots := 0, locals := 0 }) [.ref (ad 0), .int p0] D (zTc cy) A (zMc D A ad cy tl) (fun r H => zin 2 15 p0 r ∧ (zMc D A ad cy tl) H) := by
  refine zstart_i (cc := cX6_interrupt) (maxL := 2) (ty := .boolean) (own := RX6) (by decide) rfl rfl (Nat.le_of_ble_eq_true rfl) (fun p e s m args below meth c Q C r => ?_)
  refine g_sub (lv' := [(0, .ref (ad 0)), (1, .int p0)]) [0, 1] rfl ?_
  refine g_iload_n (pc := 0) C dX6_interrupt_0 rfl 1 rfl ?_
  refine g_iconst (pc := 1) C 2 dX6_interrupt_1 (by decide) ?_
  refine g_icmp_lt (pc := 2) C 11 dX6_interrupt_2 (by decide) (fun c1 => ?_) (fun c1 => ?_)
  · have h2 : zI 2 1 p0 := zr_lt1 (zc_lt c1) hp0 (zi_c 2 (a := 2) (b := 2) (by decide)) (by decide)
    exact zi_no h2 (by decide)
  · refine g_iload_n (pc := 5) C dX6_interrupt_5 rfl 1 rfl ?_
    refine g_bipush (pc := 6) C 15 dX6_interrupt_6 (by decide) ?_
    refine g_icmp_le (pc := 8) C 13 dX6_interrupt_8 (by decide) (fun c3 => ?_) (fun c3 => ?_)
    · refine g_aload_n (pc := 13) C dX6_interrupt_13 rfl 0 rfl ?_
      refine gc_0_5 (pc := 14) C wk_268 dX6_interrupt_14 ?_
      refine g_dup (pc := 17) C dX6_interrupt_17 rfl ?_
      refine gc_19_9 (pc := 18) C wk_235 dX6_interrupt_18 (fun z4 => ?_)
      refine g_iconst (pc := 21) C 1 dX6_interrupt_21 (by decide) ?_
      refine g_iload_n (pc := 22) C dX6_interrupt_22 rfl 1 rfl ?_
      refine g_ishl (pc := 23) C dX6_interrupt_23 (fun z5 ez5 => ?_)
      refine g_ior (pc := 24) C dX6_interrupt_24 (fun z6 ez6 => ?_)
      refine pc_19_9 (pc := 25) C wk_235 dX6_interrupt_25 ?_
      refine g_iconst (pc := 28) C 1 dX6_interrupt_28 (by decide) ?_
      exact g_ireturn r dX6_interrupt_29 rfl (fun _ h => ⟨Or.inl ⟨hp0, rfl⟩, h⟩)
    · have h7 : zI 16 15 p0 := zr_lt2 (zc_nle c3) (zi_c 15 (a := 15) (b := 15) (by decide)) hp0 (by decide)
      exact zi_no h7 (by decide)

set_option maxHeartbeats 2000000 in
set_option maxRecDepth 100000 in
theorem n_X6_interruptH (l : Launch) (D : va_G) (ad : Nat → Nat) (cy : Nat → ClassId) (tl : Int32) (A : Nat → Prop) (p0 : Int32) (hp0 : zI 16 2147483647 p0) : zMi l yX6_interrupt wz_X6_interrupt ({ frames := 0, cells := 0, slots := 0, locals := 0 }) [.ref (ad 0), .int p0] D (zTc cy) A (zMc D A ad cy tl) (fun r H => zin 2 15 p0 r ∧ (zMc D A ad cy tl) H) := by
  refine zstart_i (cc := cX6_interrupt) (maxL := 2) (ty := .boolean) (own := RX6) (by decide) rfl rfl (Nat.le_of_ble_eq_true rfl) (fun p e s m args below meth c Q C r => ?_)
  have J11 : zG p l e ({ frames := 0, cells := 0, slots := 0, locals := 0 }) s m args below meth c 2 0 0 A Q (zMc D A ad cy tl) 11 [(0, .ref (ad 0)), (1, .int p0)] [] := by
    refine g_iconst (pc := 11) C 0 dX6_interrupt_11 (by decide) ?_
    exact g_ireturn r dX6_interrupt_12 rfl (fun _ h => ⟨Or.inr ⟨fun q => by have q1 := q.2; have q2 := hp0.1; omega, rfl⟩, h⟩)
  refine g_sub (lv' := [(0, .ref (ad 0)), (1, .int p0)]) [0, 1] rfl ?_
  refine g_iload_n (pc := 0) C dX6_interrupt_0 rfl 1 rfl ?_
  refine g_iconst (pc := 1) C 2 dX6_interrupt_1 (by decide) ?_
  refine g_icmp_lt (pc := 2) C 11 dX6_interrupt_2 (by decide) (fun c1 => ?_) (fun c1 => ?_)
  · have h2 : zI 16 1 p0 := zr_lt1 (zc_lt c1) hp0 (zi_c 2 (a := 2) (b := 2) (by decide)) (by decide)
    exact zi_no h2 (by decide)
  · refine g_iload_n (pc := 5) C dX6_interrupt_5 rfl 1 rfl ?_
    refine g_bipush (pc := 6) C 15 dX6_interrupt_6 (by decide) ?_
    refine g_icmp_le (pc := 8) C 13 dX6_interrupt_8 (by decide) (fun c3 => ?_) (fun c3 => ?_)
    · have h4 : zI 16 15 p0 := zr_le1 (zc_le c3) hp0 (zi_c 15 (a := 15) (b := 15) (by decide)) (by decide)
      exact zi_no h4 (by decide)
    · exact g_sub [0, 1] rfl (J11 )

theorem n_X6_interrupt (l : Launch) (D : va_G) (ad : Nat → Nat) (cy : Nat → ClassId) (tl : Int32) (A : Nat → Prop) (p0 : Int32)  : zMi l yX6_interrupt wz_X6_interrupt ({ frames := 0, cells := 0, slots := 0, locals := 0 }) [.ref (ad 0), .int p0] D (zTc cy) A (zMc D A ad cy tl) (fun r H => zin 2 15 p0 r ∧ zMc D A ad cy tl H) := by
  rcases ztri 2 15 p0 with h | h | h
  · exact n_X6_interruptL l D ad cy tl A p0 h
  · exact n_X6_interruptM l D ad cy tl A p0 h
  · exact n_X6_interruptH l D ad cy tl A p0 h

set_option maxHeartbeats 2000000 in
set_option maxRecDepth 100000 in
theorem n_X6_keyA (l : Launch) (D : va_G) (ad : Nat → Nat) (cy : Nat → ClassId) (tl : Int32) (A : Nat → Prop) (p0 : Int32) (p1 : Int32) (p2 : Int32) (hp0 : zI (-2147483648) (-1) p0) : zMi l yX6_key wz_X6_key ({ frames := 1, cells := 0, slots := 0, locals := 25 }) [.ref (ad 0), .int p0, .int p1, .int p2] D (zTc cy) A (zMc D A ad cy tl) (fun r H => zkey p0 p1 r ∧ zMc D A ad cy tl H) := by
  refine zstart_i (cc := cX6_key) (maxL := 4) (ty := .boolean) (own := RX6) (by decide) rfl rfl (Nat.le_of_ble_eq_true rfl) (fun p e s m args below meth c Q C r => ?_)
  have J20 : zG p l e ({ frames := 1, cells := 0, slots := 0, locals := 25 }) s m args below meth c 4 0 0 A Q (zMc D A ad cy tl) 20 [(0, .ref (ad 0)), (1, .int p0), (2, .int p1), (3, .int p2)] [] := by
    refine g_iconst (pc := 20) C 0 dX6_key_20 (by decide) ?_
    exact g_ireturn r dX6_key_21 rfl (fun _ h => ⟨Or.inr ⟨fun q => by have q1 := q.1.1; have q2 := hp0.2; omega, rfl⟩, h⟩)
  refine g_sub (lv' := [(0, .ref (ad 0)), (1, .int p0), (2, .int p1), (3, .int p2)]) [0, 1, 2, 3] rfl ?_
  refine g_iload_n (pc := 0) C dX6_key_0 rfl 1 rfl ?_
  refine g_if_lt (pc := 1) C 20 dX6_key_1 (by decide) (fun c1 => ?_) (fun c1 => ?_)
  · exact g_sub [0, 1, 2, 3] rfl (J20 )
  · have h2 : zI 0 (-1) p0 := zr_le2 (zc_nlt c1) (zi_c 0 (a := 0) (b := 0) (by decide)) hp0 (by decide)
    exact zi_no h2 (by decide)

set_option maxHeartbeats 2000000 in
set_option maxRecDepth 100000 in
theorem n_X6_keyB (l : Launch) (D : va_G) (ad : Nat → Nat) (cy : Nat → ClassId) (tl : Int32) (A : Nat → Prop) (p0 : Int32) (p1 : Int32) (p2 : Int32) (hp0 : zI 8 2147483647 p0) : zMi l yX6_key wz_X6_key ({ frames := 1, cells := 0, slots := 0, locals := 25 }) [.ref (ad 0), .int p0, .int p1, .int p2] D (zTc cy) A (zMc D A ad cy tl) (fun r H => zkey p0 p1 r ∧ zMc D A ad cy tl H) := by
  refine zstart_i (cc := cX6_key) (maxL := 4) (ty := .boolean) (own := RX6) (by decide) rfl rfl (Nat.le_of_ble_eq_true rfl) (fun p e s m args below meth c Q C r => ?_)
  have J20 : zG p l e ({ frames := 1, cells := 0, slots := 0, locals := 25 }) s m args below meth c 4 0 0 A Q (zMc D A ad cy tl) 20 [(0, .ref (ad 0)), (1, .int p0), (2, .int p1), (3, .int p2)] [] := by
    refine g_iconst (pc := 20) C 0 dX6_key_20 (by decide) ?_
    exact g_ireturn r dX6_key_21 rfl (fun _ h => ⟨Or.inr ⟨fun q => by have q1 := q.1.2; have q2 := hp0.1; omega, rfl⟩, h⟩)
  refine g_sub (lv' := [(0, .ref (ad 0)), (1, .int p0), (2, .int p1), (3, .int p2)]) [0, 1, 2, 3] rfl ?_
  refine g_iload_n (pc := 0) C dX6_key_0 rfl 1 rfl ?_
  refine g_if_lt (pc := 1) C 20 dX6_key_1 (by decide) (fun c1 => ?_) (fun c1 => ?_)
  · have h2 : zI 8 (-1) p0 := zr_lt1 (zc_lt c1) hp0 (zi_c 0 (a := 0) (b := 0) (by decide)) (by decide)
    exact zi_no h2 (by decide)
  · refine g_iload_n (pc := 4) C dX6_key_4 rfl 1 rfl ?_
    refine g_bipush (pc := 5) C 7 dX6_key_5 (by decide) ?_
    refine g_icmp_gt (pc := 7) C 20 dX6_key_7 (by decide) (fun c3 => ?_) (fun c3 => ?_)
    · exact g_sub [0, 1, 2, 3] rfl (J20 )
    · have h4 : zI 8 7 p0 := zr_le1 (zc_nlt c3) hp0 (zi_c 7 (a := 7) (b := 7) (by decide)) (by decide)
      exact zi_no h4 (by decide)

set_option maxHeartbeats 2000000 in
set_option maxRecDepth 100000 in
theorem n_X6_keyC (l : Launch) (D : va_G) (ad : Nat → Nat) (cy : Nat → ClassId) (tl : Int32) (A : Nat → Prop) (p0 : Int32) (p1 : Int32) (p2 : Int32) (hp0 : zI 0 7 p0) (hp1 : zI (-2147483648) (-1) p1) : zMi l yX6_key wz_X6_key ({ frames := 1, cells := 0, slots := 0, locals := 25 }) [.ref (ad 0), .int p0, .int p1, .int p2] D (zTc cy) A (zMc D A ad cy tl) (fun r H => zkey p0 p1 r ∧ zMc D A ad cy tl H) := by
  refine zstart_i (cc := cX6_key) (maxL := 4) (ty := .boolean) (own := RX6) (by decide) rfl rfl (Nat.le_of_ble_eq_true rfl) (fun p e s m args below meth c Q C r => ?_)
  have J20 : zG p l e ({ frames := 1, cells := 0, slots := 0, locals := 25 }) s m args below meth c 4 0 0 A Q (zMc D A ad cy tl) 20 [(0, .ref (ad 0)), (1, .int p0), (2, .int p1), (3, .int p2)] [] := by
    refine g_iconst (pc := 20) C 0 dX6_key_20 (by decide) ?_
    exact g_ireturn r dX6_key_21 rfl (fun _ h => ⟨Or.inr ⟨fun q => by have q1 := q.2.1; have q2 := hp1.2; omega, rfl⟩, h⟩)
  refine g_sub (lv' := [(0, .ref (ad 0)), (1, .int p0), (2, .int p1), (3, .int p2)]) [0, 1, 2, 3] rfl ?_
  refine g_iload_n (pc := 0) C dX6_key_0 rfl 1 rfl ?_
  refine g_if_lt (pc := 1) C 20 dX6_key_1 (by decide) (fun c1 => ?_) (fun c1 => ?_)
  · have h2 : zI 0 (-1) p0 := zr_lt1 (zc_lt c1) hp0 (zi_c 0 (a := 0) (b := 0) (by decide)) (by decide)
    exact zi_no h2 (by decide)
  · refine g_iload_n (pc := 4) C dX6_key_4 rfl 1 rfl ?_
    refine g_bipush (pc := 5) C 7 dX6_key_5 (by decide) ?_
    refine g_icmp_gt (pc := 7) C 20 dX6_key_7 (by decide) (fun c3 => ?_) (fun c3 => ?_)
    · have h4 : zI 8 7 p0 := zr_lt2 (zc_lt c3) (zi_c 7 (a := 7) (b := 7) (by decide)) hp0 (by decide)
      exact zi_no h4 (by decide)
    · refine g_iload_n (pc := 10) C dX6_key_10 rfl 2 rfl ?_
      refine g_if_lt (pc := 11) C 20 dX6_key_11 (by decide) (fun c5 => ?_) (fun c5 => ?_)
      · exact g_sub [0, 1, 2, 3] rfl (J20 )
      · have h6 : zI 0 (-1) p1 := zr_le2 (zc_nlt c5) (zi_c 0 (a := 0) (b := 0) (by decide)) hp1 (by decide)
        exact zi_no h6 (by decide)

set_option maxHeartbeats 2000000 in
set_option maxRecDepth 100000 in
theorem n_X6_keyD (l : Launch) (D : va_G) (ad : Nat → Nat) (cy : Nat → ClassId) (tl : Int32) (A : Nat → Prop) (p0 : Int32) (p1 : Int32) (p2 : Int32) (hp0 : zI 0 7 p0) (hp1 : zI 8 2147483647 p1) : zMi l yX6_key wz_X6_key ({ frames := 1, cells := 0, slots := 0, locals := 25 }) [.ref (ad 0), .int p0, .int p1, .int p2] D (zTc cy) A (zMc D A ad cy tl) (fun r H => zkey p0 p1 r ∧ zMc D A ad cy tl H) := by
  refine zstart_i (cc := cX6_key) (maxL := 4) (ty := .boolean) (own := RX6) (by decide) rfl rfl (Nat.le_of_ble_eq_true rfl) (fun p e s m args below meth c Q C r => ?_)
  have J20 : zG p l e ({ frames := 1, cells := 0, slots := 0, locals := 25 }) s m args below meth c 4 0 0 A Q (zMc D A ad cy tl) 20 [(0, .ref (ad 0)), (1, .int p0), (2, .int p1), (3, .int p2)] [] := by
    refine g_iconst (pc := 20) C 0 dX6_key_20 (by decide) ?_
    exact g_ireturn r dX6_key_21 rfl (fun _ h => ⟨Or.inr ⟨fun q => by have q1 := q.2.2; have q2 := hp1.1; omega, rfl⟩, h⟩)
  refine g_sub (lv' := [(0, .ref (ad 0)), (1, .int p0), (2, .int p1), (3, .int p2)]) [0, 1, 2, 3] rfl ?_
  refine g_iload_n (pc := 0) C dX6_key_0 rfl 1 rfl ?_
  refine g_if_lt (pc := 1) C 20 dX6_key_1 (by decide) (fun c1 => ?_) (fun c1 => ?_)
  · have h2 : zI 0 (-1) p0 := zr_lt1 (zc_lt c1) hp0 (zi_c 0 (a := 0) (b := 0) (by decide)) (by decide)
    exact zi_no h2 (by decide)
  · refine g_iload_n (pc := 4) C dX6_key_4 rfl 1 rfl ?_
    refine g_bipush (pc := 5) C 7 dX6_key_5 (by decide) ?_
    refine g_icmp_gt (pc := 7) C 20 dX6_key_7 (by decide) (fun c3 => ?_) (fun c3 => ?_)
    · have h4 : zI 8 7 p0 := zr_lt2 (zc_lt c3) (zi_c 7 (a := 7) (b := 7) (by decide)) hp0 (by decide)
      exact zi_no h4 (by decide)
    · refine g_iload_n (pc := 10) C dX6_key_10 rfl 2 rfl ?_
      refine g_if_lt (pc := 11) C 20 dX6_key_11 (by decide) (fun c5 => ?_) (fun c5 => ?_)
      · have h6 : zI 8 (-1) p1 := zr_lt1 (zc_lt c5) hp1 (zi_c 0 (a := 0) (b := 0) (by decide)) (by decide)
        exact zi_no h6 (by decide)
      · refine g_iload_n (pc := 14) C dX6_key_14 rfl 2 rfl ?_
        refine g_bipush (pc := 15) C 7 dX6_key_15 (by decide) ?_
        refine g_icmp_le (pc := 17) C 22 dX6_key_17 (by decide) (fun c7 => ?_) (fun c7 => ?_)
        · have h8 : zI 8 7 p1 := zr_le1 (zc_le c7) hp1 (zi_c 7 (a := 7) (b := 7) (by decide)) (by decide)
          exact zi_no h8 (by decide)
        · exact g_sub [0, 1, 2, 3] rfl (J20 )

set_option maxHeartbeats 2000000 in
set_option maxRecDepth 100000 in
theorem n_X6_keyE (l : Launch) (D : va_G) (ad : Nat → Nat) (cy : Nat → ClassId) (tl : Int32) (A : Nat → Prop) (p0 : Int32) (p1 : Int32) (p2 : Int32) (hp0 : zI 0 7 p0) (hp1 : zI 0 7 p1) : zMi l yX6_key wz_X6_key ({ frames := 1, cells := 0, slots := 0, locals := 25 }) [.ref (ad 0), .int p0, .int p1, .int p2] D (zTc cy) A (zMc D A ad cy tl) (fun r H => zkey p0 p1 r ∧ zMc D A ad cy tl H) := by
  refine zstart_i (cc := cX6_key) (maxL := 4) (ty := .boolean) (own := RX6) (by decide) rfl rfl (Nat.le_of_ble_eq_true rfl) (fun p e s m args below meth c Q C r => ?_)
  refine g_sub (lv' := [(0, .ref (ad 0)), (1, .int p0), (2, .int p1), (3, .int p2)]) [0, 1, 2, 3] rfl ?_
  refine g_iload_n (pc := 0) C dX6_key_0 rfl 1 rfl ?_
  refine g_if_lt (pc := 1) C 20 dX6_key_1 (by decide) (fun c1 => ?_) (fun c1 => ?_)
  · have h2 : zI 0 (-1) p0 := zr_lt1 (zc_lt c1) hp0 (zi_c 0 (a := 0) (b := 0) (by decide)) (by decide)
    exact zi_no h2 (by decide)
  · refine g_iload_n (pc := 4) C dX6_key_4 rfl 1 rfl ?_
    refine g_bipush (pc := 5) C 7 dX6_key_5 (by decide) ?_
    refine g_icmp_gt (pc := 7) C 20 dX6_key_7 (by decide) (fun c3 => ?_) (fun c3 => ?_)
    · have h4 : zI 8 7 p0 := zr_lt2 (zc_lt c3) (zi_c 7 (a := 7) (b := 7) (by decide)) hp0 (by decide)
      exact zi_no h4 (by decide)
    · refine g_iload_n (pc := 10) C dX6_key_10 rfl 2 rfl ?_
      refine g_if_lt (pc := 11) C 20 dX6_key_11 (by decide) (fun c5 => ?_) (fun c5 => ?_)
      · have h6 : zI 0 (-1) p1 := zr_lt1 (zc_lt c5) hp1 (zi_c 0 (a := 0) (b := 0) (by decide)) (by decide)
        exact zi_no h6 (by decide)
      · refine g_iload_n (pc := 14) C dX6_key_14 rfl 2 rfl ?_
        refine g_bipush (pc := 15) C 7 dX6_key_15 (by decide) ?_
        refine g_icmp_le (pc := 17) C 22 dX6_key_17 (by decide) (fun c7 => ?_) (fun c7 => ?_)
        · refine g_aload_n (pc := 22) C dX6_key_22 rfl 0 rfl ?_
          refine gc_0_3 (pc := 23) C wk_266 dX6_key_23 ?_
          refine g_iload_n (pc := 26) C dX6_key_26 rfl 1 rfl ?_
          refine g_iload_n (pc := 27) C dX6_key_27 rfl 2 rfl ?_
          refine g_iload_n (pc := 28) C dX6_key_28 rfl 3 rfl ?_
          refine zcallVv (pc := 29) (st := []) C C.2.2.2.2.2 (n_X5_press l D ad cy tl A p0 p1 p2) (cwV 3 C.2.2.2.2.1 gw_RX6_165 rfl rfl rfl cd_X5_press ⟨Nat.le_of_ble_eq_true rfl, Nat.le_of_ble_eq_true rfl⟩) (hc_10 C) rfl rfl (Nat.le_of_ble_eq_true rfl) ⟨Nat.le_of_ble_eq_true rfl, Nat.le_of_ble_eq_true rfl⟩ dX6_key_29 ?_
          refine g_iconst (pc := 32) C 1 dX6_key_32 (by decide) ?_
          exact g_ireturn r dX6_key_33 rfl (fun _ h => ⟨Or.inl ⟨⟨hp0, hp1⟩, rfl⟩, h⟩)
        · have h8 : zI 8 7 p1 := zr_lt2 (zc_nle c7) (zi_c 7 (a := 7) (b := 7) (by decide)) hp1 (by decide)
          exact zi_no h8 (by decide)

theorem n_X6_key (l : Launch) (D : va_G) (ad : Nat → Nat) (cy : Nat → ClassId) (tl : Int32) (A : Nat → Prop) (p0 p1 p2 : Int32)  : zMi l yX6_key wz_X6_key ({ frames := 1, cells := 0, slots := 0, locals := 25 }) [.ref (ad 0), .int p0, .int p1, .int p2] D (zTc cy) A (zMc D A ad cy tl) (fun r H => zkey p0 p1 r ∧ zMc D A ad cy tl H) := by
  rcases ztri 0 7 p0 with h | h | h
  · exact n_X6_keyA l D ad cy tl A p0 p1 p2 h
  · rcases ztri 0 7 p1 with g | g | g
    · exact n_X6_keyC l D ad cy tl A p0 p1 p2 h g
    · exact n_X6_keyE l D ad cy tl A p0 p1 p2 h g
    · exact n_X6_keyD l D ad cy tl A p0 p1 p2 h g
  · exact n_X6_keyB l D ad cy tl A p0 p1 p2 h

set_option maxHeartbeats 2000000 in
set_option maxRecDepth 100000 in
theorem n_X6_out (l : Launch) (D : va_G) (ad : Nat → Nat) (cy : Nat → ClassId) (tl : Int32) (A : Nat → Prop) (p0 : Int32) : zMi l yX6_out wz_X6_out ({ frames := 1, cells := 0, slots := 0, locals := 21 }) [.ref (ad 0), .int p0] D (zTc cy) A (zMc D A ad cy tl) (fun _ => (zMc D A ad cy tl)) := by
  refine zstart_i (cc := cX6_out) (maxL := 2) (ty := .int) (own := RX6) (by decide) rfl rfl (Nat.le_of_ble_eq_true rfl) (fun p e s m args below meth c Q C r => ?_)
  have J19 : ∀ (b0_19 : Int32), zG p l e ({ frames := 1, cells := 0, slots := 0, locals := 21 }) s m args below meth c 2 0 0 A Q (zMc D A ad cy tl) 19 [(0, .ref (ad 0)), (1, .int p0)] [.int b0_19] := by
    intro b0_19
    exact g_ireturn r dX6_out_19 rfl (fun _ h => h)
  refine g_sub (lv' := [(0, .ref (ad 0)), (1, .int p0)]) [0, 1] rfl ?_
  refine g_iload_n (pc := 0) C dX6_out_0 rfl 1 rfl ?_
  refine zcallSi (pc := 1) (st := []) C C.2.2.2.2.2 (n_X5_exists l D ad cy tl A p0) (va_cwS 1 C.2.2.2.2.1 gw_RX6_169 rfl rfl rfl cs_X5_exists ⟨Nat.le_of_ble_eq_true rfl, Nat.le_of_ble_eq_true rfl⟩) rfl rfl (Nat.le_of_ble_eq_true rfl) ⟨Nat.le_of_ble_eq_true rfl, Nat.le_of_ble_eq_true rfl⟩ dX6_out_1 (fun r1 => ?_)
  refine g_and (M2 := (zMc D A ad cy tl)) (fun hr1 => ?_)
  refine g_if_eq (pc := 4) C 18 dX6_out_4 (by decide) (fun c2 => ?_) (fun c2 => ?_)
  · have h3 : zI 0 0 r1 := zr_eq c2 hr1 (zi_c 0 (a := 0) (b := 0) (by decide)) (by decide)
    refine g_iconst (pc := 18) C (-1) dX6_out_18 (by decide) ?_
    exact g_sub [0, 1] rfl (J19 (-1))
  · have h4 : zI 1 1 r1 := zr_neL c2 hr1 (zi_c 0 (a := 0) (b := 0) (by decide)) (by decide)
    refine g_aload_n (pc := 7) C dX6_out_7 rfl 0 rfl ?_
    refine gc_0_3 (pc := 8) C wk_266 dX6_out_8 ?_
    refine g_iload_n (pc := 11) C dX6_out_11 rfl 1 rfl ?_
    refine zcallVi (pc := 12) (st := []) C C.2.2.2.2.2 (n_X5_sent l D ad cy tl A p0) (cwV 1 C.2.2.2.2.1 gw_RX6_173 rfl rfl rfl cd_X5_sent ⟨Nat.le_of_ble_eq_true rfl, Nat.le_of_ble_eq_true rfl⟩) (hc_10 C) rfl rfl (Nat.le_of_ble_eq_true rfl) ⟨Nat.le_of_ble_eq_true rfl, Nat.le_of_ble_eq_true rfl⟩ dX6_out_12 (fun r5 => ?_)
    refine g_goto (pc := 15) C 19 dX6_out_15 (by decide) ?_
    exact g_sub [0, 1] rfl (J19 r5)

set_option maxHeartbeats 2000000 in
set_option maxRecDepth 100000 in
theorem n_X6_in (l : Launch) (D : va_G) (ad : Nat → Nat) (cy : Nat → ClassId) (tl : Int32) (A : Nat → Prop) (p0 : Int32) : zMi l yX6_in wz_X6_in ({ frames := 2, cells := 0, slots := 0, locals := 43 }) [.ref (ad 0), .int p0] D (zTc cy) A (zMc D A ad cy tl) (fun _ => (zMc D A ad cy tl)) := by
  refine zstart_i (cc := cX6_in) (maxL := 2) (ty := .int) (own := RX6) (by decide) rfl rfl (Nat.le_of_ble_eq_true rfl) (fun p e s m args below meth c Q C r => ?_)
  have J19 : ∀ (b0_19 : Int32), zG p l e ({ frames := 2, cells := 0, slots := 0, locals := 43 }) s m args below meth c 2 0 0 A Q (zMc D A ad cy tl) 19 [(0, .ref (ad 0)), (1, .int p0)] [.int b0_19] := by
    intro b0_19
    exact g_ireturn r dX6_in_19 rfl (fun _ h => h)
  refine g_sub (lv' := [(0, .ref (ad 0)), (1, .int p0)]) [0, 1] rfl ?_
  refine g_iload_n (pc := 0) C dX6_in_0 rfl 1 rfl ?_
  refine zcallSi (pc := 1) (st := []) C C.2.2.2.2.2 (n_X5_exists l D ad cy tl A p0) (va_cwS 1 C.2.2.2.2.1 gw_RX6_169 rfl rfl rfl cs_X5_exists ⟨Nat.le_of_ble_eq_true rfl, Nat.le_of_ble_eq_true rfl⟩) rfl rfl (Nat.le_of_ble_eq_true rfl) ⟨Nat.le_of_ble_eq_true rfl, Nat.le_of_ble_eq_true rfl⟩ dX6_in_1 (fun r1 => ?_)
  refine g_and (M2 := (zMc D A ad cy tl)) (fun hr1 => ?_)
  refine g_if_eq (pc := 4) C 18 dX6_in_4 (by decide) (fun c2 => ?_) (fun c2 => ?_)
  · have h3 : zI 0 0 r1 := zr_eq c2 hr1 (zi_c 0 (a := 0) (b := 0) (by decide)) (by decide)
    refine g_iconst (pc := 18) C (-1) dX6_in_18 (by decide) ?_
    exact g_sub [0, 1] rfl (J19 (-1))
  · have h4 : zI 1 1 r1 := zr_neL c2 hr1 (zi_c 0 (a := 0) (b := 0) (by decide)) (by decide)
    refine g_aload_n (pc := 7) C dX6_in_7 rfl 0 rfl ?_
    refine gc_0_3 (pc := 8) C wk_266 dX6_in_8 ?_
    refine g_iload_n (pc := 11) C dX6_in_11 rfl 1 rfl ?_
    refine zcallVi (pc := 12) (st := []) C C.2.2.2.2.2 (n_X5_coming l D ad cy tl A p0) (cwV 1 C.2.2.2.2.1 gw_RX6_176 rfl rfl rfl cd_X5_coming ⟨Nat.le_of_ble_eq_true rfl, Nat.le_of_ble_eq_true rfl⟩) (hc_10 C) rfl rfl (Nat.le_of_ble_eq_true rfl) ⟨Nat.le_of_ble_eq_true rfl, Nat.le_of_ble_eq_true rfl⟩ dX6_in_12 (fun r5 => ?_)
    refine g_goto (pc := 15) C 19 dX6_in_15 (by decide) ?_
    exact g_sub [0, 1] rfl (J19 r5)

set_option maxHeartbeats 2000000 in
set_option maxRecDepth 100000 in
theorem n_X6_pixel (l : Launch) (D : va_G) (ad : Nat → Nat) (cy : Nat → ClassId) (tl : Int32) (A : Nat → Prop) (p0 : Int32) (p1 : Int32) : zMi l yX6_pixel wz_X6_pixel ({ frames := 2, cells := 0, slots := 0, locals := 50 }) [.ref (ad 0), .int p0, .int p1] D (zTc cy) A (zMc D A ad cy tl) (fun _ => (zMc D A ad cy tl)) := by
  refine zstart_i (cc := cX6_pixel) (maxL := 3) (ty := .int) (own := RX6) (by decide) rfl rfl (Nat.le_of_ble_eq_true rfl) (fun p e s m args below meth c Q C r => ?_)
  have J22 : zG p l e ({ frames := 2, cells := 0, slots := 0, locals := 50 }) s m args below meth c 3 0 0 A Q (zMc D A ad cy tl) 22 [(0, .ref (ad 0)), (1, .int p0), (2, .int p1)] [] := by
    refine g_iconst (pc := 22) C (-1) dX6_pixel_22 (by decide) ?_
    exact g_ireturn r dX6_pixel_23 rfl (fun _ h => h)
  refine g_sub (lv' := [(0, .ref (ad 0)), (1, .int p0), (2, .int p1)]) [0, 1, 2] rfl ?_
  refine g_iload_n (pc := 0) C dX6_pixel_0 rfl 1 rfl ?_
  refine g_if_lt (pc := 1) C 22 dX6_pixel_1 (by decide) (fun c1 => ?_) (fun c1 => ?_)
  · have h2 : zI (-2147483648) (-1) p0 := zr_lt1 (zc_lt c1) (zi_full p0) (zi_c 0 (a := 0) (b := 0) (by decide)) (by decide)
    exact g_sub [0, 1, 2] rfl (J22 )
  · have h3 : zI 0 2147483647 p0 := zr_le2 (zc_nlt c1) (zi_c 0 (a := 0) (b := 0) (by decide)) (zi_full p0) (by decide)
    refine g_iload_n (pc := 4) C dX6_pixel_4 rfl 1 rfl ?_
    refine g_sipush (pc := 5) C 255 dX6_pixel_5 (by decide) ?_
    refine g_icmp_gt (pc := 8) C 22 dX6_pixel_8 (by decide) (fun c4 => ?_) (fun c4 => ?_)
    · have h5 : zI 256 2147483647 p0 := zr_lt2 (zc_lt c4) (zi_c 255 (a := 255) (b := 255) (by decide)) h3 (by decide)
      exact g_sub [0, 1, 2] rfl (J22 )
    · have h6 : zI 0 255 p0 := zr_le1 (zc_nlt c4) h3 (zi_c 255 (a := 255) (b := 255) (by decide)) (by decide)
      refine g_iload_n (pc := 11) C dX6_pixel_11 rfl 2 rfl ?_
      refine g_if_lt (pc := 12) C 22 dX6_pixel_12 (by decide) (fun c7 => ?_) (fun c7 => ?_)
      · have h8 : zI (-2147483648) (-1) p1 := zr_lt1 (zc_lt c7) (zi_full p1) (zi_c 0 (a := 0) (b := 0) (by decide)) (by decide)
        exact g_sub [0, 1, 2] rfl (J22 )
      · have h9 : zI 0 2147483647 p1 := zr_le2 (zc_nlt c7) (zi_c 0 (a := 0) (b := 0) (by decide)) (zi_full p1) (by decide)
        refine g_iload_n (pc := 15) C dX6_pixel_15 rfl 2 rfl ?_
        refine g_sipush (pc := 16) C 191 dX6_pixel_16 (by decide) ?_
        refine g_icmp_le (pc := 19) C 24 dX6_pixel_19 (by decide) (fun c10 => ?_) (fun c10 => ?_)
        · have h11 : zI 0 191 p1 := zr_le1 (zc_le c10) h9 (zi_c 191 (a := 191) (b := 191) (by decide)) (by decide)
          refine g_aload_n (pc := 24) C dX6_pixel_24 rfl 0 rfl ?_
          refine gc_0_1 (pc := 25) C wk_264 dX6_pixel_25 ?_
          refine g_iload_n (pc := 28) C dX6_pixel_28 rfl 1 rfl ?_
          refine g_iload_n (pc := 29) C dX6_pixel_29 rfl 2 rfl ?_
          refine zcallVi (pc := 30) (st := []) C C.2.2.2.2.2 (n_X3_colourAt l D ad cy tl A p0 p1) (cwV 2 C.2.2.2.2.1 gw_RX6_179 rfl rfl rfl cd_X3_colourAt ⟨Nat.le_of_ble_eq_true rfl, Nat.le_of_ble_eq_true rfl⟩) (hc_3 C) rfl rfl (Nat.le_of_ble_eq_true rfl) ⟨Nat.le_of_ble_eq_true rfl, Nat.le_of_ble_eq_true rfl⟩ dX6_pixel_30 (fun r12 => ?_)
          exact g_ireturn r dX6_pixel_33 rfl (fun _ h => h)
        · have h13 : zI 192 2147483647 p1 := zr_lt2 (zc_nle c10) (zi_c 191 (a := 191) (b := 191) (by decide)) h9 (by decide)
          exact g_sub [0, 1, 2] rfl (J22 )

theorem n_X6_load (l : Launch) (D : va_G) (ad : Nat → Nat) (cy : Nat → ClassId) (tl : Int32) (A : Nat → Prop) (p0 p1 : Int32) (htl : zI 0 1000 tl) : zMi l yX6_load wz_X6_load ({ frames := 4, cells := 0, slots := 0, locals := 96 }) [.ref (ad 0), .int p0, .int p1] D (zTc cy) A (zMc D A ad cy tl) (fun r H => ∃ t, zload tl p0 p1 r t ∧ zMc D A ad cy t H) := by
  rcases zarea p0 with h | rfl | rfl | rfl | rfl | h
  · exact n_X6_loadL l D ad cy tl A p0 p1 htl h
  · exact n_X6_load0 l D ad cy tl A p1 htl
  · exact n_X6_load1 l D ad cy tl A p1 htl
  · exact n_X6_load2 l D ad cy tl A p1 htl
  · exact n_X6_load3 l D ad cy tl A p1 htl
  · exact n_X6_loadH l D ad cy tl A p0 p1 htl h

