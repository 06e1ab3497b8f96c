theorem in_X7_feed_X7 : ∀ w ∈ wsX70, w ∈ wsX7_feed := by decide +kernel
set_option maxHeartbeats 1000000 in
set_option maxRecDepth 100000 in
theorem m_feed (l : Launch) (dC : Nat → ClassId) (dI : Nat → Nat → Nat) (y yo ya yv yg yp yu yk yq yt : Nat) (eo ea ev eg ep eu ek eq et : ClassId) (p0 : Int32) (p1 : Int32) (p2 : Int32) (p3 : Int32) (p4 : Int32) (sz : Nat)  : Met l yX7_feed wsX7_feed ({ frames := 0, cells := 0, slots := 0, locals := 0 }) (va_Pc [.ref y, .int p0, .int p1, .int p2, .int p3, .int p4] (fun U => U.heap.size = sz ∧ va_P (dC, dI) vwCl [(y, .inr (7, [.int 0, .ref yo, .ref ya, .ref yv, .ref yg, .int 0, .int 0, .int 0, .int 0, .int 0, .ref yp, .int 0, .int 0, .int 0, .ref yu, .ref yk, .int 0, .int 0, .int 0, .int 2, .int 0, .int 0, .ref yq, .int 0, .ref yt, .int 0])), (yt, .inl (et, 1000, .inl (fun _ => 0)))] U.heap ∧ va_K (dC, dI) vwCl [(et, .int)] U ∧ va_D (fun _ => True) [(y, .inr (7, [.int 0, .ref yo, .ref ya, .ref yv, .ref yg, .int 0, .int 0, .int 0, .int 0, .int 0, .ref yp, .int 0, .int 0, .int 0, .ref yu, .ref yk, .int 0, .int 0, .int 0, .int 2, .int 0, .int 0, .ref yq, .int 0, .ref yt, .int 0])), (yt, .inl (et, 1000, .inl (fun _ => 0)))])) (va_Qi (fun (r : Int32) (_ : Unit) => r = 20) (fun (u : Unit) (t : State) => va_P (dC, dI) vwCl [] t.heap ∧ va_K (dC, dI) vwCl [] t ∧ va_D (va_A [(y, .inr (7, [.int 0, .ref yo, .ref ya, .ref yv, .ref yg, .int 0, .int 0, .int 0, .int 0, .int 0, .ref yp, .int 0, .int 0, .int 0, .ref yu, .ref yk, .int 0, .int 0, .int 0, .int 2, .int 0, .int 0, .ref yq, .int 0, .ref yt, .int 0])), (yt, .inl (et, 1000, .inl (fun _ => 0)))] sz) []) (va_A [(y, .inr (7, [.int 0, .ref yo, .ref ya, .ref yv, .ref yg, .int 0, .int 0, .int 0, .int 0, .int 0, .ref yp, .int 0, .int 0, .int 0, .ref yu, .ref yk, .int 0, .int 0, .int 0, .int 2, .int 0, .int 0, .ref yq, .int 0, .ref yt, .int 0])), (yt, .inl (et, 1000, .inl (fun _ => 0)))] sz)) 0 0 (va_A [(y, .inr (7, [.int 0, .ref yo, .ref ya, .ref yv, .ref yg, .int 0, .int 0, .int 0, .int 0, .int 0, .ref yp, .int 0, .int 0, .int 0, .ref yu, .ref yk, .int 0, .int 0, .int 0, .int 2, .int 0, .int 0, .ref yq, .int 0, .ref yt, .int 0])), (yt, .inl (et, 1000, .inl (fun _ => 0)))] sz) := by
  refine Met.ofW (cc := cX7_feed) (maxL := 8) (ret := (some .int)) (by decide) rfl ?_
  intro p e s m args below meth c s₁ B hml hv
  obtain ⟨rfl, hsz, hP, hK, hD0⟩ := hv
  have hx := B.exec
  have hb := B.bytes
  have hr := B.returns
  have hts := atoms_spec (ws := wsX7_feed) B.pre
  have hown : s.vm.findClass RX7 = some m.cls := findClass_of_methodNamed B.named
  have hlocks := B.notSynchronized
  subst hsz
  have hD := hD0.self (sz := s.heap.size)
  generalize hAe : va_A [(y, .inr (7, [.int 0, .ref yo, .ref ya, .ref yv, .ref yg, .int 0, .int 0, .int 0, .int 0, .int 0, .ref yp, .int 0, .int 0, .int 0, .ref yu, .ref yk, .int 0, .int 0, .int 0, .int 2, .int 0, .int 0, .ref yq, .int 0, .ref yt, .int 0])), (yt, .inl (et, 1000, .inl (fun _ => 0)))] s.heap.size = A at hD ⊢
  have hA : ∀ q : Nat, s.heap.size ≤ q → A q := fun q h => by rw [← hAe]; exact Or.inr h
  have hS : va_S A s.heap s.heap [] := va_S.rf
  have hP : va_P (dC, dI) vwCl [(y, .inr (7, [.int 0, .ref yo, .ref ya, .ref yv, .ref yg, .int 0, .int 0, .int 0, .int 0, .int 0, .ref yp, .int 0, .int 0, .int 0, .ref yu, .ref yk, .int 0, .int 0, .int 0, .int 2, .int 0, .int 0, .ref yq, .int 0, .ref yt, .int 0])), (yt, .inl (et, 1000, .inl (fun _ => 0)))] s.heap := hP
  have hl := lv_entry ([.ref y, .int p0, .int p1, .int p2, .int p3, .int p4]) (n := 8) (Nat.le_of_ble_eq_true rfl)
  rw [lg_entry_eq]
  generalize (lg_sl ([.ref y, .int p0, .int p1, .int p2, .int p3, .int p4]) ++ List.replicate (8 - (lg_sl ([.ref y, .int p0, .int p1, .int p2, .int p3, .int p4])).length) Slot.unset).toArray = ls at hl ⊢
  have hl : lv_has ls 8 [(0, .ref y), (1, .int p0), (2, .int p1), (3, .int p2), (4, .int p3), (5, .int p4)] := hl
  refine lv_aload_n hx hb dX7_feed_0 rfl (lv_at hl 0 rfl) ?_
  refine lv_iconst (v := 0) hx hb dX7_feed_1 (by decide) ?_
  refine va_put (D := (dC, dI)) (ci := 7) (v := .int 0) (ty := .int) (C := RX7) (T := TX7) (N := 26) hx hb hts in_X7_feed_X7 tyX7 tyX7_ok nmX7 hown hK hP hD hS 0 rfl rfl 0 (by decide) (hts (.fieldLink RX7 44 "WorkspaceBoxModel" "thrown" "I") (by decide +kernel)) (fun _ h9 => h9) rfl (by decide +kernel) rfl rfl (Nat.le_of_ble_eq_true rfl) dX7_feed_2 (fun H locs hP hD hS => ?_)
  have hP : va_P (dC, dI) vwCl [(y, .inr (7, [.int 0, .ref yo, .ref ya, .ref yv, .ref yg, .int 0, .int 0, .int 0, .int 0, .int 0, .ref yp, .int 0, .int 0, .int 0, .ref yu, .ref yk, .int 0, .int 0, .int 0, .int 2, .int 0, .int 0, .ref yq, .int 0, .ref yt, .int 0])), (yt, .inl (et, 1000, .inl (fun _ => 0)))] H := hP
  have hD : va_D A [(y, .inr (7, [.int 0, .ref yo, .ref ya, .ref yv, .ref yg, .int 0, .int 0, .int 0, .int 0, .int 0, .ref yp, .int 0, .int 0, .int 0, .ref yu, .ref yk, .int 0, .int 0, .int 0, .int 2, .int 0, .int 0, .ref yq, .int 0, .ref yt, .int 0])), (yt, .inl (et, 1000, .inl (fun _ => 0)))] := hD
  refine lv_aload_n hx hb dX7_feed_5 rfl (lv_at hl 0 rfl) ?_
  refine va_get (D := (dC, dI)) (ci := 7) (v := .int 0) (C := RX7) (T := TX7) (N := 26) hx hb hts in_X7_feed_X7 hown hK hP 0 rfl rfl 25 (by decide) (hts (.fieldLink RX7 245 "WorkspaceBoxModel" "taped" "I") (by decide +kernel)) (fun _ h9 => h9) rfl dX7_feed_6 ?_
  refine lv_bipush (v := 20) hx hb dX7_feed_9 (by decide) ?_
  refine lv_iadd hx hb dX7_feed_11 ?_
  refine lv_topi (fun y_1 ey_1 => ?_)
  obtain rfl : y_1 = 20 := ey_1.trans (by decide)
  refine lv_sipush (v := 1000) hx hb dX7_feed_12 (by decide) ?_
  refine lv_icmp_le (tgt := 20) hx hb dX7_feed_15 (by decide) (fun _ => ?_) (fun h => absurd (by decide) h)
  refine lv_iconst (v := 0) hx hb dX7_feed_20 (by decide) ?_
  refine lv_istore (lv' := [(6, .int 0), (0, .ref y), (1, .int p0), (2, .int p1), (3, .int p2), (4, .int p3), (5, .int p4)]) hx hb dX7_feed_21 hl (by decide) rfl (fun ls hl => ?_)
  refine lv_iload hx hb dX7_feed_23 (lv_at hl 0 rfl) ?_
  refine lv_bipush (v := 20) hx hb dX7_feed_25 (by decide) ?_
  refine lv_icmp_ge (tgt := 120) hx hb dX7_feed_27 (by decide) (fun h => absurd h (by decide)) (fun _ => ?_)
  refine lv_iload hx hb dX7_feed_30 (lv_at hl 0 rfl) ?_
  refine lv_iconst (v := 4) hx hb dX7_feed_32 (by decide) ?_
  refine lv_icmp_ge (tgt := 40) hx hb dX7_feed_33 (by decide) (fun h => absurd h (by decide)) (fun _ => ?_)
  refine lv_iload_n hx hb dX7_feed_36 rfl (lv_at hl 2 rfl) ?_
  refine lv_goto (tgt := 76) hx hb dX7_feed_37 (by decide) ?_
  refine lv_istore (lv' := [(7, .int p0), (6, .int 0), (0, .ref y), (1, .int p0), (2, .int p1), (3, .int p2), (4, .int p3), (5, .int p4)]) hx hb dX7_feed_76 hl (by decide) rfl (fun ls hl => ?_)
  refine lv_aload_n hx hb dX7_feed_78 rfl (lv_at hl 2 rfl) ?_
  refine va_get (D := (dC, dI)) (ci := 7) (v := .ref yt) (C := RX7) (T := TX7) (N := 26) hx hb hts in_X7_feed_X7 hown hK hP 0 rfl rfl 24 (by decide) (hts (.fieldLink RX7 41 "WorkspaceBoxModel" "tape" "[I") (by decide +kernel)) (fun _ h9 => h9) rfl dX7_feed_79 ?_
  refine lv_aload_n hx hb dX7_feed_82 rfl (lv_at hl 2 rfl) ?_
  refine va_get (D := (dC, dI)) (ci := 7) (v := .int 0) (C := RX7) (T := TX7) (N := 26) hx hb hts in_X7_feed_X7 hown hK hP 0 rfl rfl 25 (by decide) (hts (.fieldLink RX7 245 "WorkspaceBoxModel" "taped" "I") (by decide +kernel)) (fun _ h9 => h9) rfl dX7_feed_83 ?_
  refine lv_iload hx hb dX7_feed_86 (lv_at hl 0 rfl) ?_
  refine lv_bipush (v := 24) hx hb dX7_feed_88 (by decide) ?_
  refine lv_bipush (v := 8) hx hb dX7_feed_90 (by decide) ?_
  refine lv_iload hx hb dX7_feed_92 (lv_at hl 1 rfl) ?_
  refine lv_iconst (v := 4) hx hb dX7_feed_94 (by decide) ?_
  refine lv_irem hx hb dX7_feed_95 (by decide) ?_
  refine lv_topi (fun y_2 ey_2 => ?_)
  obtain rfl : y_2 = 0 := ey_2.trans (by decide)
  refine lv_imul hx hb dX7_feed_96 ?_
  refine lv_topi (fun y_3 ey_3 => ?_)
  obtain rfl : y_3 = 0 := ey_3.trans (by decide)
  refine lv_isub hx hb dX7_feed_97 ?_
  refine lv_topi (fun y_4 ey_4 => ?_)
  obtain rfl : y_4 = 24 := ey_4.trans (by decide)
  refine lv_ishr hx hb dX7_feed_98 ?_
  refine lv_topi (fun y_5 ey_5 => ?_)
  refine lv_sipush (v := 255) hx hb dX7_feed_99 (by decide) ?_
  refine lv_iand hx hb dX7_feed_102 ?_
  refine lv_topi (fun y_6 ey_6 => ?_)
  refine va_iast hx hb hK hP hD hS 1 0 rfl rfl (by unfold vp_in; decide) dX7_feed_103 (fun H locs hP hD hS => ?_)
  obtain ⟨f_7, ef_7⟩ : ∃ g, g = upd (fun _ => 0) (0 : Int32).toNatClampNeg y_6 := ⟨_, rfl⟩
  have hP : va_P (dC, dI) vwCl [(y, .inr (7, [.int 0, .ref yo, .ref ya, .ref yv, .ref yg, .int 0, .int 0, .int 0, .int 0, .int 0, .ref yp, .int 0, .int 0, .int 0, .ref yu, .ref yk, .int 0, .int 0, .int 0, .int 2, .int 0, .int 0, .ref yq, .int 0, .ref yt, .int 0])), (yt, .inl (et, 1000, .inl (f_7)))] H := by rw [ef_7]; exact hP
  have hD : va_D A [(y, .inr (7, [.int 0, .ref yo, .ref ya, .ref yv, .ref yg, .int 0, .int 0, .int 0, .int 0, .int 0, .ref yp, .int 0, .int 0, .int 0, .ref yu, .ref yk, .int 0, .int 0, .int 0, .int 2, .int 0, .int 0, .ref yq, .int 0, .ref yt, .int 0])), (yt, .inl (et, 1000, .inl (f_7)))] := by rw [ef_7]; exact hD
  refine lv_aload_n hx hb dX7_feed_104 rfl (lv_at hl 2 rfl) ?_
  refine lv_dup hx hb dX7_feed_105 rfl ?_
  refine va_get (D := (dC, dI)) (ci := 7) (v := .int 0) (C := RX7) (T := TX7) (N := 26) hx hb hts in_X7_feed_X7 hown hK hP 0 rfl rfl 25 (by decide) (hts (.fieldLink RX7 245 "WorkspaceBoxModel" "taped" "I") (by decide +kernel)) (fun _ h9 => h9) rfl dX7_feed_106 ?_
  refine lv_iconst (v := 1) hx hb dX7_feed_109 (by decide) ?_
  refine lv_iadd hx hb dX7_feed_110 ?_
  refine lv_topi (fun y_8 ey_8 => ?_)
  obtain rfl : y_8 = 1 := ey_8.trans (by decide)
  refine va_put (D := (dC, dI)) (ci := 7) (v := .int 1) (ty := .int) (C := RX7) (T := TX7) (N := 26) hx hb hts in_X7_feed_X7 tyX7 tyX7_ok nmX7 hown hK hP hD hS 0 rfl rfl 25 (by decide) (hts (.fieldLink RX7 245 "WorkspaceBoxModel" "taped" "I") (by decide +kernel)) (fun _ h9 => h9) rfl (by decide +kernel) rfl rfl (Nat.le_of_ble_eq_true rfl) dX7_feed_111 (fun H locs hP hD hS => ?_)
  have hP : va_P (dC, dI) vwCl [(y, .inr (7, [.int 0, .ref yo, .ref ya, .ref yv, .ref yg, .int 0, .int 0, .int 0, .int 0, .int 0, .ref yp, .int 0, .int 0, .int 0, .ref yu, .ref yk, .int 0, .int 0, .int 0, .int 2, .int 0, .int 0, .ref yq, .int 0, .ref yt, .int 1])), (yt, .inl (et, 1000, .inl (f_7)))] H := hP
  have hD : va_D A [(y, .inr (7, [.int 0, .ref yo, .ref ya, .ref yv, .ref yg, .int 0, .int 0, .int 0, .int 0, .int 0, .ref yp, .int 0, .int 0, .int 0, .ref yu, .ref yk, .int 0, .int 0, .int 0, .int 2, .int 0, .int 0, .ref yq, .int 0, .ref yt, .int 1])), (yt, .inl (et, 1000, .inl (f_7)))] := hD
  refine lv_iinc (v := 1) (lv' := [(6, .int 1), (7, .int p0), (0, .ref y), (1, .int p0), (2, .int p1), (3, .int p2), (4, .int p3), (5, .int p4)]) hx hb dX7_feed_114 hl (k := 1) rfl (by decide) (by decide) rfl (fun ls hl => ?_)
  refine lv_goto (tgt := 23) hx hb dX7_feed_117 (by decide) ?_
  refine lv_iload hx hb dX7_feed_23 (lv_at hl 0 rfl) ?_
  refine lv_bipush (v := 20) hx hb dX7_feed_25 (by decide) ?_
  refine lv_icmp_ge (tgt := 120) hx hb dX7_feed_27 (by decide) (fun h => absurd h (by decide)) (fun _ => ?_)
  refine lv_iload hx hb dX7_feed_30 (lv_at hl 0 rfl) ?_
  refine lv_iconst (v := 4) hx hb dX7_feed_32 (by decide) ?_
  refine lv_icmp_ge (tgt := 40) hx hb dX7_feed_33 (by decide) (fun h => absurd h (by decide)) (fun _ => ?_)
  refine lv_iload_n hx hb dX7_feed_36 rfl (lv_at hl 3 rfl) ?_
  refine lv_goto (tgt := 76) hx hb dX7_feed_37 (by decide) ?_
  refine lv_istore (lv' := [(7, .int p0), (6, .int 1), (0, .ref y), (1, .int p0), (2, .int p1), (3, .int p2), (4, .int p3), (5, .int p4)]) hx hb dX7_feed_76 hl (by decide) rfl (fun ls hl => ?_)
  refine lv_aload_n hx hb dX7_feed_78 rfl (lv_at hl 2 rfl) ?_
  refine va_get (D := (dC, dI)) (ci := 7) (v := .ref yt) (C := RX7) (T := TX7) (N := 26) hx hb hts in_X7_feed_X7 hown hK hP 0 rfl rfl 24 (by decide) (hts (.fieldLink RX7 41 "WorkspaceBoxModel" "tape" "[I") (by decide +kernel)) (fun _ h9 => h9) rfl dX7_feed_79 ?_
  refine lv_aload_n hx hb dX7_feed_82 rfl (lv_at hl 2 rfl) ?_
  refine va_get (D := (dC, dI)) (ci := 7) (v := .int 1) (C := RX7) (T := TX7) (N := 26) hx hb hts in_X7_feed_X7 hown hK hP 0 rfl rfl 25 (by decide) (hts (.fieldLink RX7 245 "WorkspaceBoxModel" "taped" "I") (by decide +kernel)) (fun _ h9 => h9) rfl dX7_feed_83 ?_
  refine lv_iload hx hb dX7_feed_86 (lv_at hl 0 rfl) ?_
  refine lv_bipush (v := 24) hx hb dX7_feed_88 (by decide) ?_
  refine lv_bipush (v := 8) hx hb dX7_feed_90 (by decide) ?_
  refine lv_iload hx hb dX7_feed_92 (lv_at hl 1 rfl) ?_
  refine lv_iconst (v := 4) hx hb dX7_feed_94 (by decide) ?_
  refine lv_irem hx hb dX7_feed_95 (by decide) ?_
  refine lv_topi (fun y_9 ey_9 => ?_)
  obtain rfl : y_9 = 1 := ey_9.trans (by decide)
  refine lv_imul hx hb dX7_feed_96 ?_
  refine lv_topi (fun y_10 ey_10 => ?_)
  obtain rfl : y_10 = 8 := ey_10.trans (by decide)
  refine lv_isub hx hb dX7_feed_97 ?_
  refine lv_topi (fun y_11 ey_11 => ?_)
  obtain rfl : y_11 = 16 := ey_11.trans (by decide)
  refine lv_ishr hx hb dX7_feed_98 ?_
  refine lv_topi (fun y_12 ey_12 => ?_)
  refine lv_sipush (v := 255) hx hb dX7_feed_99 (by decide) ?_
  refine lv_iand hx hb dX7_feed_102 ?_
  refine lv_topi (fun y_13 ey_13 => ?_)
  refine va_iast hx hb hK hP hD hS 1 0 rfl rfl (by unfold vp_in; decide) dX7_feed_103 (fun H locs hP hD hS => ?_)
  obtain ⟨f_14, ef_14⟩ : ∃ g, g = upd (f_7) (1 : Int32).toNatClampNeg y_13 := ⟨_, rfl⟩
  have hP : va_P (dC, dI) vwCl [(y, .inr (7, [.int 0, .ref yo, .ref ya, .ref yv, .ref yg, .int 0, .int 0, .int 0, .int 0, .int 0, .ref yp, .int 0, .int 0, .int 0, .ref yu, .ref yk, .int 0, .int 0, .int 0, .int 2, .int 0, .int 0, .ref yq, .int 0, .ref yt, .int 1])), (yt, .inl (et, 1000, .inl (f_14)))] H := by rw [ef_14]; exact hP
  have hD : va_D A [(y, .inr (7, [.int 0, .ref yo, .ref ya, .ref yv, .ref yg, .int 0, .int 0, .int 0, .int 0, .int 0, .ref yp, .int 0, .int 0, .int 0, .ref yu, .ref yk, .int 0, .int 0, .int 0, .int 2, .int 0, .int 0, .ref yq, .int 0, .ref yt, .int 1])), (yt, .inl (et, 1000, .inl (f_14)))] := by rw [ef_14]; exact hD
  refine lv_aload_n hx hb dX7_feed_104 rfl (lv_at hl 2 rfl) ?_
  refine lv_dup hx hb dX7_feed_105 rfl ?_
  refine va_get (D := (dC, dI)) (ci := 7) (v := .int 1) (C := RX7) (T := TX7) (N := 26) hx hb hts in_X7_feed_X7 hown hK hP 0 rfl rfl 25 (by decide) (hts (.fieldLink RX7 245 "WorkspaceBoxModel" "taped" "I") (by decide +kernel)) (fun _ h9 => h9) rfl dX7_feed_106 ?_
  refine lv_iconst (v := 1) hx hb dX7_feed_109 (by decide) ?_
  refine lv_iadd hx hb dX7_feed_110 ?_
  refine lv_topi (fun y_15 ey_15 => ?_)
  obtain rfl : y_15 = 2 := ey_15.trans (by decide)
  refine va_put (D := (dC, dI)) (ci := 7) (v := .int 2) (ty := .int) (C := RX7) (T := TX7) (N := 26) hx hb hts in_X7_feed_X7 tyX7 tyX7_ok nmX7 hown hK hP hD hS 0 rfl rfl 25 (by decide) (hts (.fieldLink RX7 245 "WorkspaceBoxModel" "taped" "I") (by decide +kernel)) (fun _ h9 => h9) rfl (by decide +kernel) rfl rfl (Nat.le_of_ble_eq_true rfl) dX7_feed_111 (fun H locs hP hD hS => ?_)
  have hP : va_P (dC, dI) vwCl [(y, .inr (7, [.int 0, .ref yo, .ref ya, .ref yv, .ref yg, .int 0, .int 0, .int 0, .int 0, .int 0, .ref yp, .int 0, .int 0, .int 0, .ref yu, .ref yk, .int 0, .int 0, .int 0, .int 2, .int 0, .int 0, .ref yq, .int 0, .ref yt, .int 2])), (yt, .inl (et, 1000, .inl (f_14)))] H := hP
  have hD : va_D A [(y, .inr (7, [.int 0, .ref yo, .ref ya, .ref yv, .ref yg, .int 0, .int 0, .int 0, .int 0, .int 0, .ref yp, .int 0, .int 0, .int 0, .ref yu, .ref yk, .int 0, .int 0, .int 0, .int 2, .int 0, .int 0, .ref yq, .int 0, .ref yt, .int 2])), (yt, .inl (et, 1000, .inl (f_14)))] := hD
  refine lv_iinc (v := 2) (lv' := [(6, .int 2), (7, .int p0), (0, .ref y), (1, .int p0), (2, .int p1), (3, .int p2), (4, .int p3), (5, .int p4)]) hx hb dX7_feed_114 hl (k := 1) rfl (by decide) (by decide) rfl (fun ls hl => ?_)
  refine lv_goto (tgt := 23) hx hb dX7_feed_117 (by decide) ?_
  refine lv_iload hx hb dX7_feed_23 (lv_at hl 0 rfl) ?_
  refine lv_bipush (v := 20) hx hb dX7_feed_25 (by decide) ?_
  refine lv_icmp_ge (tgt := 120) hx hb dX7_feed_27 (by decide) (fun h => absurd h (by decide)) (fun _ => ?_)
  refine lv_iload hx hb dX7_feed_30 (lv_at hl 0 rfl) ?_
  refine lv_iconst (v := 4) hx hb dX7_feed_32 (by decide) ?_
  refine lv_icmp_ge (tgt := 40) hx hb dX7_feed_33 (by decide) (fun h => absurd h (by decide)) (fun _ => ?_)
  refine lv_iload_n hx hb dX7_feed_36 rfl (lv_at hl 3 rfl) ?_
  refine lv_goto (tgt := 76) hx hb dX7_feed_37 (by decide) ?_
  refine lv_istore (lv' := [(7, .int p0), (6, .int 2), (0, .ref y), (1, .int p0), (2, .int p1), (3, .int p2), (4, .int p3), (5, .int p4)]) hx hb dX7_feed_76 hl (by decide) rfl (fun ls hl => ?_)
  refine lv_aload_n hx hb dX7_feed_78 rfl (lv_at hl 2 rfl) ?_
  refine va_get (D := (dC, dI)) (ci := 7) (v := .ref yt) (C := RX7) (T := TX7) (N := 26) hx hb hts in_X7_feed_X7 hown hK hP 0 rfl rfl 24 (by decide) (hts (.fieldLink RX7 41 "WorkspaceBoxModel" "tape" "[I") (by decide +kernel)) (fun _ h9 => h9) rfl dX7_feed_79 ?_
  refine lv_aload_n hx hb dX7_feed_82 rfl (lv_at hl 2 rfl) ?_
  refine va_get (D := (dC, dI)) (ci := 7) (v := .int 2) (C := RX7) (T := TX7) (N := 26) hx hb hts in_X7_feed_X7 hown hK hP 0 rfl rfl 25 (by decide) (hts (.fieldLink RX7 245 "WorkspaceBoxModel" "taped" "I") (by decide +kernel)) (fun _ h9 => h9) rfl dX7_feed_83 ?_
  refine lv_iload hx hb dX7_feed_86 (lv_at hl 0 rfl) ?_
  refine lv_bipush (v := 24) hx hb dX7_feed_88 (by decide) ?_
  refine lv_bipush (v := 8) hx hb dX7_feed_90 (by decide) ?_
  refine lv_iload hx hb dX7_feed_92 (lv_at hl 1 rfl) ?_
  refine lv_iconst (v := 4) hx hb dX7_feed_94 (by decide) ?_
  refine lv_irem hx hb dX7_feed_95 (by decide) ?_
  refine lv_topi (fun y_16 ey_16 => ?_)
  obtain rfl : y_16 = 2 := ey_16.trans (by decide)
  refine lv_imul hx hb dX7_feed_96 ?_
  refine lv_topi (fun y_17 ey_17 => ?_)
  obtain rfl : y_17 = 16 := ey_17.trans (by decide)
  refine lv_isub hx hb dX7_feed_97 ?_
  refine lv_topi (fun y_18 ey_18 => ?_)
  obtain rfl : y_18 = 8 := ey_18.trans (by decide)
  refine lv_ishr hx hb dX7_feed_98 ?_
  refine lv_topi (fun y_19 ey_19 => ?_)
  refine lv_sipush (v := 255) hx hb dX7_feed_99 (by decide) ?_
  refine lv_iand hx hb dX7_feed_102 ?_
  refine lv_topi (fun y_20 ey_20 => ?_)
  refine va_iast hx hb hK hP hD hS 1 0 rfl rfl (by unfold vp_in; decide) dX7_feed_103 (fun H locs hP hD hS => ?_)
  obtain ⟨f_21, ef_21⟩ : ∃ g, g = upd (f_14) (2 : Int32).toNatClampNeg y_20 := ⟨_, rfl⟩
  have hP : va_P (dC, dI) vwCl [(y, .inr (7, [.int 0, .ref yo, .ref ya, .ref yv, .ref yg, .int 0, .int 0, .int 0, .int 0, .int 0, .ref yp, .int 0, .int 0, .int 0, .ref yu, .ref yk, .int 0, .int 0, .int 0, .int 2, .int 0, .int 0, .ref yq, .int 0, .ref yt, .int 2])), (yt, .inl (et, 1000, .inl (f_21)))] H := by rw [ef_21]; exact hP
  have hD : va_D A [(y, .inr (7, [.int 0, .ref yo, .ref ya, .ref yv, .ref yg, .int 0, .int 0, .int 0, .int 0, .int 0, .ref yp, .int 0, .int 0, .int 0, .ref yu, .ref yk, .int 0, .int 0, .int 0, .int 2, .int 0, .int 0, .ref yq, .int 0, .ref yt, .int 2])), (yt, .inl (et, 1000, .inl (f_21)))] := by rw [ef_21]; exact hD
  refine lv_aload_n hx hb dX7_feed_104 rfl (lv_at hl 2 rfl) ?_
  refine lv_dup hx hb dX7_feed_105 rfl ?_
  refine va_get (D := (dC, dI)) (ci := 7) (v := .int 2) (C := RX7) (T := TX7) (N := 26) hx hb hts in_X7_feed_X7 hown hK hP 0 rfl rfl 25 (by decide) (hts (.fieldLink RX7 245 "WorkspaceBoxModel" "taped" "I") (by decide +kernel)) (fun _ h9 => h9) rfl dX7_feed_106 ?_
  refine lv_iconst (v := 1) hx hb dX7_feed_109 (by decide) ?_
  refine lv_iadd hx hb dX7_feed_110 ?_
  refine lv_topi (fun y_22 ey_22 => ?_)
  obtain rfl : y_22 = 3 := ey_22.trans (by decide)
  refine va_put (D := (dC, dI)) (ci := 7) (v := .int 3) (ty := .int) (C := RX7) (T := TX7) (N := 26) hx hb hts in_X7_feed_X7 tyX7 tyX7_ok nmX7 hown hK hP hD hS 0 rfl rfl 25 (by decide) (hts (.fieldLink RX7 245 "WorkspaceBoxModel" "taped" "I") (by decide +kernel)) (fun _ h9 => h9) rfl (by decide +kernel) rfl rfl (Nat.le_of_ble_eq_true rfl) dX7_feed_111 (fun H locs hP hD hS => ?_)
  have hP : va_P (dC, dI) vwCl [(y, .inr (7, [.int 0, .ref yo, .ref ya, .ref yv, .ref yg, .int 0, .int 0, .int 0, .int 0, .int 0, .ref yp, .int 0, .int 0, .int 0, .ref yu, .ref yk, .int 0, .int 0, .int 0, .int 2, .int 0, .int 0, .ref yq, .int 0, .ref yt, .int 3])), (yt, .inl (et, 1000, .inl (f_21)))] H := hP
  have hD : va_D A [(y, .inr (7, [.int 0, .ref yo, .ref ya, .ref yv, .ref yg, .int 0, .int 0, .int 0, .int 0, .int 0, .ref yp, .int 0, .int 0, .int 0, .ref yu, .ref yk, .int 0, .int 0, .int 0, .int 2, .int 0, .int 0, .ref yq, .int 0, .ref yt, .int 3])), (yt, .inl (et, 1000, .inl (f_21)))] := hD
  refine lv_iinc (v := 3) (lv' := [(6, .int 3), (7, .int p0), (0, .ref y), (1, .int p0), (2, .int p1), (3, .int p2), (4, .int p3), (5, .int p4)]) hx hb dX7_feed_114 hl (k := 1) rfl (by decide) (by decide) rfl (fun ls hl => ?_)
  refine lv_goto (tgt := 23) hx hb dX7_feed_117 (by decide) ?_
  refine lv_iload hx hb dX7_feed_23 (lv_at hl 0 rfl) ?_
  refine lv_bipush (v := 20) hx hb dX7_feed_25 (by decide) ?_
  refine lv_icmp_ge (tgt := 120) hx hb dX7_feed_27 (by decide) (fun h => absurd h (by decide)) (fun _ => ?_)
  refine lv_iload hx hb dX7_feed_30 (lv_at hl 0 rfl) ?_
  refine lv_iconst (v := 4) hx hb dX7_feed_32 (by decide) ?_
  refine lv_icmp_ge (tgt := 40) hx hb dX7_feed_33 (by decide) (fun h => absurd h (by decide)) (fun _ => ?_)
  refine lv_iload_n hx hb dX7_feed_36 rfl (lv_at hl 3 rfl) ?_
  refine lv_goto (tgt := 76) hx hb dX7_feed_37 (by decide) ?_
  refine lv_istore (lv' := [(7, .int p0), (6, .int 3), (0, .ref y), (1, .int p0), (2, .int p1), (3, .int p2), (4, .int p3), (5, .int p4)]) hx hb dX7_feed_76 hl (by decide) rfl (fun ls hl => ?_)
  refine lv_aload_n hx hb dX7_feed_78 rfl (lv_at hl 2 rfl) ?_
  refine va_get (D := (dC, dI)) (ci := 7) (v := .ref yt) (C := RX7) (T := TX7) (N := 26) hx hb hts in_X7_feed_X7 hown hK hP 0 rfl rfl 24 (by decide) (hts (.fieldLink RX7 41 "WorkspaceBoxModel" "tape" "[I") (by decide +kernel)) (fun _ h9 => h9) rfl dX7_feed_79 ?_
  refine lv_aload_n hx hb dX7_feed_82 rfl (lv_at hl 2 rfl) ?_
  refine va_get (D := (dC, dI)) (ci := 7) (v := .int 3) (C := RX7) (T := TX7) (N := 26) hx hb hts in_X7_feed_X7 hown hK hP 0 rfl rfl 25 (by decide) (hts (.fieldLink RX7 245 "WorkspaceBoxModel" "taped" "I") (by decide +kernel)) (fun _ h9 => h9) rfl dX7_feed_83 ?_
  refine lv_iload hx hb dX7_feed_86 (lv_at hl 0 rfl) ?_
  refine lv_bipush (v := 24) hx hb dX7_feed_88 (by decide) ?_
  refine lv_bipush (v := 8) hx hb dX7_feed_90 (by decide) ?_
  refine lv_iload hx hb dX7_feed_92 (lv_at hl 1 rfl) ?_
  refine lv_iconst (v := 4) hx hb dX7_feed_94 (by decide) ?_
  refine lv_irem hx hb dX7_feed_95 (by decide) ?_
  refine lv_topi (fun y_23 ey_23 => ?_)
  obtain rfl : y_23 = 3 := ey_23.trans (by decide)
  refine lv_imul hx hb dX7_feed_96 ?_
  refine lv_topi (fun y_24 ey_24 => ?_)
  obtain rfl : y_24 = 24 := ey_24.trans (by decide)
  refine lv_isub hx hb dX7_feed_97 ?_
  refine lv_topi (fun y_25 ey_25 => ?_)
  obtain rfl : y_25 = 0 := ey_25.trans (by decide)
  refine lv_ishr hx hb dX7_feed_98 ?_
  refine lv_topi (fun y_26 ey_26 => ?_)
  refine lv_sipush (v := 255) hx hb dX7_feed_99 (by decide) ?_
  refine lv_iand hx hb dX7_feed_102 ?_
  refine lv_topi (fun y_27 ey_27 => ?_)
  refine va_iast hx hb hK hP hD hS 1 0 rfl rfl (by unfold vp_in; decide) dX7_feed_103 (fun H locs hP hD hS => ?_)
  obtain ⟨f_28, ef_28⟩ : ∃ g, g = upd (f_21) (3 : Int32).toNatClampNeg y_27 := ⟨_, rfl⟩
  have hP : va_P (dC, dI) vwCl [(y, .inr (7, [.int 0, .ref yo, .ref ya, .ref yv, .ref yg, .int 0, .int 0, .int 0, .int 0, .int 0, .ref yp, .int 0, .int 0, .int 0, .ref yu, .ref yk, .int 0, .int 0, .int 0, .int 2, .int 0, .int 0, .ref yq, .int 0, .ref yt, .int 3])), (yt, .inl (et, 1000, .inl (f_28)))] H := by rw [ef_28]; exact hP
  have hD : va_D A [(y, .inr (7, [.int 0, .ref yo, .ref ya, .ref yv, .ref yg, .int 0, .int 0, .int 0, .int 0, .int 0, .ref yp, .int 0, .int 0, .int 0, .ref yu, .ref yk, .int 0, .int 0, .int 0, .int 2, .int 0, .int 0, .ref yq, .int 0, .ref yt, .int 3])), (yt, .inl (et, 1000, .inl (f_28)))] := by rw [ef_28]; exact hD
  refine lv_aload_n hx hb dX7_feed_104 rfl (lv_at hl 2 rfl) ?_
  refine lv_dup hx hb dX7_feed_105 rfl ?_
  refine va_get (D := (dC, dI)) (ci := 7) (v := .int 3) (C := RX7) (T := TX7) (N := 26) hx hb hts in_X7_feed_X7 hown hK hP 0 rfl rfl 25 (by decide) (hts (.fieldLink RX7 245 "WorkspaceBoxModel" "taped" "I") (by decide +kernel)) (fun _ h9 => h9) rfl dX7_feed_106 ?_
  refine lv_iconst (v := 1) hx hb dX7_feed_109 (by decide) ?_
  refine lv_iadd hx hb dX7_feed_110 ?_
  refine lv_topi (fun y_29 ey_29 => ?_)
  obtain rfl : y_29 = 4 := ey_29.trans (by decide)
  refine va_put (D := (dC, dI)) (ci := 7) (v := .int 4) (ty := .int) (C := RX7) (T := TX7) (N := 26) hx hb hts in_X7_feed_X7 tyX7 tyX7_ok nmX7 hown hK hP hD hS 0 rfl rfl 25 (by decide) (hts (.fieldLink RX7 245 "WorkspaceBoxModel" "taped" "I") (by decide +kernel)) (fun _ h9 => h9) rfl (by decide +kernel) rfl rfl (Nat.le_of_ble_eq_true rfl) dX7_feed_111 (fun H locs hP hD hS => ?_)
  have hP : va_P (dC, dI) vwCl [(y, .inr (7, [.int 0, .ref yo, .ref ya, .ref yv, .ref yg, .int 0, .int 0, .int 0, .int 0, .int 0, .ref yp, .int 0, .int 0, .int 0, .ref yu, .ref yk, .int 0, .int 0, .int 0, .int 2, .int 0, .int 0, .ref yq, .int 0, .ref yt, .int 4])), (yt, .inl (et, 1000, .inl (f_28)))] H := hP
  have hD : va_D A [(y, .inr (7, [.int 0, .ref yo, .ref ya, .ref yv, .ref yg, .int 0, .int 0, .int 0, .int 0, .int 0, .ref yp, .int 0, .int 0, .int 0, .ref yu, .ref yk, .int 0, .int 0, .int 0, .int 2, .int 0, .int 0, .ref yq, .int 0, .ref yt, .int 4])), (yt, .inl (et, 1000, .inl (f_28)))] := hD
  refine lv_iinc (v := 4) (lv' := [(6, .int 4), (7, .int p0), (0, .ref y), (1, .int p0), (2, .int p1), (3, .int p2), (4, .int p3), (5, .int p4)]) hx hb dX7_feed_114 hl (k := 1) rfl (by decide) (by decide) rfl (fun ls hl => ?_)
  refine lv_goto (tgt := 23) hx hb dX7_feed_117 (by decide) ?_
  refine lv_iload hx hb dX7_feed_23 (lv_at hl 0 rfl) ?_
  refine lv_bipush (v := 20) hx hb dX7_feed_25 (by decide) ?_
  refine lv_icmp_ge (tgt := 120) hx hb dX7_feed_27 (by decide) (fun h => absurd h (by decide)) (fun _ => ?_)
  refine lv_iload hx hb dX7_feed_30 (lv_at hl 0 rfl) ?_
  refine lv_iconst (v := 4) hx hb dX7_feed_32 (by decide) ?_
  refine lv_icmp_ge (tgt := 40) hx hb dX7_feed_33 (by decide) (fun _ => ?_) (fun h => absurd (by decide) h)
  refine lv_iload hx hb dX7_feed_40 (lv_at hl 0 rfl) ?_
  refine lv_bipush (v := 8) hx hb dX7_feed_42 (by decide) ?_
  refine lv_icmp_ge (tgt := 51) hx hb dX7_feed_44 (by decide) (fun h => absurd h (by decide)) (fun _ => ?_)
  refine lv_iload_n hx hb dX7_feed_47 rfl (lv_at hl 4 rfl) ?_
  refine lv_goto (tgt := 76) hx hb dX7_feed_48 (by decide) ?_
  refine lv_istore (lv' := [(7, .int p1), (6, .int 4), (0, .ref y), (1, .int p0), (2, .int p1), (3, .int p2), (4, .int p3), (5, .int p4)]) hx hb dX7_feed_76 hl (by decide) rfl (fun ls hl => ?_)
  refine lv_aload_n hx hb dX7_feed_78 rfl (lv_at hl 2 rfl) ?_
  refine va_get (D := (dC, dI)) (ci := 7) (v := .ref yt) (C := RX7) (T := TX7) (N := 26) hx hb hts in_X7_feed_X7 hown hK hP 0 rfl rfl 24 (by decide) (hts (.fieldLink RX7 41 "WorkspaceBoxModel" "tape" "[I") (by decide +kernel)) (fun _ h9 => h9) rfl dX7_feed_79 ?_
  refine lv_aload_n hx hb dX7_feed_82 rfl (lv_at hl 2 rfl) ?_
  refine va_get (D := (dC, dI)) (ci := 7) (v := .int 4) (C := RX7) (T := TX7) (N := 26) hx hb hts in_X7_feed_X7 hown hK hP 0 rfl rfl 25 (by decide) (hts (.fieldLink RX7 245 "WorkspaceBoxModel" "taped" "I") (by decide +kernel)) (fun _ h9 => h9) rfl dX7_feed_83 ?_
  refine lv_iload hx hb dX7_feed_86 (lv_at hl 0 rfl) ?_
  refine lv_bipush (v := 24) hx hb dX7_feed_88 (by decide) ?_
  refine lv_bipush (v := 8) hx hb dX7_feed_90 (by decide) ?_
  refine lv_iload hx hb dX7_feed_92 (lv_at hl 1 rfl) ?_
  refine lv_iconst (v := 4) hx hb dX7_feed_94 (by decide) ?_
  refine lv_irem hx hb dX7_feed_95 (by decide) ?_
  refine lv_topi (fun y_30 ey_30 => ?_)
  obtain rfl : y_30 = 0 := ey_30.trans (by decide)
  refine lv_imul hx hb dX7_feed_96 ?_
  refine lv_topi (fun y_31 ey_31 => ?_)
  obtain rfl : y_31 = 0 := ey_31.trans (by decide)
  refine lv_isub hx hb dX7_feed_97 ?_
  refine lv_topi (fun y_32 ey_32 => ?_)
  obtain rfl : y_32 = 24 := ey_32.trans (by decide)
  refine lv_ishr hx hb dX7_feed_98 ?_
  refine lv_topi (fun y_33 ey_33 => ?_)
  refine lv_sipush (v := 255) hx hb dX7_feed_99 (by decide) ?_
  refine lv_iand hx hb dX7_feed_102 ?_
  refine lv_topi (fun y_34 ey_34 => ?_)
  refine va_iast hx hb hK hP hD hS 1 0 rfl rfl (by unfold vp_in; decide) dX7_feed_103 (fun H locs hP hD hS => ?_)
  obtain ⟨f_35, ef_35⟩ : ∃ g, g = upd (f_28) (4 : Int32).toNatClampNeg y_34 := ⟨_, rfl⟩
  have hP : va_P (dC, dI) vwCl [(y, .inr (7, [.int 0, .ref yo, .ref ya, .ref yv, .ref yg, .int 0, .int 0, .int 0, .int 0, .int 0, .ref yp, .int 0, .int 0, .int 0, .ref yu, .ref yk, .int 0, .int 0, .int 0, .int 2, .int 0, .int 0, .ref yq, .int 0, .ref yt, .int 4])), (yt, .inl (et, 1000, .inl (f_35)))] H := by rw [ef_35]; exact hP
  have hD : va_D A [(y, .inr (7, [.int 0, .ref yo, .ref ya, .ref yv, .ref yg, .int 0, .int 0, .int 0, .int 0, .int 0, .ref yp, .int 0, .int 0, .int 0, .ref yu, .ref yk, .int 0, .int 0, .int 0, .int 2, .int 0, .int 0, .ref yq, .int 0, .ref yt, .int 4])), (yt, .inl (et, 1000, .inl (f_35)))] := by rw [ef_35]; exact hD
  refine lv_aload_n hx hb dX7_feed_104 rfl (lv_at hl 2 rfl) ?_
  refine lv_dup hx hb dX7_feed_105 rfl ?_
  refine va_get (D := (dC, dI)) (ci := 7) (v := .int 4) (C := RX7) (T := TX7) (N := 26) hx hb hts in_X7_feed_X7 hown hK hP 0 rfl rfl 25 (by decide) (hts (.fieldLink RX7 245 "WorkspaceBoxModel" "taped" "I") (by decide +kernel)) (fun _ h9 => h9) rfl dX7_feed_106 ?_
  refine lv_iconst (v := 1) hx hb dX7_feed_109 (by decide) ?_
  refine lv_iadd hx hb dX7_feed_110 ?_
  refine lv_topi (fun y_36 ey_36 => ?_)
  obtain rfl : y_36 = 5 := ey_36.trans (by decide)
  refine va_put (D := (dC, dI)) (ci := 7) (v := .int 5) (ty := .int) (C := RX7) (T := TX7) (N := 26) hx hb hts in_X7_feed_X7 tyX7 tyX7_ok nmX7 hown hK hP hD hS 0 rfl rfl 25 (by decide) (hts (.fieldLink RX7 245 "WorkspaceBoxModel" "taped" "I") (by decide +kernel)) (fun _ h9 => h9) rfl (by decide +kernel) rfl rfl (Nat.le_of_ble_eq_true rfl) dX7_feed_111 (fun H locs hP hD hS => ?_)
  have hP : va_P (dC, dI) vwCl [(y, .inr (7, [.int 0, .ref yo, .ref ya, .ref yv, .ref yg, .int 0, .int 0, .int 0, .int 0, .int 0, .ref yp, .int 0, .int 0, .int 0, .ref yu, .ref yk, .int 0, .int 0, .int 0, .int 2, .int 0, .int 0, .ref yq, .int 0, .ref yt, .int 5])), (yt, .inl (et, 1000, .inl (f_35)))] H := hP
  have hD : va_D A [(y, .inr (7, [.int 0, .ref yo, .ref ya, .ref yv, .ref yg, .int 0, .int 0, .int 0, .int 0, .int 0, .ref yp, .int 0, .int 0, .int 0, .ref yu, .ref yk, .int 0, .int 0, .int 0, .int 2, .int 0, .int 0, .ref yq, .int 0, .ref yt, .int 5])), (yt, .inl (et, 1000, .inl (f_35)))] := hD
  refine lv_iinc (v := 5) (lv' := [(6, .int 5), (7, .int p1), (0, .ref y), (1, .int p0), (2, .int p1), (3, .int p2), (4, .int p3), (5, .int p4)]) hx hb dX7_feed_114 hl (k := 1) rfl (by decide) (by decide) rfl (fun ls hl => ?_)
  refine lv_goto (tgt := 23) hx hb dX7_feed_117 (by decide) ?_
  refine lv_iload hx hb dX7_feed_23 (lv_at hl 0 rfl) ?_
  refine lv_bipush (v := 20) hx hb dX7_feed_25 (by decide) ?_
  refine lv_icmp_ge (tgt := 120) hx hb dX7_feed_27 (by decide) (fun h => absurd h (by decide)) (fun _ => ?_)
  refine lv_iload hx hb dX7_feed_30 (lv_at hl 0 rfl) ?_
  refine lv_iconst (v := 4) hx hb dX7_feed_32 (by decide) ?_
  refine lv_icmp_ge (tgt := 40) hx hb dX7_feed_33 (by decide) (fun _ => ?_) (fun h => absurd (by decide) h)
  refine lv_iload hx hb dX7_feed_40 (lv_at hl 0 rfl) ?_
  refine lv_bipush (v := 8) hx hb dX7_feed_42 (by decide) ?_
  refine lv_icmp_ge (tgt := 51) hx hb dX7_feed_44 (by decide) (fun h => absurd h (by decide)) (fun _ => ?_)
  refine lv_iload_n hx hb dX7_feed_47 rfl (lv_at hl 4 rfl) ?_
  refine lv_goto (tgt := 76) hx hb dX7_feed_48 (by decide) ?_
  refine lv_istore (lv' := [(7, .int p1), (6, .int 5), (0, .ref y), (1, .int p0), (2, .int p1), (3, .int p2), (4, .int p3), (5, .int p4)]) hx hb dX7_feed_76 hl (by decide) rfl (fun ls hl => ?_)
  refine lv_aload_n hx hb dX7_feed_78 rfl (lv_at hl 2 rfl) ?_
  refine va_get (D := (dC, dI)) (ci := 7) (v := .ref yt) (C := RX7) (T := TX7) (N := 26) hx hb hts in_X7_feed_X7 hown hK hP 0 rfl rfl 24 (by decide) (hts (.fieldLink RX7 41 "WorkspaceBoxModel" "tape" "[I") (by decide +kernel)) (fun _ h9 => h9) rfl dX7_feed_79 ?_
  refine lv_aload_n hx hb dX7_feed_82 rfl (lv_at hl 2 rfl) ?_
  refine va_get (D := (dC, dI)) (ci := 7) (v := .int 5) (C := RX7) (T := TX7) (N := 26) hx hb hts in_X7_feed_X7 hown hK hP 0 rfl rfl 25 (by decide) (hts (.fieldLink RX7 245 "WorkspaceBoxModel" "taped" "I") (by decide +kernel)) (fun _ h9 => h9) rfl dX7_feed_83 ?_
  refine lv_iload hx hb dX7_feed_86 (lv_at hl 0 rfl) ?_
  refine lv_bipush (v := 24) hx hb dX7_feed_88 (by decide) ?_
  refine lv_bipush (v := 8) hx hb dX7_feed_90 (by decide) ?_
  refine lv_iload hx hb dX7_feed_92 (lv_at hl 1 rfl) ?_
  refine lv_iconst (v := 4) hx hb dX7_feed_94 (by decide) ?_
  refine lv_irem hx hb dX7_feed_95 (by decide) ?_
  refine lv_topi (fun y_37 ey_37 => ?_)
  obtain rfl : y_37 = 1 := ey_37.trans (by decide)
  refine lv_imul hx hb dX7_feed_96 ?_
  refine lv_topi (fun y_38 ey_38 => ?_)
  obtain rfl : y_38 = 8 := ey_38.trans (by decide)
  refine lv_isub hx hb dX7_feed_97 ?_
  refine lv_topi (fun y_39 ey_39 => ?_)
  obtain rfl : y_39 = 16 := ey_39.trans (by decide)
  refine lv_ishr hx hb dX7_feed_98 ?_
  refine lv_topi (fun y_40 ey_40 => ?_)
  refine lv_sipush (v := 255) hx hb dX7_feed_99 (by decide) ?_
  refine lv_iand hx hb dX7_feed_102 ?_
  refine lv_topi (fun y_41 ey_41 => ?_)
  refine va_iast hx hb hK hP hD hS 1 0 rfl rfl (by unfold vp_in; decide) dX7_feed_103 (fun H locs hP hD hS => ?_)
  obtain ⟨f_42, ef_42⟩ : ∃ g, g = upd (f_35) (5 : Int32).toNatClampNeg y_41 := ⟨_, rfl⟩
  have hP : va_P (dC, dI) vwCl [(y, .inr (7, [.int 0, .ref yo, .ref ya, .ref yv, .ref yg, .int 0, .int 0, .int 0, .int 0, .int 0, .ref yp, .int 0, .int 0, .int 0, .ref yu, .ref yk, .int 0, .int 0, .int 0, .int 2, .int 0, .int 0, .ref yq, .int 0, .ref yt, .int 5])), (yt, .inl (et, 1000, .inl (f_42)))] H := by rw [ef_42]; exact hP
  have hD : va_D A [(y, .inr (7, [.int 0, .ref yo, .ref ya, .ref yv, .ref yg, .int 0, .int 0, .int 0, .int 0, .int 0, .ref yp, .int 0, .int 0, .int 0, .ref yu, .ref yk, .int 0, .int 0, .int 0, .int 2, .int 0, .int 0, .ref yq, .int 0, .ref yt, .int 5])), (yt, .inl (et, 1000, .inl (f_42)))] := by rw [ef_42]; exact hD
  refine lv_aload_n hx hb dX7_feed_104 rfl (lv_at hl 2 rfl) ?_
  refine lv_dup hx hb dX7_feed_105 rfl ?_
  refine va_get (D := (dC, dI)) (ci := 7) (v := .int 5) (C := RX7) (T := TX7) (N := 26) hx hb hts in_X7_feed_X7 hown hK hP 0 rfl rfl 25 (by decide) (hts (.fieldLink RX7 245 "WorkspaceBoxModel" "taped" "I") (by decide +kernel)) (fun _ h9 => h9) rfl dX7_feed_106 ?_
  refine lv_iconst (v := 1) hx hb dX7_feed_109 (by decide) ?_
  refine lv_iadd hx hb dX7_feed_110 ?_
  refine lv_topi (fun y_43 ey_43 => ?_)
  obtain rfl : y_43 = 6 := ey_43.trans (by decide)
  refine va_put (D := (dC, dI)) (ci := 7) (v := .int 6) (ty := .int) (C := RX7) (T := TX7) (N := 26) hx hb hts in_X7_feed_X7 tyX7 tyX7_ok nmX7 hown hK hP hD hS 0 rfl rfl 25 (by decide) (hts (.fieldLink RX7 245 "WorkspaceBoxModel" "taped" "I") (by decide +kernel)) (fun _ h9 => h9) rfl (by decide +kernel) rfl rfl (Nat.le_of_ble_eq_true rfl) dX7_feed_111 (fun H locs hP hD hS => ?_)
  have hP : va_P (dC, dI) vwCl [(y, .inr (7, [.int 0, .ref yo, .ref ya, .ref yv, .ref yg, .int 0, .int 0, .int 0, .int 0, .int 0, .ref yp, .int 0, .int 0, .int 0, .ref yu, .ref yk, .int 0, .int 0, .int 0, .int 2, .int 0, .int 0, .ref yq, .int 0, .ref yt, .int 6])), (yt, .inl (et, 1000, .inl (f_42)))] H := hP
  have hD : va_D A [(y, .inr (7, [.int 0, .ref yo, .ref ya, .ref yv, .ref yg, .int 0, .int 0, .int 0, .int 0, .int 0, .ref yp, .int 0, .int 0, .int 0, .ref yu, .ref yk, .int 0, .int 0, .int 0, .int 2, .int 0, .int 0, .ref yq, .int 0, .ref yt, .int 6])), (yt, .inl (et, 1000, .inl (f_42)))] := hD
  refine lv_iinc (v := 6) (lv' := [(6, .int 6), (7, .int p1), (0, .ref y), (1, .int p0), (2, .int p1), (3, .int p2), (4, .int p3), (5, .int p4)]) hx hb dX7_feed_114 hl (k := 1) rfl (by decide) (by decide) rfl (fun ls hl => ?_)
  refine lv_goto (tgt := 23) hx hb dX7_feed_117 (by decide) ?_
  refine lv_iload hx hb dX7_feed_23 (lv_at hl 0 rfl) ?_
  refine lv_bipush (v := 20) hx hb dX7_feed_25 (by decide) ?_
  refine lv_icmp_ge (tgt := 120) hx hb dX7_feed_27 (by decide) (fun h => absurd h (by decide)) (fun _ => ?_)
  refine lv_iload hx hb dX7_feed_30 (lv_at hl 0 rfl) ?_
  refine lv_iconst (v := 4) hx hb dX7_feed_32 (by decide) ?_
  refine lv_icmp_ge (tgt := 40) hx hb dX7_feed_33 (by decide) (fun _ => ?_) (fun h => absurd (by decide) h)
  refine lv_iload hx hb dX7_feed_40 (lv_at hl 0 rfl) ?_
  refine lv_bipush (v := 8) hx hb dX7_feed_42 (by decide) ?_
  refine lv_icmp_ge (tgt := 51) hx hb dX7_feed_44 (by decide) (fun h => absurd h (by decide)) (fun _ => ?_)
  refine lv_iload_n hx hb dX7_feed_47 rfl (lv_at hl 4 rfl) ?_
  refine lv_goto (tgt := 76) hx hb dX7_feed_48 (by decide) ?_
  refine lv_istore (lv' := [(7, .int p1), (6, .int 6), (0, .ref y), (1, .int p0), (2, .int p1), (3, .int p2), (4, .int p3), (5, .int p4)]) hx hb dX7_feed_76 hl (by decide) rfl (fun ls hl => ?_)
  refine lv_aload_n hx hb dX7_feed_78 rfl (lv_at hl 2 rfl) ?_
  refine va_get (D := (dC, dI)) (ci := 7) (v := .ref yt) (C := RX7) (T := TX7) (N := 26) hx hb hts in_X7_feed_X7 hown hK hP 0 rfl rfl 24 (by decide) (hts (.fieldLink RX7 41 "WorkspaceBoxModel" "tape" "[I") (by decide +kernel)) (fun _ h9 => h9) rfl dX7_feed_79 ?_
  refine lv_aload_n hx hb dX7_feed_82 rfl (lv_at hl 2 rfl) ?_
  refine va_get (D := (dC, dI)) (ci := 7) (v := .int 6) (C := RX7) (T := TX7) (N := 26) hx hb hts in_X7_feed_X7 hown hK hP 0 rfl rfl 25 (by decide) (hts (.fieldLink RX7 245 "WorkspaceBoxModel" "taped" "I") (by decide +kernel)) (fun _ h9 => h9) rfl dX7_feed_83 ?_
  refine lv_iload hx hb dX7_feed_86 (lv_at hl 0 rfl) ?_
  refine lv_bipush (v := 24) hx hb dX7_feed_88 (by decide) ?_
  refine lv_bipush (v := 8) hx hb dX7_feed_90 (by decide) ?_
  refine lv_iload hx hb dX7_feed_92 (lv_at hl 1 rfl) ?_
  refine lv_iconst (v := 4) hx hb dX7_feed_94 (by decide) ?_
  refine lv_irem hx hb dX7_feed_95 (by decide) ?_
  refine lv_topi (fun y_44 ey_44 => ?_)
  obtain rfl : y_44 = 2 := ey_44.trans (by decide)
  refine lv_imul hx hb dX7_feed_96 ?_
  refine lv_topi (fun y_45 ey_45 => ?_)
  obtain rfl : y_45 = 16 := ey_45.trans (by decide)
  refine lv_isub hx hb dX7_feed_97 ?_
  refine lv_topi (fun y_46 ey_46 => ?_)
  obtain rfl : y_46 = 8 := ey_46.trans (by decide)
  refine lv_ishr hx hb dX7_feed_98 ?_
  refine lv_topi (fun y_47 ey_47 => ?_)
  refine lv_sipush (v := 255) hx hb dX7_feed_99 (by decide) ?_
  refine lv_iand hx hb dX7_feed_102 ?_
  refine lv_topi (fun y_48 ey_48 => ?_)
  refine va_iast hx hb hK hP hD hS 1 0 rfl rfl (by unfold vp_in; decide) dX7_feed_103 (fun H locs hP hD hS => ?_)
  obtain ⟨f_49, ef_49⟩ : ∃ g, g = upd (f_42) (6 : Int32).toNatClampNeg y_48 := ⟨_, rfl⟩
  have hP : va_P (dC, dI) vwCl [(y, .inr (7, [.int 0, .ref yo, .ref ya, .ref yv, .ref yg, .int 0, .int 0, .int 0, .int 0, .int 0, .ref yp, .int 0, .int 0, .int 0, .ref yu, .ref yk, .int 0, .int 0, .int 0, .int 2, .int 0, .int 0, .ref yq, .int 0, .ref yt, .int 6])), (yt, .inl (et, 1000, .inl (f_49)))] H := by rw [ef_49]; exact hP
  have hD : va_D A [(y, .inr (7, [.int 0, .ref yo, .ref ya, .ref yv, .ref yg, .int 0, .int 0, .int 0, .int 0, .int 0, .ref yp, .int 0, .int 0, .int 0, .ref yu, .ref yk, .int 0, .int 0, .int 0, .int 2, .int 0, .int 0, .ref yq, .int 0, .ref yt, .int 6])), (yt, .inl (et, 1000, .inl (f_49)))] := by rw [ef_49]; exact hD
  refine lv_aload_n hx hb dX7_feed_104 rfl (lv_at hl 2 rfl) ?_
  refine lv_dup hx hb dX7_feed_105 rfl ?_
  refine va_get (D := (dC, dI)) (ci := 7) (v := .int 6) (C := RX7) (T := TX7) (N := 26) hx hb hts in_X7_feed_X7 hown hK hP 0 rfl rfl 25 (by decide) (hts (.fieldLink RX7 245 "WorkspaceBoxModel" "taped" "I") (by decide +kernel)) (fun _ h9 => h9) rfl dX7_feed_106 ?_
  refine lv_iconst (v := 1) hx hb dX7_feed_109 (by decide) ?_
  refine lv_iadd hx hb dX7_feed_110 ?_
  refine lv_topi (fun y_50 ey_50 => ?_)
  obtain rfl : y_50 = 7 := ey_50.trans (by decide)
  refine va_put (D := (dC, dI)) (ci := 7) (v := .int 7) (ty := .int) (C := RX7) (T := TX7) (N := 26) hx hb hts in_X7_feed_X7 tyX7 tyX7_ok nmX7 hown hK hP hD hS 0 rfl rfl 25 (by decide) (hts (.fieldLink RX7 245 "WorkspaceBoxModel" "taped" "I") (by decide +kernel)) (fun _ h9 => h9) rfl (by decide +kernel) rfl rfl (Nat.le_of_ble_eq_true rfl) dX7_feed_111 (fun H locs hP hD hS => ?_)
  have hP : va_P (dC, dI) vwCl [(y, .inr (7, [.int 0, .ref yo, .ref ya, .ref yv, .ref yg, .int 0, .int 0, .int 0, .int 0, .int 0, .ref yp, .int 0, .int 0, .int 0, .ref yu, .ref yk, .int 0, .int 0, .int 0, .int 2, .int 0, .int 0, .ref yq, .int 0, .ref yt, .int 7])), (yt, .inl (et, 1000, .inl (f_49)))] H := hP
  have hD : va_D A [(y, .inr (7, [.int 0, .ref yo, .ref ya, .ref yv, .ref yg, .int 0, .int 0, .int 0, .int 0, .int 0, .ref yp, .int 0, .int 0, .int 0, .ref yu, .ref yk, .int 0, .int 0, .int 0, .int 2, .int 0, .int 0, .ref yq, .int 0, .ref yt, .int 7])), (yt, .inl (et, 1000, .inl (f_49)))] := hD
  refine lv_iinc (v := 7) (lv' := [(6, .int 7), (7, .int p1), (0, .ref y), (1, .int p0), (2, .int p1), (3, .int p2), (4, .int p3), (5, .int p4)]) hx hb dX7_feed_114 hl (k := 1) rfl (by decide) (by decide) rfl (fun ls hl => ?_)
  refine lv_goto (tgt := 23) hx hb dX7_feed_117 (by decide) ?_
  refine lv_iload hx hb dX7_feed_23 (lv_at hl 0 rfl) ?_
  refine lv_bipush (v := 20) hx hb dX7_feed_25 (by decide) ?_
  refine lv_icmp_ge (tgt := 120) hx hb dX7_feed_27 (by decide) (fun h => absurd h (by decide)) (fun _ => ?_)
  refine lv_iload hx hb dX7_feed_30 (lv_at hl 0 rfl) ?_
  refine lv_iconst (v := 4) hx hb dX7_feed_32 (by decide) ?_
  refine lv_icmp_ge (tgt := 40) hx hb dX7_feed_33 (by decide) (fun _ => ?_) (fun h => absurd (by decide) h)
  refine lv_iload hx hb dX7_feed_40 (lv_at hl 0 rfl) ?_
  refine lv_bipush (v := 8) hx hb dX7_feed_42 (by decide) ?_
  refine lv_icmp_ge (tgt := 51) hx hb dX7_feed_44 (by decide) (fun h => absurd h (by decide)) (fun _ => ?_)
  refine lv_iload_n hx hb dX7_feed_47 rfl (lv_at hl 4 rfl) ?_
  refine lv_goto (tgt := 76) hx hb dX7_feed_48 (by decide) ?_
  refine lv_istore (lv' := [(7, .int p1), (6, .int 7), (0, .ref y), (1, .int p0), (2, .int p1), (3, .int p2), (4, .int p3), (5, .int p4)]) hx hb dX7_feed_76 hl (by decide) rfl (fun ls hl => ?_)
  refine lv_aload_n hx hb dX7_feed_78 rfl (lv_at hl 2 rfl) ?_
  refine va_get (D := (dC, dI)) (ci := 7) (v := .ref yt) (C := RX7) (T := TX7) (N := 26) hx hb hts in_X7_feed_X7 hown hK hP 0 rfl rfl 24 (by decide) (hts (.fieldLink RX7 41 "WorkspaceBoxModel" "tape" "[I") (by decide +kernel)) (fun _ h9 => h9) rfl dX7_feed_79 ?_
  refine lv_aload_n hx hb dX7_feed_82 rfl (lv_at hl 2 rfl) ?_
  refine va_get (D := (dC, dI)) (ci := 7) (v := .int 7) (C := RX7) (T := TX7) (N := 26) hx hb hts in_X7_feed_X7 hown hK hP 0 rfl rfl 25 (by decide) (hts (.fieldLink RX7 245 "WorkspaceBoxModel" "taped" "I") (by decide +kernel)) (fun _ h9 => h9) rfl dX7_feed_83 ?_
  refine lv_iload hx hb dX7_feed_86 (lv_at hl 0 rfl) ?_
  refine lv_bipush (v := 24) hx hb dX7_feed_88 (by decide) ?_
  refine lv_bipush (v := 8) hx hb dX7_feed_90 (by decide) ?_
  refine lv_iload hx hb dX7_feed_92 (lv_at hl 1 rfl) ?_
  refine lv_iconst (v := 4) hx hb dX7_feed_94 (by decide) ?_
  refine lv_irem hx hb dX7_feed_95 (by decide) ?_
  refine lv_topi (fun y_51 ey_51 => ?_)
  obtain rfl : y_51 = 3 := ey_51.trans (by decide)
  refine lv_imul hx hb dX7_feed_96 ?_
  refine lv_topi (fun y_52 ey_52 => ?_)
  obtain rfl : y_52 = 24 := ey_52.trans (by decide)
  refine lv_isub hx hb dX7_feed_97 ?_
  refine lv_topi (fun y_53 ey_53 => ?_)
  obtain rfl : y_53 = 0 := ey_53.trans (by decide)
  refine lv_ishr hx hb dX7_feed_98 ?_
  refine lv_topi (fun y_54 ey_54 => ?_)
  refine lv_sipush (v := 255) hx hb dX7_feed_99 (by decide) ?_
  refine lv_iand hx hb dX7_feed_102 ?_
  refine lv_topi (fun y_55 ey_55 => ?_)
  refine va_iast hx hb hK hP hD hS 1 0 rfl rfl (by unfold vp_in; decide) dX7_feed_103 (fun H locs hP hD hS => ?_)
  obtain ⟨f_56, ef_56⟩ : ∃ g, g = upd (f_49) (7 : Int32).toNatClampNeg y_55 := ⟨_, rfl⟩
  have hP : va_P (dC, dI) vwCl [(y, .inr (7, [.int 0, .ref yo, .ref ya, .ref yv, .ref yg, .int 0, .int 0, .int 0, .int 0, .int 0, .ref yp, .int 0, .int 0, .int 0, .ref yu, .ref yk, .int 0, .int 0, .int 0, .int 2, .int 0, .int 0, .ref yq, .int 0, .ref yt, .int 7])), (yt, .inl (et, 1000, .inl (f_56)))] H := by rw [ef_56]; exact hP
  have hD : va_D A [(y, .inr (7, [.int 0, .ref yo, .ref ya, .ref yv, .ref yg, .int 0, .int 0, .int 0, .int 0, .int 0, .ref yp, .int 0, .int 0, .int 0, .ref yu, .ref yk, .int 0, .int 0, .int 0, .int 2, .int 0, .int 0, .ref yq, .int 0, .ref yt, .int 7])), (yt, .inl (et, 1000, .inl (f_56)))] := by rw [ef_56]; exact hD
  refine lv_aload_n hx hb dX7_feed_104 rfl (lv_at hl 2 rfl) ?_
  refine lv_dup hx hb dX7_feed_105 rfl ?_
  refine va_get (D := (dC, dI)) (ci := 7) (v := .int 7) (C := RX7) (T := TX7) (N := 26) hx hb hts in_X7_feed_X7 hown hK hP 0 rfl rfl 25 (by decide) (hts (.fieldLink RX7 245 "WorkspaceBoxModel" "taped" "I") (by decide +kernel)) (fun _ h9 => h9) rfl dX7_feed_106 ?_
  refine lv_iconst (v := 1) hx hb dX7_feed_109 (by decide) ?_
  refine lv_iadd hx hb dX7_feed_110 ?_
  refine lv_topi (fun y_57 ey_57 => ?_)
  obtain rfl : y_57 = 8 := ey_57.trans (by decide)
  refine va_put (D := (dC, dI)) (ci := 7) (v := .int 8) (ty := .int) (C := RX7) (T := TX7) (N := 26) hx hb hts in_X7_feed_X7 tyX7 tyX7_ok nmX7 hown hK hP hD hS 0 rfl rfl 25 (by decide) (hts (.fieldLink RX7 245 "WorkspaceBoxModel" "taped" "I") (by decide +kernel)) (fun _ h9 => h9) rfl (by decide +kernel) rfl rfl (Nat.le_of_ble_eq_true rfl) dX7_feed_111 (fun H locs hP hD hS => ?_)
  have hP : va_P (dC, dI) vwCl [(y, .inr (7, [.int 0, .ref yo, .ref ya, .ref yv, .ref yg, .int 0, .int 0, .int 0, .int 0, .int 0, .ref yp, .int 0, .int 0, .int 0, .ref yu, .ref yk, .int 0, .int 0, .int 0, .int 2, .int 0, .int 0, .ref yq, .int 0, .ref yt, .int 8])), (yt, .inl (et, 1000, .inl (f_56)))] H := hP
  have hD : va_D A [(y, .inr (7, [.int 0, .ref yo, .ref ya, .ref yv, .ref yg, .int 0, .int 0, .int 0, .int 0, .int 0, .ref yp, .int 0, .int 0, .int 0, .ref yu, .ref yk, .int 0, .int 0, .int 0, .int 2, .int 0, .int 0, .ref yq, .int 0, .ref yt, .int 8])), (yt, .inl (et, 1000, .inl (f_56)))] := hD
  refine lv_iinc (v := 8) (lv' := [(6, .int 8), (7, .int p1), (0, .ref y), (1, .int p0), (2, .int p1), (3, .int p2), (4, .int p3), (5, .int p4)]) hx hb dX7_feed_114 hl (k := 1) rfl (by decide) (by decide) rfl (fun ls hl => ?_)
  refine lv_goto (tgt := 23) hx hb dX7_feed_117 (by decide) ?_
  refine lv_iload hx hb dX7_feed_23 (lv_at hl 0 rfl) ?_
  refine lv_bipush (v := 20) hx hb dX7_feed_25 (by decide) ?_
  refine lv_icmp_ge (tgt := 120) hx hb dX7_feed_27 (by decide) (fun h => absurd h (by decide)) (fun _ => ?_)
  refine lv_iload hx hb dX7_feed_30 (lv_at hl 0 rfl) ?_
  refine lv_iconst (v := 4) hx hb dX7_feed_32 (by decide) ?_
  refine lv_icmp_ge (tgt := 40) hx hb dX7_feed_33 (by decide) (fun _ => ?_) (fun h => absurd (by decide) h)
  refine lv_iload hx hb dX7_feed_40 (lv_at hl 0 rfl) ?_
  refine lv_bipush (v := 8) hx hb dX7_feed_42 (by decide) ?_
  refine lv_icmp_ge (tgt := 51) hx hb dX7_feed_44 (by decide) (fun _ => ?_) (fun h => absurd (by decide) h)
  refine lv_iload hx hb dX7_feed_51 (lv_at hl 0 rfl) ?_
  refine lv_bipush (v := 12) hx hb dX7_feed_53 (by decide) ?_
  refine lv_icmp_ge (tgt := 62) hx hb dX7_feed_55 (by decide) (fun h => absurd h (by decide)) (fun _ => ?_)
  refine lv_iload_n hx hb dX7_feed_58 rfl (lv_at hl 5 rfl) ?_
  refine lv_goto (tgt := 76) hx hb dX7_feed_59 (by decide) ?_
  refine lv_istore (lv' := [(7, .int p2), (6, .int 8), (0, .ref y), (1, .int p0), (2, .int p1), (3, .int p2), (4, .int p3), (5, .int p4)]) hx hb dX7_feed_76 hl (by decide) rfl (fun ls hl => ?_)
  refine lv_aload_n hx hb dX7_feed_78 rfl (lv_at hl 2 rfl) ?_
  refine va_get (D := (dC, dI)) (ci := 7) (v := .ref yt) (C := RX7) (T := TX7) (N := 26) hx hb hts in_X7_feed_X7 hown hK hP 0 rfl rfl 24 (by decide) (hts (.fieldLink RX7 41 "WorkspaceBoxModel" "tape" "[I") (by decide +kernel)) (fun _ h9 => h9) rfl dX7_feed_79 ?_
  refine lv_aload_n hx hb dX7_feed_82 rfl (lv_at hl 2 rfl) ?_
  refine va_get (D := (dC, dI)) (ci := 7) (v := .int 8) (C := RX7) (T := TX7) (N := 26) hx hb hts in_X7_feed_X7 hown hK hP 0 rfl rfl 25 (by decide) (hts (.fieldLink RX7 245 "WorkspaceBoxModel" "taped" "I") (by decide +kernel)) (fun _ h9 => h9) rfl dX7_feed_83 ?_
  refine lv_iload hx hb dX7_feed_86 (lv_at hl 0 rfl) ?_
  refine lv_bipush (v := 24) hx hb dX7_feed_88 (by decide) ?_
  refine lv_bipush (v := 8) hx hb dX7_feed_90 (by decide) ?_
  refine lv_iload hx hb dX7_feed_92 (lv_at hl 1 rfl) ?_
  refine lv_iconst (v := 4) hx hb dX7_feed_94 (by decide) ?_
  refine lv_irem hx hb dX7_feed_95 (by decide) ?_
  refine lv_topi (fun y_58 ey_58 => ?_)
  obtain rfl : y_58 = 0 := ey_58.trans (by decide)
  refine lv_imul hx hb dX7_feed_96 ?_
  refine lv_topi (fun y_59 ey_59 => ?_)
  obtain rfl : y_59 = 0 := ey_59.trans (by decide)
  refine lv_isub hx hb dX7_feed_97 ?_
  refine lv_topi (fun y_60 ey_60 => ?_)
  obtain rfl : y_60 = 24 := ey_60.trans (by decide)
  refine lv_ishr hx hb dX7_feed_98 ?_
  refine lv_topi (fun y_61 ey_61 => ?_)
  refine lv_sipush (v := 255) hx hb dX7_feed_99 (by decide) ?_
  refine lv_iand hx hb dX7_feed_102 ?_
  refine lv_topi (fun y_62 ey_62 => ?_)
  refine va_iast hx hb hK hP hD hS 1 0 rfl rfl (by unfold vp_in; decide) dX7_feed_103 (fun H locs hP hD hS => ?_)
  obtain ⟨f_63, ef_63⟩ : ∃ g, g = upd (f_56) (8 : Int32).toNatClampNeg y_62 := ⟨_, rfl⟩
  have hP : va_P (dC, dI) vwCl [(y, .inr (7, [.int 0, .ref yo, .ref ya, .ref yv, .ref yg, .int 0, .int 0, .int 0, .int 0, .int 0, .ref yp, .int 0, .int 0, .int 0, .ref yu, .ref yk, .int 0, .int 0, .int 0, .int 2, .int 0, .int 0, .ref yq, .int 0, .ref yt, .int 8])), (yt, .inl (et, 1000, .inl (f_63)))] H := by rw [ef_63]; exact hP
  have hD : va_D A [(y, .inr (7, [.int 0, .ref yo, .ref ya, .ref yv, .ref yg, .int 0, .int 0, .int 0, .int 0, .int 0, .ref yp, .int 0, .int 0, .int 0, .ref yu, .ref yk, .int 0, .int 0, .int 0, .int 2, .int 0, .int 0, .ref yq, .int 0, .ref yt, .int 8])), (yt, .inl (et, 1000, .inl (f_63)))] := by rw [ef_63]; exact hD
  refine lv_aload_n hx hb dX7_feed_104 rfl (lv_at hl 2 rfl) ?_
  refine lv_dup hx hb dX7_feed_105 rfl ?_
  refine va_get (D := (dC, dI)) (ci := 7) (v := .int 8) (C := RX7) (T := TX7) (N := 26) hx hb hts in_X7_feed_X7 hown hK hP 0 rfl rfl 25 (by decide) (hts (.fieldLink RX7 245 "WorkspaceBoxModel" "taped" "I") (by decide +kernel)) (fun _ h9 => h9) rfl dX7_feed_106 ?_
  refine lv_iconst (v := 1) hx hb dX7_feed_109 (by decide) ?_
  refine lv_iadd hx hb dX7_feed_110 ?_
  refine lv_topi (fun y_64 ey_64 => ?_)
  obtain rfl : y_64 = 9 := ey_64.trans (by decide)
  refine va_put (D := (dC, dI)) (ci := 7) (v := .int 9) (ty := .int) (C := RX7) (T := TX7) (N := 26) hx hb hts in_X7_feed_X7 tyX7 tyX7_ok nmX7 hown hK hP hD hS 0 rfl rfl 25 (by decide) (hts (.fieldLink RX7 245 "WorkspaceBoxModel" "taped" "I") (by decide +kernel)) (fun _ h9 => h9) rfl (by decide +kernel) rfl rfl (Nat.le_of_ble_eq_true rfl) dX7_feed_111 (fun H locs hP hD hS => ?_)
  have hP : va_P (dC, dI) vwCl [(y, .inr (7, [.int 0, .ref yo, .ref ya, .ref yv, .ref yg, .int 0, .int 0, .int 0, .int 0, .int 0, .ref yp, .int 0, .int 0, .int 0, .ref yu, .ref yk, .int 0, .int 0, .int 0, .int 2, .int 0, .int 0, .ref yq, .int 0, .ref yt, .int 9])), (yt, .inl (et, 1000, .inl (f_63)))] H := hP
  have hD : va_D A [(y, .inr (7, [.int 0, .ref yo, .ref ya, .ref yv, .ref yg, .int 0, .int 0, .int 0, .int 0, .int 0, .ref yp, .int 0, .int 0, .int 0, .ref yu, .ref yk, .int 0, .int 0, .int 0, .int 2, .int 0, .int 0, .ref yq, .int 0, .ref yt, .int 9])), (yt, .inl (et, 1000, .inl (f_63)))] := hD
  refine lv_iinc (v := 9) (lv' := [(6, .int 9), (7, .int p2), (0, .ref y), (1, .int p0), (2, .int p1), (3, .int p2), (4, .int p3), (5, .int p4)]) hx hb dX7_feed_114 hl (k := 1) rfl (by decide) (by decide) rfl (fun ls hl => ?_)
  refine lv_goto (tgt := 23) hx hb dX7_feed_117 (by decide) ?_
  refine lv_iload hx hb dX7_feed_23 (lv_at hl 0 rfl) ?_
  refine lv_bipush (v := 20) hx hb dX7_feed_25 (by decide) ?_
  refine lv_icmp_ge (tgt := 120) hx hb dX7_feed_27 (by decide) (fun h => absurd h (by decide)) (fun _ => ?_)
  refine lv_iload hx hb dX7_feed_30 (lv_at hl 0 rfl) ?_
  refine lv_iconst (v := 4) hx hb dX7_feed_32 (by decide) ?_
  refine lv_icmp_ge (tgt := 40) hx hb dX7_feed_33 (by decide) (fun _ => ?_) (fun h => absurd (by decide) h)
  refine lv_iload hx hb dX7_feed_40 (lv_at hl 0 rfl) ?_
  refine lv_bipush (v := 8) hx hb dX7_feed_42 (by decide) ?_
  refine lv_icmp_ge (tgt := 51) hx hb dX7_feed_44 (by decide) (fun _ => ?_) (fun h => absurd (by decide) h)
  refine lv_iload hx hb dX7_feed_51 (lv_at hl 0 rfl) ?_
  refine lv_bipush (v := 12) hx hb dX7_feed_53 (by decide) ?_
  refine lv_icmp_ge (tgt := 62) hx hb dX7_feed_55 (by decide) (fun h => absurd h (by decide)) (fun _ => ?_)
  refine lv_iload_n hx hb dX7_feed_58 rfl (lv_at hl 5 rfl) ?_
  refine lv_goto (tgt := 76) hx hb dX7_feed_59 (by decide) ?_
  refine lv_istore (lv' := [(7, .int p2), (6, .int 9), (0, .ref y), (1, .int p0), (2, .int p1), (3, .int p2), (4, .int p3), (5, .int p4)]) hx hb dX7_feed_76 hl (by decide) rfl (fun ls hl => ?_)
  refine lv_aload_n hx hb dX7_feed_78 rfl (lv_at hl 2 rfl) ?_
  refine va_get (D := (dC, dI)) (ci := 7) (v := .ref yt) (C := RX7) (T := TX7) (N := 26) hx hb hts in_X7_feed_X7 hown hK hP 0 rfl rfl 24 (by decide) (hts (.fieldLink RX7 41 "WorkspaceBoxModel" "tape" "[I") (by decide +kernel)) (fun _ h9 => h9) rfl dX7_feed_79 ?_
  refine lv_aload_n hx hb dX7_feed_82 rfl (lv_at hl 2 rfl) ?_
  refine va_get (D := (dC, dI)) (ci := 7) (v := .int 9) (C := RX7) (T := TX7) (N := 26) hx hb hts in_X7_feed_X7 hown hK hP 0 rfl rfl 25 (by decide) (hts (.fieldLink RX7 245 "WorkspaceBoxModel" "taped" "I") (by decide +kernel)) (fun _ h9 => h9) rfl dX7_feed_83 ?_
  refine lv_iload hx hb dX7_feed_86 (lv_at hl 0 rfl) ?_
  refine lv_bipush (v := 24) hx hb dX7_feed_88 (by decide) ?_
  refine lv_bipush (v := 8) hx hb dX7_feed_90 (by decide) ?_
  refine lv_iload hx hb dX7_feed_92 (lv_at hl 1 rfl) ?_
  refine lv_iconst (v := 4) hx hb dX7_feed_94 (by decide) ?_
  refine lv_irem hx hb dX7_feed_95 (by decide) ?_
  refine lv_topi (fun y_65 ey_65 => ?_)
  obtain rfl : y_65 = 1 := ey_65.trans (by decide)
  refine lv_imul hx hb dX7_feed_96 ?_
  refine lv_topi (fun y_66 ey_66 => ?_)
  obtain rfl : y_66 = 8 := ey_66.trans (by decide)
  refine lv_isub hx hb dX7_feed_97 ?_
  refine lv_topi (fun y_67 ey_67 => ?_)
  obtain rfl : y_67 = 16 := ey_67.trans (by decide)
  refine lv_ishr hx hb dX7_feed_98 ?_
  refine lv_topi (fun y_68 ey_68 => ?_)
  refine lv_sipush (v := 255) hx hb dX7_feed_99 (by decide) ?_
  refine lv_iand hx hb dX7_feed_102 ?_
  refine lv_topi (fun y_69 ey_69 => ?_)
  refine va_iast hx hb hK hP hD hS 1 0 rfl rfl (by unfold vp_in; decide) dX7_feed_103 (fun H locs hP hD hS => ?_)
  obtain ⟨f_70, ef_70⟩ : ∃ g, g = upd (f_63) (9 : Int32).toNatClampNeg y_69 := ⟨_, rfl⟩
  have hP : va_P (dC, dI) vwCl [(y, .inr (7, [.int 0, .ref yo, .ref ya, .ref yv, .ref yg, .int 0, .int 0, .int 0, .int 0, .int 0, .ref yp, .int 0, .int 0, .int 0, .ref yu, .ref yk, .int 0, .int 0, .int 0, .int 2, .int 0, .int 0, .ref yq, .int 0, .ref yt, .int 9])), (yt, .inl (et, 1000, .inl (f_70)))] H := by rw [ef_70]; exact hP
  have hD : va_D A [(y, .inr (7, [.int 0, .ref yo, .ref ya, .ref yv, .ref yg, .int 0, .int 0, .int 0, .int 0, .int 0, .ref yp, .int 0, .int 0, .int 0, .ref yu, .ref yk, .int 0, .int 0, .int 0, .int 2, .int 0, .int 0, .ref yq, .int 0, .ref yt, .int 9])), (yt, .inl (et, 1000, .inl (f_70)))] := by rw [ef_70]; exact hD
  refine lv_aload_n hx hb dX7_feed_104 rfl (lv_at hl 2 rfl) ?_
  refine lv_dup hx hb dX7_feed_105 rfl ?_
  refine va_get (D := (dC, dI)) (ci := 7) (v := .int 9) (C := RX7) (T := TX7) (N := 26) hx hb hts in_X7_feed_X7 hown hK hP 0 rfl rfl 25 (by decide) (hts (.fieldLink RX7 245 "WorkspaceBoxModel" "taped" "I") (by decide +kernel)) (fun _ h9 => h9) rfl dX7_feed_106 ?_
  refine lv_iconst (v := 1) hx hb dX7_feed_109 (by decide) ?_
  refine lv_iadd hx hb dX7_feed_110 ?_
  refine lv_topi (fun y_71 ey_71 => ?_)
  obtain rfl : y_71 = 10 := ey_71.trans (by decide)
  refine va_put (D := (dC, dI)) (ci := 7) (v := .int 10) (ty := .int) (C := RX7) (T := TX7) (N := 26) hx hb hts in_X7_feed_X7 tyX7 tyX7_ok nmX7 hown hK hP hD hS 0 rfl rfl 25 (by decide) (hts (.fieldLink RX7 245 "WorkspaceBoxModel" "taped" "I") (by decide +kernel)) (fun _ h9 => h9) rfl (by decide +kernel) rfl rfl (Nat.le_of_ble_eq_true rfl) dX7_feed_111 (fun H locs hP hD hS => ?_)
  have hP : va_P (dC, dI) vwCl [(y, .inr (7, [.int 0, .ref yo, .ref ya, .ref yv, .ref yg, .int 0, .int 0, .int 0, .int 0, .int 0, .ref yp, .int 0, .int 0, .int 0, .ref yu, .ref yk, .int 0, .int 0, .int 0, .int 2, .int 0, .int 0, .ref yq, .int 0, .ref yt, .int 10])), (yt, .inl (et, 1000, .inl (f_70)))] H := hP
  have hD : va_D A [(y, .inr (7, [.int 0, .ref yo, .ref ya, .ref yv, .ref yg, .int 0, .int 0, .int 0, .int 0, .int 0, .ref yp, .int 0, .int 0, .int 0, .ref yu, .ref yk, .int 0, .int 0, .int 0, .int 2, .int 0, .int 0, .ref yq, .int 0, .ref yt, .int 10])), (yt, .inl (et, 1000, .inl (f_70)))] := hD
  refine lv_iinc (v := 10) (lv' := [(6, .int 10), (7, .int p2), (0, .ref y), (1, .int p0), (2, .int p1), (3, .int p2), (4, .int p3), (5, .int p4)]) hx hb dX7_feed_114 hl (k := 1) rfl (by decide) (by decide) rfl (fun ls hl => ?_)
  refine lv_goto (tgt := 23) hx hb dX7_feed_117 (by decide) ?_
  refine lv_iload hx hb dX7_feed_23 (lv_at hl 0 rfl) ?_
  refine lv_bipush (v := 20) hx hb dX7_feed_25 (by decide) ?_
  refine lv_icmp_ge (tgt := 120) hx hb dX7_feed_27 (by decide) (fun h => absurd h (by decide)) (fun _ => ?_)
  refine lv_iload hx hb dX7_feed_30 (lv_at hl 0 rfl) ?_
  refine lv_iconst (v := 4) hx hb dX7_feed_32 (by decide) ?_
  refine lv_icmp_ge (tgt := 40) hx hb dX7_feed_33 (by decide) (fun _ => ?_) (fun h => absurd (by decide) h)
  refine lv_iload hx hb dX7_feed_40 (lv_at hl 0 rfl) ?_
  refine lv_bipush (v := 8) hx hb dX7_feed_42 (by decide) ?_
  refine lv_icmp_ge (tgt := 51) hx hb dX7_feed_44 (by decide) (fun _ => ?_) (fun h => absurd (by decide) h)
  refine lv_iload hx hb dX7_feed_51 (lv_at hl 0 rfl) ?_
  refine lv_bipush (v := 12) hx hb dX7_feed_53 (by decide) ?_
  refine lv_icmp_ge (tgt := 62) hx hb dX7_feed_55 (by decide) (fun h => absurd h (by decide)) (fun _ => ?_)
  refine lv_iload_n hx hb dX7_feed_58 rfl (lv_at hl 5 rfl) ?_
  refine lv_goto (tgt := 76) hx hb dX7_feed_59 (by decide) ?_
  refine lv_istore (lv' := [(7, .int p2), (6, .int 10), (0, .ref y), (1, .int p0), (2, .int p1), (3, .int p2), (4, .int p3), (5, .int p4)]) hx hb dX7_feed_76 hl (by decide) rfl (fun ls hl => ?_)
  refine lv_aload_n hx hb dX7_feed_78 rfl (lv_at hl 2 rfl) ?_
  refine va_get (D := (dC, dI)) (ci := 7) (v := .ref yt) (C := RX7) (T := TX7) (N := 26) hx hb hts in_X7_feed_X7 hown hK hP 0 rfl rfl 24 (by decide) (hts (.fieldLink RX7 41 "WorkspaceBoxModel" "tape" "[I") (by decide +kernel)) (fun _ h9 => h9) rfl dX7_feed_79 ?_
  refine lv_aload_n hx hb dX7_feed_82 rfl (lv_at hl 2 rfl) ?_
  refine va_get (D := (dC, dI)) (ci := 7) (v := .int 10) (C := RX7) (T := TX7) (N := 26) hx hb hts in_X7_feed_X7 hown hK hP 0 rfl rfl 25 (by decide) (hts (.fieldLink RX7 245 "WorkspaceBoxModel" "taped" "I") (by decide +kernel)) (fun _ h9 => h9) rfl dX7_feed_83 ?_
  refine lv_iload hx hb dX7_feed_86 (lv_at hl 0 rfl) ?_
  refine lv_bipush (v := 24) hx hb dX7_feed_88 (by decide) ?_
  refine lv_bipush (v := 8) hx hb dX7_feed_90 (by decide) ?_
  refine lv_iload hx hb dX7_feed_92 (lv_at hl 1 rfl) ?_
  refine lv_iconst (v := 4) hx hb dX7_feed_94 (by decide) ?_
  refine lv_irem hx hb dX7_feed_95 (by decide) ?_
  refine lv_topi (fun y_72 ey_72 => ?_)
  obtain rfl : y_72 = 2 := ey_72.trans (by decide)
  refine lv_imul hx hb dX7_feed_96 ?_
  refine lv_topi (fun y_73 ey_73 => ?_)
  obtain rfl : y_73 = 16 := ey_73.trans (by decide)
  refine lv_isub hx hb dX7_feed_97 ?_
  refine lv_topi (fun y_74 ey_74 => ?_)
  obtain rfl : y_74 = 8 := ey_74.trans (by decide)
  refine lv_ishr hx hb dX7_feed_98 ?_
  refine lv_topi (fun y_75 ey_75 => ?_)
  refine lv_sipush (v := 255) hx hb dX7_feed_99 (by decide) ?_
  refine lv_iand hx hb dX7_feed_102 ?_
  refine lv_topi (fun y_76 ey_76 => ?_)
  refine va_iast hx hb hK hP hD hS 1 0 rfl rfl (by unfold vp_in; decide) dX7_feed_103 (fun H locs hP hD hS => ?_)
  obtain ⟨f_77, ef_77⟩ : ∃ g, g = upd (f_70) (10 : Int32).toNatClampNeg y_76 := ⟨_, rfl⟩
  have hP : va_P (dC, dI) vwCl [(y, .inr (7, [.int 0, .ref yo, .ref ya, .ref yv, .ref yg, .int 0, .int 0, .int 0, .int 0, .int 0, .ref yp, .int 0, .int 0, .int 0, .ref yu, .ref yk, .int 0, .int 0, .int 0, .int 2, .int 0, .int 0, .ref yq, .int 0, .ref yt, .int 10])), (yt, .inl (et, 1000, .inl (f_77)))] H := by rw [ef_77]; exact hP
  have hD : va_D A [(y, .inr (7, [.int 0, .ref yo, .ref ya, .ref yv, .ref yg, .int 0, .int 0, .int 0, .int 0, .int 0, .ref yp, .int 0, .int 0, .int 0, .ref yu, .ref yk, .int 0, .int 0, .int 0, .int 2, .int 0, .int 0, .ref yq, .int 0, .ref yt, .int 10])), (yt, .inl (et, 1000, .inl (f_77)))] := by rw [ef_77]; exact hD
  refine lv_aload_n hx hb dX7_feed_104 rfl (lv_at hl 2 rfl) ?_
  refine lv_dup hx hb dX7_feed_105 rfl ?_
  refine va_get (D := (dC, dI)) (ci := 7) (v := .int 10) (C := RX7) (T := TX7) (N := 26) hx hb hts in_X7_feed_X7 hown hK hP 0 rfl rfl 25 (by decide) (hts (.fieldLink RX7 245 "WorkspaceBoxModel" "taped" "I") (by decide +kernel)) (fun _ h9 => h9) rfl dX7_feed_106 ?_
  refine lv_iconst (v := 1) hx hb dX7_feed_109 (by decide) ?_
  refine lv_iadd hx hb dX7_feed_110 ?_
  refine lv_topi (fun y_78 ey_78 => ?_)
  obtain rfl : y_78 = 11 := ey_78.trans (by decide)
  refine va_put (D := (dC, dI)) (ci := 7) (v := .int 11) (ty := .int) (C := RX7) (T := TX7) (N := 26) hx hb hts in_X7_feed_X7 tyX7 tyX7_ok nmX7 hown hK hP hD hS 0 rfl rfl 25 (by decide) (hts (.fieldLink RX7 245 "WorkspaceBoxModel" "taped" "I") (by decide +kernel)) (fun _ h9 => h9) rfl (by decide +kernel) rfl rfl (Nat.le_of_ble_eq_true rfl) dX7_feed_111 (fun H locs hP hD hS => ?_)
  have hP : va_P (dC, dI) vwCl [(y, .inr (7, [.int 0, .ref yo, .ref ya, .ref yv, .ref yg, .int 0, .int 0, .int 0, .int 0, .int 0, .ref yp, .int 0, .int 0, .int 0, .ref yu, .ref yk, .int 0, .int 0, .int 0, .int 2, .int 0, .int 0, .ref yq, .int 0, .ref yt, .int 11])), (yt, .inl (et, 1000, .inl (f_77)))] H := hP
  have hD : va_D A [(y, .inr (7, [.int 0, .ref yo, .ref ya, .ref yv, .ref yg, .int 0, .int 0, .int 0, .int 0, .int 0, .ref yp, .int 0, .int 0, .int 0, .ref yu, .ref yk, .int 0, .int 0, .int 0, .int 2, .int 0, .int 0, .ref yq, .int 0, .ref yt, .int 11])), (yt, .inl (et, 1000, .inl (f_77)))] := hD
  refine lv_iinc (v := 11) (lv' := [(6, .int 11), (7, .int p2), (0, .ref y), (1, .int p0), (2, .int p1), (3, .int p2), (4, .int p3), (5, .int p4)]) hx hb dX7_feed_114 hl (k := 1) rfl (by decide) (by decide) rfl (fun ls hl => ?_)
  refine lv_goto (tgt := 23) hx hb dX7_feed_117 (by decide) ?_
  refine lv_iload hx hb dX7_feed_23 (lv_at hl 0 rfl) ?_
  refine lv_bipush (v := 20) hx hb dX7_feed_25 (by decide) ?_
  refine lv_icmp_ge (tgt := 120) hx hb dX7_feed_27 (by decide) (fun h => absurd h (by decide)) (fun _ => ?_)
  refine lv_iload hx hb dX7_feed_30 (lv_at hl 0 rfl) ?_
  refine lv_iconst (v := 4) hx hb dX7_feed_32 (by decide) ?_
  refine lv_icmp_ge (tgt := 40) hx hb dX7_feed_33 (by decide) (fun _ => ?_) (fun h => absurd (by decide) h)
  refine lv_iload hx hb dX7_feed_40 (lv_at hl 0 rfl) ?_
  refine lv_bipush (v := 8) hx hb dX7_feed_42 (by decide) ?_
  refine lv_icmp_ge (tgt := 51) hx hb dX7_feed_44 (by decide) (fun _ => ?_) (fun h => absurd (by decide) h)
  refine lv_iload hx hb dX7_feed_51 (lv_at hl 0 rfl) ?_
  refine lv_bipush (v := 12) hx hb dX7_feed_53 (by decide) ?_
  refine lv_icmp_ge (tgt := 62) hx hb dX7_feed_55 (by decide) (fun h => absurd h (by decide)) (fun _ => ?_)
  refine lv_iload_n hx hb dX7_feed_58 rfl (lv_at hl 5 rfl) ?_
  refine lv_goto (tgt := 76) hx hb dX7_feed_59 (by decide) ?_
  refine lv_istore (lv' := [(7, .int p2), (6, .int 11), (0, .ref y), (1, .int p0), (2, .int p1), (3, .int p2), (4, .int p3), (5, .int p4)]) hx hb dX7_feed_76 hl (by decide) rfl (fun ls hl => ?_)
  refine lv_aload_n hx hb dX7_feed_78 rfl (lv_at hl 2 rfl) ?_
  refine va_get (D := (dC, dI)) (ci := 7) (v := .ref yt) (C := RX7) (T := TX7) (N := 26) hx hb hts in_X7_feed_X7 hown hK hP 0 rfl rfl 24 (by decide) (hts (.fieldLink RX7 41 "WorkspaceBoxModel" "tape" "[I") (by decide +kernel)) (fun _ h9 => h9) rfl dX7_feed_79 ?_
  refine lv_aload_n hx hb dX7_feed_82 rfl (lv_at hl 2 rfl) ?_
  refine va_get (D := (dC, dI)) (ci := 7) (v := .int 11) (C := RX7) (T := TX7) (N := 26) hx hb hts in_X7_feed_X7 hown hK hP 0 rfl rfl 25 (by decide) (hts (.fieldLink RX7 245 "WorkspaceBoxModel" "taped" "I") (by decide +kernel)) (fun _ h9 => h9) rfl dX7_feed_83 ?_
  refine lv_iload hx hb dX7_feed_86 (lv_at hl 0 rfl) ?_
  refine lv_bipush (v := 24) hx hb dX7_feed_88 (by decide) ?_
  refine lv_bipush (v := 8) hx hb dX7_feed_90 (by decide) ?_
  refine lv_iload hx hb dX7_feed_92 (lv_at hl 1 rfl) ?_
  refine lv_iconst (v := 4) hx hb dX7_feed_94 (by decide) ?_
  refine lv_irem hx hb dX7_feed_95 (by decide) ?_
  refine lv_topi (fun y_79 ey_79 => ?_)
  obtain rfl : y_79 = 3 := ey_79.trans (by decide)
  refine lv_imul hx hb dX7_feed_96 ?_
  refine lv_topi (fun y_80 ey_80 => ?_)
  obtain rfl : y_80 = 24 := ey_80.trans (by decide)
  refine lv_isub hx hb dX7_feed_97 ?_
  refine lv_topi (fun y_81 ey_81 => ?_)
  obtain rfl : y_81 = 0 := ey_81.trans (by decide)
  refine lv_ishr hx hb dX7_feed_98 ?_
  refine lv_topi (fun y_82 ey_82 => ?_)
  refine lv_sipush (v := 255) hx hb dX7_feed_99 (by decide) ?_
  refine lv_iand hx hb dX7_feed_102 ?_
  refine lv_topi (fun y_83 ey_83 => ?_)
  refine va_iast hx hb hK hP hD hS 1 0 rfl rfl (by unfold vp_in; decide) dX7_feed_103 (fun H locs hP hD hS => ?_)
  obtain ⟨f_84, ef_84⟩ : ∃ g, g = upd (f_77) (11 : Int32).toNatClampNeg y_83 := ⟨_, rfl⟩
  have hP : va_P (dC, dI) vwCl [(y, .inr (7, [.int 0, .ref yo, .ref ya, .ref yv, .ref yg, .int 0, .int 0, .int 0, .int 0, .int 0, .ref yp, .int 0, .int 0, .int 0, .ref yu, .ref yk, .int 0, .int 0, .int 0, .int 2, .int 0, .int 0, .ref yq, .int 0, .ref yt, .int 11])), (yt, .inl (et, 1000, .inl (f_84)))] H := by rw [ef_84]; exact hP
  have hD : va_D A [(y, .inr (7, [.int 0, .ref yo, .ref ya, .ref yv, .ref yg, .int 0, .int 0, .int 0, .int 0, .int 0, .ref yp, .int 0, .int 0, .int 0, .ref yu, .ref yk, .int 0, .int 0, .int 0, .int 2, .int 0, .int 0, .ref yq, .int 0, .ref yt, .int 11])), (yt, .inl (et, 1000, .inl (f_84)))] := by rw [ef_84]; exact hD
  refine lv_aload_n hx hb dX7_feed_104 rfl (lv_at hl 2 rfl) ?_
  refine lv_dup hx hb dX7_feed_105 rfl ?_
  refine va_get (D := (dC, dI)) (ci := 7) (v := .int 11) (C := RX7) (T := TX7) (N := 26) hx hb hts in_X7_feed_X7 hown hK hP 0 rfl rfl 25 (by decide) (hts (.fieldLink RX7 245 "WorkspaceBoxModel" "taped" "I") (by decide +kernel)) (fun _ h9 => h9) rfl dX7_feed_106 ?_
  refine lv_iconst (v := 1) hx hb dX7_feed_109 (by decide) ?_
  refine lv_iadd hx hb dX7_feed_110 ?_
  refine lv_topi (fun y_85 ey_85 => ?_)
  obtain rfl : y_85 = 12 := ey_85.trans (by decide)
  refine va_put (D := (dC, dI)) (ci := 7) (v := .int 12) (ty := .int) (C := RX7) (T := TX7) (N := 26) hx hb hts in_X7_feed_X7 tyX7 tyX7_ok nmX7 hown hK hP hD hS 0 rfl rfl 25 (by decide) (hts (.fieldLink RX7 245 "WorkspaceBoxModel" "taped" "I") (by decide +kernel)) (fun _ h9 => h9) rfl (by decide +kernel) rfl rfl (Nat.le_of_ble_eq_true rfl) dX7_feed_111 (fun H locs hP hD hS => ?_)
  have hP : va_P (dC, dI) vwCl [(y, .inr (7, [.int 0, .ref yo, .ref ya, .ref yv, .ref yg, .int 0, .int 0, .int 0, .int 0, .int 0, .ref yp, .int 0, .int 0, .int 0, .ref yu, .ref yk, .int 0, .int 0, .int 0, .int 2, .int 0, .int 0, .ref yq, .int 0, .ref yt, .int 12])), (yt, .inl (et, 1000, .inl (f_84)))] H := hP
  have hD : va_D A [(y, .inr (7, [.int 0, .ref yo, .ref ya, .ref yv, .ref yg, .int 0, .int 0, .int 0, .int 0, .int 0, .ref yp, .int 0, .int 0, .int 0, .ref yu, .ref yk, .int 0, .int 0, .int 0, .int 2, .int 0, .int 0, .ref yq, .int 0, .ref yt, .int 12])), (yt, .inl (et, 1000, .inl (f_84)))] := hD
  refine lv_iinc (v := 12) (lv' := [(6, .int 12), (7, .int p2), (0, .ref y), (1, .int p0), (2, .int p1), (3, .int p2), (4, .int p3), (5, .int p4)]) hx hb dX7_feed_114 hl (k := 1) rfl (by decide) (by decide) rfl (fun ls hl => ?_)
  refine lv_goto (tgt := 23) hx hb dX7_feed_117 (by decide) ?_
  refine lv_iload hx hb dX7_feed_23 (lv_at hl 0 rfl) ?_
  refine lv_bipush (v := 20) hx hb dX7_feed_25 (by decide) ?_
  refine lv_icmp_ge (tgt := 120) hx hb dX7_feed_27 (by decide) (fun h => absurd h (by decide)) (fun _ => ?_)
  refine lv_iload hx hb dX7_feed_30 (lv_at hl 0 rfl) ?_
  refine lv_iconst (v := 4) hx hb dX7_feed_32 (by decide) ?_
  refine lv_icmp_ge (tgt := 40) hx hb dX7_feed_33 (by decide) (fun _ => ?_) (fun h => absurd (by decide) h)
  refine lv_iload hx hb dX7_feed_40 (lv_at hl 0 rfl) ?_
  refine lv_bipush (v := 8) hx hb dX7_feed_42 (by decide) ?_
  refine lv_icmp_ge (tgt := 51) hx hb dX7_feed_44 (by decide) (fun _ => ?_) (fun h => absurd (by decide) h)
  refine lv_iload hx hb dX7_feed_51 (lv_at hl 0 rfl) ?_
  refine lv_bipush (v := 12) hx hb dX7_feed_53 (by decide) ?_
  refine lv_icmp_ge (tgt := 62) hx hb dX7_feed_55 (by decide) (fun _ => ?_) (fun h => absurd (by decide) h)
  refine lv_iload hx hb dX7_feed_62 (lv_at hl 0 rfl) ?_
  refine lv_bipush (v := 16) hx hb dX7_feed_64 (by decide) ?_
  refine lv_icmp_ge (tgt := 74) hx hb dX7_feed_66 (by decide) (fun h => absurd h (by decide)) (fun _ => ?_)
  refine lv_iload hx hb dX7_feed_69 (lv_at hl 6 rfl) ?_
  refine lv_goto (tgt := 76) hx hb dX7_feed_71 (by decide) ?_
  refine lv_istore (lv' := [(7, .int p3), (6, .int 12), (0, .ref y), (1, .int p0), (2, .int p1), (3, .int p2), (4, .int p3), (5, .int p4)]) hx hb dX7_feed_76 hl (by decide) rfl (fun ls hl => ?_)
  refine lv_aload_n hx hb dX7_feed_78 rfl (lv_at hl 2 rfl) ?_
  refine va_get (D := (dC, dI)) (ci := 7) (v := .ref yt) (C := RX7) (T := TX7) (N := 26) hx hb hts in_X7_feed_X7 hown hK hP 0 rfl rfl 24 (by decide) (hts (.fieldLink RX7 41 "WorkspaceBoxModel" "tape" "[I") (by decide +kernel)) (fun _ h9 => h9) rfl dX7_feed_79 ?_
  refine lv_aload_n hx hb dX7_feed_82 rfl (lv_at hl 2 rfl) ?_
  refine va_get (D := (dC, dI)) (ci := 7) (v := .int 12) (C := RX7) (T := TX7) (N := 26) hx hb hts in_X7_feed_X7 hown hK hP 0 rfl rfl 25 (by decide) (hts (.fieldLink RX7 245 "WorkspaceBoxModel" "taped" "I") (by decide +kernel)) (fun _ h9 => h9) rfl dX7_feed_83 ?_
  refine lv_iload hx hb dX7_feed_86 (lv_at hl 0 rfl) ?_
  refine lv_bipush (v := 24) hx hb dX7_feed_88 (by decide) ?_
  refine lv_bipush (v := 8) hx hb dX7_feed_90 (by decide) ?_
  refine lv_iload hx hb dX7_feed_92 (lv_at hl 1 rfl) ?_
  refine lv_iconst (v := 4) hx hb dX7_feed_94 (by decide) ?_
  refine lv_irem hx hb dX7_feed_95 (by decide) ?_
  refine lv_topi (fun y_86 ey_86 => ?_)
  obtain rfl : y_86 = 0 := ey_86.trans (by decide)
  refine lv_imul hx hb dX7_feed_96 ?_
  refine lv_topi (fun y_87 ey_87 => ?_)
  obtain rfl : y_87 = 0 := ey_87.trans (by decide)
  refine lv_isub hx hb dX7_feed_97 ?_
  refine lv_topi (fun y_88 ey_88 => ?_)
  obtain rfl : y_88 = 24 := ey_88.trans (by decide)
  refine lv_ishr hx hb dX7_feed_98 ?_
  refine lv_topi (fun y_89 ey_89 => ?_)
  refine lv_sipush (v := 255) hx hb dX7_feed_99 (by decide) ?_
  refine lv_iand hx hb dX7_feed_102 ?_
  refine lv_topi (fun y_90 ey_90 => ?_)
  refine va_iast hx hb hK hP hD hS 1 0 rfl rfl (by unfold vp_in; decide) dX7_feed_103 (fun H locs hP hD hS => ?_)
  obtain ⟨f_91, ef_91⟩ : ∃ g, g = upd (f_84) (12 : Int32).toNatClampNeg y_90 := ⟨_, rfl⟩
  have hP : va_P (dC, dI) vwCl [(y, .inr (7, [.int 0, .ref yo, .ref ya, .ref yv, .ref yg, .int 0, .int 0, .int 0, .int 0, .int 0, .ref yp, .int 0, .int 0, .int 0, .ref yu, .ref yk, .int 0, .int 0, .int 0, .int 2, .int 0, .int 0, .ref yq, .int 0, .ref yt, .int 12])), (yt, .inl (et, 1000, .inl (f_91)))] H := by rw [ef_91]; exact hP
  have hD : va_D A [(y, .inr (7, [.int 0, .ref yo, .ref ya, .ref yv, .ref yg, .int 0, .int 0, .int 0, .int 0, .int 0, .ref yp, .int 0, .int 0, .int 0, .ref yu, .ref yk, .int 0, .int 0, .int 0, .int 2, .int 0, .int 0, .ref yq, .int 0, .ref yt, .int 12])), (yt, .inl (et, 1000, .inl (f_91)))] := by rw [ef_91]; exact hD
  refine lv_aload_n hx hb dX7_feed_104 rfl (lv_at hl 2 rfl) ?_
  refine lv_dup hx hb dX7_feed_105 rfl ?_
  refine va_get (D := (dC, dI)) (ci := 7) (v := .int 12) (C := RX7) (T := TX7) (N := 26) hx hb hts in_X7_feed_X7 hown hK hP 0 rfl rfl 25 (by decide) (hts (.fieldLink RX7 245 "WorkspaceBoxModel" "taped" "I") (by decide +kernel)) (fun _ h9 => h9) rfl dX7_feed_106 ?_
  refine lv_iconst (v := 1) hx hb dX7_feed_109 (by decide) ?_
  refine lv_iadd hx hb dX7_feed_110 ?_
  refine lv_topi (fun y_92 ey_92 => ?_)
  obtain rfl : y_92 = 13 := ey_92.trans (by decide)
  refine va_put (D := (dC, dI)) (ci := 7) (v := .int 13) (ty := .int) (C := RX7) (T := TX7) (N := 26) hx hb hts in_X7_feed_X7 tyX7 tyX7_ok nmX7 hown hK hP hD hS 0 rfl rfl 25 (by decide) (hts (.fieldLink RX7 245 "WorkspaceBoxModel" "taped" "I") (by decide +kernel)) (fun _ h9 => h9) rfl (by decide +kernel) rfl rfl (Nat.le_of_ble_eq_true rfl) dX7_feed_111 (fun H locs hP hD hS => ?_)
  have hP : va_P (dC, dI) vwCl [(y, .inr (7, [.int 0, .ref yo, .ref ya, .ref yv, .ref yg, .int 0, .int 0, .int 0, .int 0, .int 0, .ref yp, .int 0, .int 0, .int 0, .ref yu, .ref yk, .int 0, .int 0, .int 0, .int 2, .int 0, .int 0, .ref yq, .int 0, .ref yt, .int 13])), (yt, .inl (et, 1000, .inl (f_91)))] H := hP
  have hD : va_D A [(y, .inr (7, [.int 0, .ref yo, .ref ya, .ref yv, .ref yg, .int 0, .int 0, .int 0, .int 0, .int 0, .ref yp, .int 0, .int 0, .int 0, .ref yu, .ref yk, .int 0, .int 0, .int 0, .int 2, .int 0, .int 0, .ref yq, .int 0, .ref yt, .int 13])), (yt, .inl (et, 1000, .inl (f_91)))] := hD
  refine lv_iinc (v := 13) (lv' := [(6, .int 13), (7, .int p3), (0, .ref y), (1, .int p0), (2, .int p1), (3, .int p2), (4, .int p3), (5, .int p4)]) hx hb dX7_feed_114 hl (k := 1) rfl (by decide) (by decide) rfl (fun ls hl => ?_)
  refine lv_goto (tgt := 23) hx hb dX7_feed_117 (by decide) ?_
  refine lv_iload hx hb dX7_feed_23 (lv_at hl 0 rfl) ?_
  refine lv_bipush (v := 20) hx hb dX7_feed_25 (by decide) ?_
  refine lv_icmp_ge (tgt := 120) hx hb dX7_feed_27 (by decide) (fun h => absurd h (by decide)) (fun _ => ?_)
  refine lv_iload hx hb dX7_feed_30 (lv_at hl 0 rfl) ?_
  refine lv_iconst (v := 4) hx hb dX7_feed_32 (by decide) ?_
  refine lv_icmp_ge (tgt := 40) hx hb dX7_feed_33 (by decide) (fun _ => ?_) (fun h => absurd (by decide) h)
  refine lv_iload hx hb dX7_feed_40 (lv_at hl 0 rfl) ?_
  refine lv_bipush (v := 8) hx hb dX7_feed_42 (by decide) ?_
  refine lv_icmp_ge (tgt := 51) hx hb dX7_feed_44 (by decide) (fun _ => ?_) (fun h => absurd (by decide) h)
  refine lv_iload hx hb dX7_feed_51 (lv_at hl 0 rfl) ?_
  refine lv_bipush (v := 12) hx hb dX7_feed_53 (by decide) ?_
  refine lv_icmp_ge (tgt := 62) hx hb dX7_feed_55 (by decide) (fun _ => ?_) (fun h => absurd (by decide) h)
  refine lv_iload hx hb dX7_feed_62 (lv_at hl 0 rfl) ?_
  refine lv_bipush (v := 16) hx hb dX7_feed_64 (by decide) ?_
  refine lv_icmp_ge (tgt := 74) hx hb dX7_feed_66 (by decide) (fun h => absurd h (by decide)) (fun _ => ?_)
  refine lv_iload hx hb dX7_feed_69 (lv_at hl 6 rfl) ?_
  refine lv_goto (tgt := 76) hx hb dX7_feed_71 (by decide) ?_
  refine lv_istore (lv' := [(7, .int p3), (6, .int 13), (0, .ref y), (1, .int p0), (2, .int p1), (3, .int p2), (4, .int p3), (5, .int p4)]) hx hb dX7_feed_76 hl (by decide) rfl (fun ls hl => ?_)
  refine lv_aload_n hx hb dX7_feed_78 rfl (lv_at hl 2 rfl) ?_
  refine va_get (D := (dC, dI)) (ci := 7) (v := .ref yt) (C := RX7) (T := TX7) (N := 26) hx hb hts in_X7_feed_X7 hown hK hP 0 rfl rfl 24 (by decide) (hts (.fieldLink RX7 41 "WorkspaceBoxModel" "tape" "[I") (by decide +kernel)) (fun _ h9 => h9) rfl dX7_feed_79 ?_
  refine lv_aload_n hx hb dX7_feed_82 rfl (lv_at hl 2 rfl) ?_
  refine va_get (D := (dC, dI)) (ci := 7) (v := .int 13) (C := RX7) (T := TX7) (N := 26) hx hb hts in_X7_feed_X7 hown hK hP 0 rfl rfl 25 (by decide) (hts (.fieldLink RX7 245 "WorkspaceBoxModel" "taped" "I") (by decide +kernel)) (fun _ h9 => h9) rfl dX7_feed_83 ?_
  refine lv_iload hx hb dX7_feed_86 (lv_at hl 0 rfl) ?_
  refine lv_bipush (v := 24) hx hb dX7_feed_88 (by decide) ?_
  refine lv_bipush (v := 8) hx hb dX7_feed_90 (by decide) ?_
  refine lv_iload hx hb dX7_feed_92 (lv_at hl 1 rfl) ?_
  refine lv_iconst (v := 4) hx hb dX7_feed_94 (by decide) ?_
  refine lv_irem hx hb dX7_feed_95 (by decide) ?_
  refine lv_topi (fun y_93 ey_93 => ?_)
  obtain rfl : y_93 = 1 := ey_93.trans (by decide)
  refine lv_imul hx hb dX7_feed_96 ?_
  refine lv_topi (fun y_94 ey_94 => ?_)
  obtain rfl : y_94 = 8 := ey_94.trans (by decide)
  refine lv_isub hx hb dX7_feed_97 ?_
  refine lv_topi (fun y_95 ey_95 => ?_)
  obtain rfl : y_95 = 16 := ey_95.trans (by decide)
  refine lv_ishr hx hb dX7_feed_98 ?_
  refine lv_topi (fun y_96 ey_96 => ?_)
  refine lv_sipush (v := 255) hx hb dX7_feed_99 (by decide) ?_
  refine lv_iand hx hb dX7_feed_102 ?_
  refine lv_topi (fun y_97 ey_97 => ?_)
  refine va_iast hx hb hK hP hD hS 1 0 rfl rfl (by unfold vp_in; decide) dX7_feed_103 (fun H locs hP hD hS => ?_)
  obtain ⟨f_98, ef_98⟩ : ∃ g, g = upd (f_91) (13 : Int32).toNatClampNeg y_97 := ⟨_, rfl⟩
  have hP : va_P (dC, dI) vwCl [(y, .inr (7, [.int 0, .ref yo, .ref ya, .ref yv, .ref yg, .int 0, .int 0, .int 0, .int 0, .int 0, .ref yp, .int 0, .int 0, .int 0, .ref yu, .ref yk, .int 0, .int 0, .int 0, .int 2, .int 0, .int 0, .ref yq, .int 0, .ref yt, .int 13])), (yt, .inl (et, 1000, .inl (f_98)))] H := by rw [ef_98]; exact hP
  have hD : va_D A [(y, .inr (7, [.int 0, .ref yo, .ref ya, .ref yv, .ref yg, .int 0, .int 0, .int 0, .int 0, .int 0, .ref yp, .int 0, .int 0, .int 0, .ref yu, .ref yk, .int 0, .int 0, .int 0, .int 2, .int 0, .int 0, .ref yq, .int 0, .ref yt, .int 13])), (yt, .inl (et, 1000, .inl (f_98)))] := by rw [ef_98]; exact hD
  refine lv_aload_n hx hb dX7_feed_104 rfl (lv_at hl 2 rfl) ?_
  refine lv_dup hx hb dX7_feed_105 rfl ?_
  refine va_get (D := (dC, dI)) (ci := 7) (v := .int 13) (C := RX7) (T := TX7) (N := 26) hx hb hts in_X7_feed_X7 hown hK hP 0 rfl rfl 25 (by decide) (hts (.fieldLink RX7 245 "WorkspaceBoxModel" "taped" "I") (by decide +kernel)) (fun _ h9 => h9) rfl dX7_feed_106 ?_
  refine lv_iconst (v := 1) hx hb dX7_feed_109 (by decide) ?_
  refine lv_iadd hx hb dX7_feed_110 ?_
  refine lv_topi (fun y_99 ey_99 => ?_)
  obtain rfl : y_99 = 14 := ey_99.trans (by decide)
  refine va_put (D := (dC, dI)) (ci := 7) (v := .int 14) (ty := .int) (C := RX7) (T := TX7) (N := 26) hx hb hts in_X7_feed_X7 tyX7 tyX7_ok nmX7 hown hK hP hD hS 0 rfl rfl 25 (by decide) (hts (.fieldLink RX7 245 "WorkspaceBoxModel" "taped" "I") (by decide +kernel)) (fun _ h9 => h9) rfl (by decide +kernel) rfl rfl (Nat.le_of_ble_eq_true rfl) dX7_feed_111 (fun H locs hP hD hS => ?_)
  have hP : va_P (dC, dI) vwCl [(y, .inr (7, [.int 0, .ref yo, .ref ya, .ref yv, .ref yg, .int 0, .int 0, .int 0, .int 0, .int 0, .ref yp, .int 0, .int 0, .int 0, .ref yu, .ref yk, .int 0, .int 0, .int 0, .int 2, .int 0, .int 0, .ref yq, .int 0, .ref yt, .int 14])), (yt, .inl (et, 1000, .inl (f_98)))] H := hP
  have hD : va_D A [(y, .inr (7, [.int 0, .ref yo, .ref ya, .ref yv, .ref yg, .int 0, .int 0, .int 0, .int 0, .int 0, .ref yp, .int 0, .int 0, .int 0, .ref yu, .ref yk, .int 0, .int 0, .int 0, .int 2, .int 0, .int 0, .ref yq, .int 0, .ref yt, .int 14])), (yt, .inl (et, 1000, .inl (f_98)))] := hD
  refine lv_iinc (v := 14) (lv' := [(6, .int 14), (7, .int p3), (0, .ref y), (1, .int p0), (2, .int p1), (3, .int p2), (4, .int p3), (5, .int p4)]) hx hb dX7_feed_114 hl (k := 1) rfl (by decide) (by decide) rfl (fun ls hl => ?_)
  refine lv_goto (tgt := 23) hx hb dX7_feed_117 (by decide) ?_
  refine lv_iload hx hb dX7_feed_23 (lv_at hl 0 rfl) ?_
  refine lv_bipush (v := 20) hx hb dX7_feed_25 (by decide) ?_
  refine lv_icmp_ge (tgt := 120) hx hb dX7_feed_27 (by decide) (fun h => absurd h (by decide)) (fun _ => ?_)
  refine lv_iload hx hb dX7_feed_30 (lv_at hl 0 rfl) ?_
  refine lv_iconst (v := 4) hx hb dX7_feed_32 (by decide) ?_
  refine lv_icmp_ge (tgt := 40) hx hb dX7_feed_33 (by decide) (fun _ => ?_) (fun h => absurd (by decide) h)
  refine lv_iload hx hb dX7_feed_40 (lv_at hl 0 rfl) ?_
  refine lv_bipush (v := 8) hx hb dX7_feed_42 (by decide) ?_
  refine lv_icmp_ge (tgt := 51) hx hb dX7_feed_44 (by decide) (fun _ => ?_) (fun h => absurd (by decide) h)
  refine lv_iload hx hb dX7_feed_51 (lv_at hl 0 rfl) ?_
  refine lv_bipush (v := 12) hx hb dX7_feed_53 (by decide) ?_
  refine lv_icmp_ge (tgt := 62) hx hb dX7_feed_55 (by decide) (fun _ => ?_) (fun h => absurd (by decide) h)
  refine lv_iload hx hb dX7_feed_62 (lv_at hl 0 rfl) ?_
  refine lv_bipush (v := 16) hx hb dX7_feed_64 (by decide) ?_
  refine lv_icmp_ge (tgt := 74) hx hb dX7_feed_66 (by decide) (fun h => absurd h (by decide)) (fun _ => ?_)
  refine lv_iload hx hb dX7_feed_69 (lv_at hl 6 rfl) ?_
  refine lv_goto (tgt := 76) hx hb dX7_feed_71 (by decide) ?_
  refine lv_istore (lv' := [(7, .int p3), (6, .int 14), (0, .ref y), (1, .int p0), (2, .int p1), (3, .int p2), (4, .int p3), (5, .int p4)]) hx hb dX7_feed_76 hl (by decide) rfl (fun ls hl => ?_)
  refine lv_aload_n hx hb dX7_feed_78 rfl (lv_at hl 2 rfl) ?_
  refine va_get (D := (dC, dI)) (ci := 7) (v := .ref yt) (C := RX7) (T := TX7) (N := 26) hx hb hts in_X7_feed_X7 hown hK hP 0 rfl rfl 24 (by decide) (hts (.fieldLink RX7 41 "WorkspaceBoxModel" "tape" "[I") (by decide +kernel)) (fun _ h9 => h9) rfl dX7_feed_79 ?_
  refine lv_aload_n hx hb dX7_feed_82 rfl (lv_at hl 2 rfl) ?_
  refine va_get (D := (dC, dI)) (ci := 7) (v := .int 14) (C := RX7) (T := TX7) (N := 26) hx hb hts in_X7_feed_X7 hown hK hP 0 rfl rfl 25 (by decide) (hts (.fieldLink RX7 245 "WorkspaceBoxModel" "taped" "I") (by decide +kernel)) (fun _ h9 => h9) rfl dX7_feed_83 ?_
  refine lv_iload hx hb dX7_feed_86 (lv_at hl 0 rfl) ?_
  refine lv_bipush (v := 24) hx hb dX7_feed_88 (by decide) ?_
  refine lv_bipush (v := 8) hx hb dX7_feed_90 (by decide) ?_
  refine lv_iload hx hb dX7_feed_92 (lv_at hl 1 rfl) ?_
  refine lv_iconst (v := 4) hx hb dX7_feed_94 (by decide) ?_
  refine lv_irem hx hb dX7_feed_95 (by decide) ?_
  refine lv_topi (fun y_100 ey_100 => ?_)
  obtain rfl : y_100 = 2 := ey_100.trans (by decide)
  refine lv_imul hx hb dX7_feed_96 ?_
  refine lv_topi (fun y_101 ey_101 => ?_)
  obtain rfl : y_101 = 16 := ey_101.trans (by decide)
  refine lv_isub hx hb dX7_feed_97 ?_
  refine lv_topi (fun y_102 ey_102 => ?_)
  obtain rfl : y_102 = 8 := ey_102.trans (by decide)
  refine lv_ishr hx hb dX7_feed_98 ?_
  refine lv_topi (fun y_103 ey_103 => ?_)
  refine lv_sipush (v := 255) hx hb dX7_feed_99 (by decide) ?_
  refine lv_iand hx hb dX7_feed_102 ?_
  refine lv_topi (fun y_104 ey_104 => ?_)
  refine va_iast hx hb hK hP hD hS 1 0 rfl rfl (by unfold vp_in; decide) dX7_feed_103 (fun H locs hP hD hS => ?_)
  obtain ⟨f_105, ef_105⟩ : ∃ g, g = upd (f_98) (14 : Int32).toNatClampNeg y_104 := ⟨_, rfl⟩
  have hP : va_P (dC, dI) vwCl [(y, .inr (7, [.int 0, .ref yo, .ref ya, .ref yv, .ref yg, .int 0, .int 0, .int 0, .int 0, .int 0, .ref yp, .int 0, .int 0, .int 0, .ref yu, .ref yk, .int 0, .int 0, .int 0, .int 2, .int 0, .int 0, .ref yq, .int 0, .ref yt, .int 14])), (yt, .inl (et, 1000, .inl (f_105)))] H := by rw [ef_105]; exact hP
  have hD : va_D A [(y, .inr (7, [.int 0, .ref yo, .ref ya, .ref yv, .ref yg, .int 0, .int 0, .int 0, .int 0, .int 0, .ref yp, .int 0, .int 0, .int 0, .ref yu, .ref yk, .int 0, .int 0, .int 0, .int 2, .int 0, .int 0, .ref yq, .int 0, .ref yt, .int 14])), (yt, .inl (et, 1000, .inl (f_105)))] := by rw [ef_105]; exact hD
  refine lv_aload_n hx hb dX7_feed_104 rfl (lv_at hl 2 rfl) ?_
  refine lv_dup hx hb dX7_feed_105 rfl ?_
  refine va_get (D := (dC, dI)) (ci := 7) (v := .int 14) (C := RX7) (T := TX7) (N := 26) hx hb hts in_X7_feed_X7 hown hK hP 0 rfl rfl 25 (by decide) (hts (.fieldLink RX7 245 "WorkspaceBoxModel" "taped" "I") (by decide +kernel)) (fun _ h9 => h9) rfl dX7_feed_106 ?_
  refine lv_iconst (v := 1) hx hb dX7_feed_109 (by decide) ?_
  refine lv_iadd hx hb dX7_feed_110 ?_
  refine lv_topi (fun y_106 ey_106 => ?_)
  obtain rfl : y_106 = 15 := ey_106.trans (by decide)
  refine va_put (D := (dC, dI)) (ci := 7) (v := .int 15) (ty := .int) (C := RX7) (T := TX7) (N := 26) hx hb hts in_X7_feed_X7 tyX7 tyX7_ok nmX7 hown hK hP hD hS 0 rfl rfl 25 (by decide) (hts (.fieldLink RX7 245 "WorkspaceBoxModel" "taped" "I") (by decide +kernel)) (fun _ h9 => h9) rfl (by decide +kernel) rfl rfl (Nat.le_of_ble_eq_true rfl) dX7_feed_111 (fun H locs hP hD hS => ?_)
  have hP : va_P (dC, dI) vwCl [(y, .inr (7, [.int 0, .ref yo, .ref ya, .ref yv, .ref yg, .int 0, .int 0, .int 0, .int 0, .int 0, .ref yp, .int 0, .int 0, .int 0, .ref yu, .ref yk, .int 0, .int 0, .int 0, .int 2, .int 0, .int 0, .ref yq, .int 0, .ref yt, .int 15])), (yt, .inl (et, 1000, .inl (f_105)))] H := hP
  have hD : va_D A [(y, .inr (7, [.int 0, .ref yo, .ref ya, .ref yv, .ref yg, .int 0, .int 0, .int 0, .int 0, .int 0, .ref yp, .int 0, .int 0, .int 0, .ref yu, .ref yk, .int 0, .int 0, .int 0, .int 2, .int 0, .int 0, .ref yq, .int 0, .ref yt, .int 15])), (yt, .inl (et, 1000, .inl (f_105)))] := hD
  refine lv_iinc (v := 15) (lv' := [(6, .int 15), (7, .int p3), (0, .ref y), (1, .int p0), (2, .int p1), (3, .int p2), (4, .int p3), (5, .int p4)]) hx hb dX7_feed_114 hl (k := 1) rfl (by decide) (by decide) rfl (fun ls hl => ?_)
  refine lv_goto (tgt := 23) hx hb dX7_feed_117 (by decide) ?_
  refine lv_iload hx hb dX7_feed_23 (lv_at hl 0 rfl) ?_
  refine lv_bipush (v := 20) hx hb dX7_feed_25 (by decide) ?_
  refine lv_icmp_ge (tgt := 120) hx hb dX7_feed_27 (by decide) (fun h => absurd h (by decide)) (fun _ => ?_)
  refine lv_iload hx hb dX7_feed_30 (lv_at hl 0 rfl) ?_
  refine lv_iconst (v := 4) hx hb dX7_feed_32 (by decide) ?_
  refine lv_icmp_ge (tgt := 40) hx hb dX7_feed_33 (by decide) (fun _ => ?_) (fun h => absurd (by decide) h)
  refine lv_iload hx hb dX7_feed_40 (lv_at hl 0 rfl) ?_
  refine lv_bipush (v := 8) hx hb dX7_feed_42 (by decide) ?_
  refine lv_icmp_ge (tgt := 51) hx hb dX7_feed_44 (by decide) (fun _ => ?_) (fun h => absurd (by decide) h)
  refine lv_iload hx hb dX7_feed_51 (lv_at hl 0 rfl) ?_
  refine lv_bipush (v := 12) hx hb dX7_feed_53 (by decide) ?_
  refine lv_icmp_ge (tgt := 62) hx hb dX7_feed_55 (by decide) (fun _ => ?_) (fun h => absurd (by decide) h)
  refine lv_iload hx hb dX7_feed_62 (lv_at hl 0 rfl) ?_
  refine lv_bipush (v := 16) hx hb dX7_feed_64 (by decide) ?_
  refine lv_icmp_ge (tgt := 74) hx hb dX7_feed_66 (by decide) (fun h => absurd h (by decide)) (fun _ => ?_)
  refine lv_iload hx hb dX7_feed_69 (lv_at hl 6 rfl) ?_
  refine lv_goto (tgt := 76) hx hb dX7_feed_71 (by decide) ?_
  refine lv_istore (lv' := [(7, .int p3), (6, .int 15), (0, .ref y), (1, .int p0), (2, .int p1), (3, .int p2), (4, .int p3), (5, .int p4)]) hx hb dX7_feed_76 hl (by decide) rfl (fun ls hl => ?_)
  refine lv_aload_n hx hb dX7_feed_78 rfl (lv_at hl 2 rfl) ?_
  refine va_get (D := (dC, dI)) (ci := 7) (v := .ref yt) (C := RX7) (T := TX7) (N := 26) hx hb hts in_X7_feed_X7 hown hK hP 0 rfl rfl 24 (by decide) (hts (.fieldLink RX7 41 "WorkspaceBoxModel" "tape" "[I") (by decide +kernel)) (fun _ h9 => h9) rfl dX7_feed_79 ?_
  refine lv_aload_n hx hb dX7_feed_82 rfl (lv_at hl 2 rfl) ?_
  refine va_get (D := (dC, dI)) (ci := 7) (v := .int 15) (C := RX7) (T := TX7) (N := 26) hx hb hts in_X7_feed_X7 hown hK hP 0 rfl rfl 25 (by decide) (hts (.fieldLink RX7 245 "WorkspaceBoxModel" "taped" "I") (by decide +kernel)) (fun _ h9 => h9) rfl dX7_feed_83 ?_
  refine lv_iload hx hb dX7_feed_86 (lv_at hl 0 rfl) ?_
  refine lv_bipush (v := 24) hx hb dX7_feed_88 (by decide) ?_
  refine lv_bipush (v := 8) hx hb dX7_feed_90 (by decide) ?_
  refine lv_iload hx hb dX7_feed_92 (lv_at hl 1 rfl) ?_
  refine lv_iconst (v := 4) hx hb dX7_feed_94 (by decide) ?_
  refine lv_irem hx hb dX7_feed_95 (by decide) ?_
  refine lv_topi (fun y_107 ey_107 => ?_)
  obtain rfl : y_107 = 3 := ey_107.trans (by decide)
  refine lv_imul hx hb dX7_feed_96 ?_
  refine lv_topi (fun y_108 ey_108 => ?_)
  obtain rfl : y_108 = 24 := ey_108.trans (by decide)
  refine lv_isub hx hb dX7_feed_97 ?_
  refine lv_topi (fun y_109 ey_109 => ?_)
  obtain rfl : y_109 = 0 := ey_109.trans (by decide)
  refine lv_ishr hx hb dX7_feed_98 ?_
  refine lv_topi (fun y_110 ey_110 => ?_)
  refine lv_sipush (v := 255) hx hb dX7_feed_99 (by decide) ?_
  refine lv_iand hx hb dX7_feed_102 ?_
  refine lv_topi (fun y_111 ey_111 => ?_)
  refine va_iast hx hb hK hP hD hS 1 0 rfl rfl (by unfold vp_in; decide) dX7_feed_103 (fun H locs hP hD hS => ?_)
  obtain ⟨f_112, ef_112⟩ : ∃ g, g = upd (f_105) (15 : Int32).toNatClampNeg y_111 := ⟨_, rfl⟩
  have hP : va_P (dC, dI) vwCl [(y, .inr (7, [.int 0, .ref yo, .ref ya, .ref yv, .ref yg, .int 0, .int 0, .int 0, .int 0, .int 0, .ref yp, .int 0, .int 0, .int 0, .ref yu, .ref yk, .int 0, .int 0, .int 0, .int 2, .int 0, .int 0, .ref yq, .int 0, .ref yt, .int 15])), (yt, .inl (et, 1000, .inl (f_112)))] H := by rw [ef_112]; exact hP
  have hD : va_D A [(y, .inr (7, [.int 0, .ref yo, .ref ya, .ref yv, .ref yg, .int 0, .int 0, .int 0, .int 0, .int 0, .ref yp, .int 0, .int 0, .int 0, .ref yu, .ref yk, .int 0, .int 0, .int 0, .int 2, .int 0, .int 0, .ref yq, .int 0, .ref yt, .int 15])), (yt, .inl (et, 1000, .inl (f_112)))] := by rw [ef_112]; exact hD
  refine lv_aload_n hx hb dX7_feed_104 rfl (lv_at hl 2 rfl) ?_
  refine lv_dup hx hb dX7_feed_105 rfl ?_
  refine va_get (D := (dC, dI)) (ci := 7) (v := .int 15) (C := RX7) (T := TX7) (N := 26) hx hb hts in_X7_feed_X7 hown hK hP 0 rfl rfl 25 (by decide) (hts (.fieldLink RX7 245 "WorkspaceBoxModel" "taped" "I") (by decide +kernel)) (fun _ h9 => h9) rfl dX7_feed_106 ?_
  refine lv_iconst (v := 1) hx hb dX7_feed_109 (by decide) ?_
  refine lv_iadd hx hb dX7_feed_110 ?_
  refine lv_topi (fun y_113 ey_113 => ?_)
  obtain rfl : y_113 = 16 := ey_113.trans (by decide)
  refine va_put (D := (dC, dI)) (ci := 7) (v := .int 16) (ty := .int) (C := RX7) (T := TX7) (N := 26) hx hb hts in_X7_feed_X7 tyX7 tyX7_ok nmX7 hown hK hP hD hS 0 rfl rfl 25 (by decide) (hts (.fieldLink RX7 245 "WorkspaceBoxModel" "taped" "I") (by decide +kernel)) (fun _ h9 => h9) rfl (by decide +kernel) rfl rfl (Nat.le_of_ble_eq_true rfl) dX7_feed_111 (fun H locs hP hD hS => ?_)
  have hP : va_P (dC, dI) vwCl [(y, .inr (7, [.int 0, .ref yo, .ref ya, .ref yv, .ref yg, .int 0, .int 0, .int 0, .int 0, .int 0, .ref yp, .int 0, .int 0, .int 0, .ref yu, .ref yk, .int 0, .int 0, .int 0, .int 2, .int 0, .int 0, .ref yq, .int 0, .ref yt, .int 16])), (yt, .inl (et, 1000, .inl (f_112)))] H := hP
  have hD : va_D A [(y, .inr (7, [.int 0, .ref yo, .ref ya, .ref yv, .ref yg, .int 0, .int 0, .int 0, .int 0, .int 0, .ref yp, .int 0, .int 0, .int 0, .ref yu, .ref yk, .int 0, .int 0, .int 0, .int 2, .int 0, .int 0, .ref yq, .int 0, .ref yt, .int 16])), (yt, .inl (et, 1000, .inl (f_112)))] := hD
  refine lv_iinc (v := 16) (lv' := [(6, .int 16), (7, .int p3), (0, .ref y), (1, .int p0), (2, .int p1), (3, .int p2), (4, .int p3), (5, .int p4)]) hx hb dX7_feed_114 hl (k := 1) rfl (by decide) (by decide) rfl (fun ls hl => ?_)
  refine lv_goto (tgt := 23) hx hb dX7_feed_117 (by decide) ?_
  refine lv_iload hx hb dX7_feed_23 (lv_at hl 0 rfl) ?_
  refine lv_bipush (v := 20) hx hb dX7_feed_25 (by decide) ?_
  refine lv_icmp_ge (tgt := 120) hx hb dX7_feed_27 (by decide) (fun h => absurd h (by decide)) (fun _ => ?_)
  refine lv_iload hx hb dX7_feed_30 (lv_at hl 0 rfl) ?_
  refine lv_iconst (v := 4) hx hb dX7_feed_32 (by decide) ?_
  refine lv_icmp_ge (tgt := 40) hx hb dX7_feed_33 (by decide) (fun _ => ?_) (fun h => absurd (by decide) h)
  refine lv_iload hx hb dX7_feed_40 (lv_at hl 0 rfl) ?_
  refine lv_bipush (v := 8) hx hb dX7_feed_42 (by decide) ?_
  refine lv_icmp_ge (tgt := 51) hx hb dX7_feed_44 (by decide) (fun _ => ?_) (fun h => absurd (by decide) h)
  refine lv_iload hx hb dX7_feed_51 (lv_at hl 0 rfl) ?_
  refine lv_bipush (v := 12) hx hb dX7_feed_53 (by decide) ?_
  refine lv_icmp_ge (tgt := 62) hx hb dX7_feed_55 (by decide) (fun _ => ?_) (fun h => absurd (by decide) h)
  refine lv_iload hx hb dX7_feed_62 (lv_at hl 0 rfl) ?_
  refine lv_bipush (v := 16) hx hb dX7_feed_64 (by decide) ?_
  refine lv_icmp_ge (tgt := 74) hx hb dX7_feed_66 (by decide) (fun _ => ?_) (fun h => absurd (by decide) h)
  refine lv_iload hx hb dX7_feed_74 (lv_at hl 7 rfl) ?_
  refine lv_istore (lv' := [(7, .int p4), (6, .int 16), (0, .ref y), (1, .int p0), (2, .int p1), (3, .int p2), (4, .int p3), (5, .int p4)]) hx hb dX7_feed_76 hl (by decide) rfl (fun ls hl => ?_)
  refine lv_aload_n hx hb dX7_feed_78 rfl (lv_at hl 2 rfl) ?_
  refine va_get (D := (dC, dI)) (ci := 7) (v := .ref yt) (C := RX7) (T := TX7) (N := 26) hx hb hts in_X7_feed_X7 hown hK hP 0 rfl rfl 24 (by decide) (hts (.fieldLink RX7 41 "WorkspaceBoxModel" "tape" "[I") (by decide +kernel)) (fun _ h9 => h9) rfl dX7_feed_79 ?_
  refine lv_aload_n hx hb dX7_feed_82 rfl (lv_at hl 2 rfl) ?_
  refine va_get (D := (dC, dI)) (ci := 7) (v := .int 16) (C := RX7) (T := TX7) (N := 26) hx hb hts in_X7_feed_X7 hown hK hP 0 rfl rfl 25 (by decide) (hts (.fieldLink RX7 245 "WorkspaceBoxModel" "taped" "I") (by decide +kernel)) (fun _ h9 => h9) rfl dX7_feed_83 ?_
  refine lv_iload hx hb dX7_feed_86 (lv_at hl 0 rfl) ?_
  refine lv_bipush (v := 24) hx hb dX7_feed_88 (by decide) ?_
  refine lv_bipush (v := 8) hx hb dX7_feed_90 (by decide) ?_
  refine lv_iload hx hb dX7_feed_92 (lv_at hl 1 rfl) ?_
  refine lv_iconst (v := 4) hx hb dX7_feed_94 (by decide) ?_
  refine lv_irem hx hb dX7_feed_95 (by decide) ?_
  refine lv_topi (fun y_114 ey_114 => ?_)
  obtain rfl : y_114 = 0 := ey_114.trans (by decide)
  refine lv_imul hx hb dX7_feed_96 ?_
  refine lv_topi (fun y_115 ey_115 => ?_)
  obtain rfl : y_115 = 0 := ey_115.trans (by decide)
  refine lv_isub hx hb dX7_feed_97 ?_
  refine lv_topi (fun y_116 ey_116 => ?_)
  obtain rfl : y_116 = 24 := ey_116.trans (by decide)
  refine lv_ishr hx hb dX7_feed_98 ?_
  refine lv_topi (fun y_117 ey_117 => ?_)
  refine lv_sipush (v := 255) hx hb dX7_feed_99 (by decide) ?_
  refine lv_iand hx hb dX7_feed_102 ?_
  refine lv_topi (fun y_118 ey_118 => ?_)
  refine va_iast hx hb hK hP hD hS 1 0 rfl rfl (by unfold vp_in; decide) dX7_feed_103 (fun H locs hP hD hS => ?_)
  obtain ⟨f_119, ef_119⟩ : ∃ g, g = upd (f_112) (16 : Int32).toNatClampNeg y_118 := ⟨_, rfl⟩
  have hP : va_P (dC, dI) vwCl [(y, .inr (7, [.int 0, .ref yo, .ref ya, .ref yv, .ref yg, .int 0, .int 0, .int 0, .int 0, .int 0, .ref yp, .int 0, .int 0, .int 0, .ref yu, .ref yk, .int 0, .int 0, .int 0, .int 2, .int 0, .int 0, .ref yq, .int 0, .ref yt, .int 16])), (yt, .inl (et, 1000, .inl (f_119)))] H := by rw [ef_119]; exact hP
  have hD : va_D A [(y, .inr (7, [.int 0, .ref yo, .ref ya, .ref yv, .ref yg, .int 0, .int 0, .int 0, .int 0, .int 0, .ref yp, .int 0, .int 0, .int 0, .ref yu, .ref yk, .int 0, .int 0, .int 0, .int 2, .int 0, .int 0, .ref yq, .int 0, .ref yt, .int 16])), (yt, .inl (et, 1000, .inl (f_119)))] := by rw [ef_119]; exact hD
  refine lv_aload_n hx hb dX7_feed_104 rfl (lv_at hl 2 rfl) ?_
  refine lv_dup hx hb dX7_feed_105 rfl ?_
  refine va_get (D := (dC, dI)) (ci := 7) (v := .int 16) (C := RX7) (T := TX7) (N := 26) hx hb hts in_X7_feed_X7 hown hK hP 0 rfl rfl 25 (by decide) (hts (.fieldLink RX7 245 "WorkspaceBoxModel" "taped" "I") (by decide +kernel)) (fun _ h9 => h9) rfl dX7_feed_106 ?_
  refine lv_iconst (v := 1) hx hb dX7_feed_109 (by decide) ?_
  refine lv_iadd hx hb dX7_feed_110 ?_
  refine lv_topi (fun y_120 ey_120 => ?_)
  obtain rfl : y_120 = 17 := ey_120.trans (by decide)
  refine va_put (D := (dC, dI)) (ci := 7) (v := .int 17) (ty := .int) (C := RX7) (T := TX7) (N := 26) hx hb hts in_X7_feed_X7 tyX7 tyX7_ok nmX7 hown hK hP hD hS 0 rfl rfl 25 (by decide) (hts (.fieldLink RX7 245 "WorkspaceBoxModel" "taped" "I") (by decide +kernel)) (fun _ h9 => h9) rfl (by decide +kernel) rfl rfl (Nat.le_of_ble_eq_true rfl) dX7_feed_111 (fun H locs hP hD hS => ?_)
  have hP : va_P (dC, dI) vwCl [(y, .inr (7, [.int 0, .ref yo, .ref ya, .ref yv, .ref yg, .int 0, .int 0, .int 0, .int 0, .int 0, .ref yp, .int 0, .int 0, .int 0, .ref yu, .ref yk, .int 0, .int 0, .int 0, .int 2, .int 0, .int 0, .ref yq, .int 0, .ref yt, .int 17])), (yt, .inl (et, 1000, .inl (f_119)))] H := hP
  have hD : va_D A [(y, .inr (7, [.int 0, .ref yo, .ref ya, .ref yv, .ref yg, .int 0, .int 0, .int 0, .int 0, .int 0, .ref yp, .int 0, .int 0, .int 0, .ref yu, .ref yk, .int 0, .int 0, .int 0, .int 2, .int 0, .int 0, .ref yq, .int 0, .ref yt, .int 17])), (yt, .inl (et, 1000, .inl (f_119)))] := hD
  refine lv_iinc (v := 17) (lv' := [(6, .int 17), (7, .int p4), (0, .ref y), (1, .int p0), (2, .int p1), (3, .int p2), (4, .int p3), (5, .int p4)]) hx hb dX7_feed_114 hl (k := 1) rfl (by decide) (by decide) rfl (fun ls hl => ?_)
  refine lv_goto (tgt := 23) hx hb dX7_feed_117 (by decide) ?_
  refine lv_iload hx hb dX7_feed_23 (lv_at hl 0 rfl) ?_
  refine lv_bipush (v := 20) hx hb dX7_feed_25 (by decide) ?_
  refine lv_icmp_ge (tgt := 120) hx hb dX7_feed_27 (by decide) (fun h => absurd h (by decide)) (fun _ => ?_)
  refine lv_iload hx hb dX7_feed_30 (lv_at hl 0 rfl) ?_
  refine lv_iconst (v := 4) hx hb dX7_feed_32 (by decide) ?_
  refine lv_icmp_ge (tgt := 40) hx hb dX7_feed_33 (by decide) (fun _ => ?_) (fun h => absurd (by decide) h)
  refine lv_iload hx hb dX7_feed_40 (lv_at hl 0 rfl) ?_
  refine lv_bipush (v := 8) hx hb dX7_feed_42 (by decide) ?_
  refine lv_icmp_ge (tgt := 51) hx hb dX7_feed_44 (by decide) (fun _ => ?_) (fun h => absurd (by decide) h)
  refine lv_iload hx hb dX7_feed_51 (lv_at hl 0 rfl) ?_
  refine lv_bipush (v := 12) hx hb dX7_feed_53 (by decide) ?_
  refine lv_icmp_ge (tgt := 62) hx hb dX7_feed_55 (by decide) (fun _ => ?_) (fun h => absurd (by decide) h)
  refine lv_iload hx hb dX7_feed_62 (lv_at hl 0 rfl) ?_
  refine lv_bipush (v := 16) hx hb dX7_feed_64 (by decide) ?_
  refine lv_icmp_ge (tgt := 74) hx hb dX7_feed_66 (by decide) (fun _ => ?_) (fun h => absurd (by decide) h)
  refine lv_iload hx hb dX7_feed_74 (lv_at hl 7 rfl) ?_
  refine lv_istore (lv' := [(7, .int p4), (6, .int 17), (0, .ref y), (1, .int p0), (2, .int p1), (3, .int p2), (4, .int p3), (5, .int p4)]) hx hb dX7_feed_76 hl (by decide) rfl (fun ls hl => ?_)
  refine lv_aload_n hx hb dX7_feed_78 rfl (lv_at hl 2 rfl) ?_
  refine va_get (D := (dC, dI)) (ci := 7) (v := .ref yt) (C := RX7) (T := TX7) (N := 26) hx hb hts in_X7_feed_X7 hown hK hP 0 rfl rfl 24 (by decide) (hts (.fieldLink RX7 41 "WorkspaceBoxModel" "tape" "[I") (by decide +kernel)) (fun _ h9 => h9) rfl dX7_feed_79 ?_
  refine lv_aload_n hx hb dX7_feed_82 rfl (lv_at hl 2 rfl) ?_
  refine va_get (D := (dC, dI)) (ci := 7) (v := .int 17) (C := RX7) (T := TX7) (N := 26) hx hb hts in_X7_feed_X7 hown hK hP 0 rfl rfl 25 (by decide) (hts (.fieldLink RX7 245 "WorkspaceBoxModel" "taped" "I") (by decide +kernel)) (fun _ h9 => h9) rfl dX7_feed_83 ?_
  refine lv_iload hx hb dX7_feed_86 (lv_at hl 0 rfl) ?_
  refine lv_bipush (v := 24) hx hb dX7_feed_88 (by decide) ?_
  refine lv_bipush (v := 8) hx hb dX7_feed_90 (by decide) ?_
  refine lv_iload hx hb dX7_feed_92 (lv_at hl 1 rfl) ?_
  refine lv_iconst (v := 4) hx hb dX7_feed_94 (by decide) ?_
  refine lv_irem hx hb dX7_feed_95 (by decide) ?_
  refine lv_topi (fun y_121 ey_121 => ?_)
  obtain rfl : y_121 = 1 := ey_121.trans (by decide)
  refine lv_imul hx hb dX7_feed_96 ?_
  refine lv_topi (fun y_122 ey_122 => ?_)
  obtain rfl : y_122 = 8 := ey_122.trans (by decide)
  refine lv_isub hx hb dX7_feed_97 ?_
  refine lv_topi (fun y_123 ey_123 => ?_)
  obtain rfl : y_123 = 16 := ey_123.trans (by decide)
  refine lv_ishr hx hb dX7_feed_98 ?_
  refine lv_topi (fun y_124 ey_124 => ?_)
  refine lv_sipush (v := 255) hx hb dX7_feed_99 (by decide) ?_
  refine lv_iand hx hb dX7_feed_102 ?_
  refine lv_topi (fun y_125 ey_125 => ?_)
  refine va_iast hx hb hK hP hD hS 1 0 rfl rfl (by unfold vp_in; decide) dX7_feed_103 (fun H locs hP hD hS => ?_)
  obtain ⟨f_126, ef_126⟩ : ∃ g, g = upd (f_119) (17 : Int32).toNatClampNeg y_125 := ⟨_, rfl⟩
  have hP : va_P (dC, dI) vwCl [(y, .inr (7, [.int 0, .ref yo, .ref ya, .ref yv, .ref yg, .int 0, .int 0, .int 0, .int 0, .int 0, .ref yp, .int 0, .int 0, .int 0, .ref yu, .ref yk, .int 0, .int 0, .int 0, .int 2, .int 0, .int 0, .ref yq, .int 0, .ref yt, .int 17])), (yt, .inl (et, 1000, .inl (f_126)))] H := by rw [ef_126]; exact hP
  have hD : va_D A [(y, .inr (7, [.int 0, .ref yo, .ref ya, .ref yv, .ref yg, .int 0, .int 0, .int 0, .int 0, .int 0, .ref yp, .int 0, .int 0, .int 0, .ref yu, .ref yk, .int 0, .int 0, .int 0, .int 2, .int 0, .int 0, .ref yq, .int 0, .ref yt, .int 17])), (yt, .inl (et, 1000, .inl (f_126)))] := by rw [ef_126]; exact hD
  refine lv_aload_n hx hb dX7_feed_104 rfl (lv_at hl 2 rfl) ?_
  refine lv_dup hx hb dX7_feed_105 rfl ?_
  refine va_get (D := (dC, dI)) (ci := 7) (v := .int 17) (C := RX7) (T := TX7) (N := 26) hx hb hts in_X7_feed_X7 hown hK hP 0 rfl rfl 25 (by decide) (hts (.fieldLink RX7 245 "WorkspaceBoxModel" "taped" "I") (by decide +kernel)) (fun _ h9 => h9) rfl dX7_feed_106 ?_
  refine lv_iconst (v := 1) hx hb dX7_feed_109 (by decide) ?_
  refine lv_iadd hx hb dX7_feed_110 ?_
  refine lv_topi (fun y_127 ey_127 => ?_)
  obtain rfl : y_127 = 18 := ey_127.trans (by decide)
  refine va_put (D := (dC, dI)) (ci := 7) (v := .int 18) (ty := .int) (C := RX7) (T := TX7) (N := 26) hx hb hts in_X7_feed_X7 tyX7 tyX7_ok nmX7 hown hK hP hD hS 0 rfl rfl 25 (by decide) (hts (.fieldLink RX7 245 "WorkspaceBoxModel" "taped" "I") (by decide +kernel)) (fun _ h9 => h9) rfl (by decide +kernel) rfl rfl (Nat.le_of_ble_eq_true rfl) dX7_feed_111 (fun H locs hP hD hS => ?_)
  have hP : va_P (dC, dI) vwCl [(y, .inr (7, [.int 0, .ref yo, .ref ya, .ref yv, .ref yg, .int 0, .int 0, .int 0, .int 0, .int 0, .ref yp, .int 0, .int 0, .int 0, .ref yu, .ref yk, .int 0, .int 0, .int 0, .int 2, .int 0, .int 0, .ref yq, .int 0, .ref yt, .int 18])), (yt, .inl (et, 1000, .inl (f_126)))] H := hP
  have hD : va_D A [(y, .inr (7, [.int 0, .ref yo, .ref ya, .ref yv, .ref yg, .int 0, .int 0, .int 0, .int 0, .int 0, .ref yp, .int 0, .int 0, .int 0, .ref yu, .ref yk, .int 0, .int 0, .int 0, .int 2, .int 0, .int 0, .ref yq, .int 0, .ref yt, .int 18])), (yt, .inl (et, 1000, .inl (f_126)))] := hD
  refine lv_iinc (v := 18) (lv' := [(6, .int 18), (7, .int p4), (0, .ref y), (1, .int p0), (2, .int p1), (3, .int p2), (4, .int p3), (5, .int p4)]) hx hb dX7_feed_114 hl (k := 1) rfl (by decide) (by decide) rfl (fun ls hl => ?_)
  refine lv_goto (tgt := 23) hx hb dX7_feed_117 (by decide) ?_
  refine lv_iload hx hb dX7_feed_23 (lv_at hl 0 rfl) ?_
  refine lv_bipush (v := 20) hx hb dX7_feed_25 (by decide) ?_
  refine lv_icmp_ge (tgt := 120) hx hb dX7_feed_27 (by decide) (fun h => absurd h (by decide)) (fun _ => ?_)
  refine lv_iload hx hb dX7_feed_30 (lv_at hl 0 rfl) ?_
  refine lv_iconst (v := 4) hx hb dX7_feed_32 (by decide) ?_
  refine lv_icmp_ge (tgt := 40) hx hb dX7_feed_33 (by decide) (fun _ => ?_) (fun h => absurd (by decide) h)
  refine lv_iload hx hb dX7_feed_40 (lv_at hl 0 rfl) ?_
  refine lv_bipush (v := 8) hx hb dX7_feed_42 (by decide) ?_
  refine lv_icmp_ge (tgt := 51) hx hb dX7_feed_44 (by decide) (fun _ => ?_) (fun h => absurd (by decide) h)
  refine lv_iload hx hb dX7_feed_51 (lv_at hl 0 rfl) ?_
  refine lv_bipush (v := 12) hx hb dX7_feed_53 (by decide) ?_
  refine lv_icmp_ge (tgt := 62) hx hb dX7_feed_55 (by decide) (fun _ => ?_) (fun h => absurd (by decide) h)
  refine lv_iload hx hb dX7_feed_62 (lv_at hl 0 rfl) ?_
  refine lv_bipush (v := 16) hx hb dX7_feed_64 (by decide) ?_
  refine lv_icmp_ge (tgt := 74) hx hb dX7_feed_66 (by decide) (fun _ => ?_) (fun h => absurd (by decide) h)
  refine lv_iload hx hb dX7_feed_74 (lv_at hl 7 rfl) ?_
  refine lv_istore (lv' := [(7, .int p4), (6, .int 18), (0, .ref y), (1, .int p0), (2, .int p1), (3, .int p2), (4, .int p3), (5, .int p4)]) hx hb dX7_feed_76 hl (by decide) rfl (fun ls hl => ?_)
  refine lv_aload_n hx hb dX7_feed_78 rfl (lv_at hl 2 rfl) ?_
  refine va_get (D := (dC, dI)) (ci := 7) (v := .ref yt) (C := RX7) (T := TX7) (N := 26) hx hb hts in_X7_feed_X7 hown hK hP 0 rfl rfl 24 (by decide) (hts (.fieldLink RX7 41 "WorkspaceBoxModel" "tape" "[I") (by decide +kernel)) (fun _ h9 => h9) rfl dX7_feed_79 ?_
  refine lv_aload_n hx hb dX7_feed_82 rfl (lv_at hl 2 rfl) ?_
  refine va_get (D := (dC, dI)) (ci := 7) (v := .int 18) (C := RX7) (T := TX7) (N := 26) hx hb hts in_X7_feed_X7 hown hK hP 0 rfl rfl 25 (by decide) (hts (.fieldLink RX7 245 "WorkspaceBoxModel" "taped" "I") (by decide +kernel)) (fun _ h9 => h9) rfl dX7_feed_83 ?_
  refine lv_iload hx hb dX7_feed_86 (lv_at hl 0 rfl) ?_
  refine lv_bipush (v := 24) hx hb dX7_feed_88 (by decide) ?_
  refine lv_bipush (v := 8) hx hb dX7_feed_90 (by decide) ?_
  refine lv_iload hx hb dX7_feed_92 (lv_at hl 1 rfl) ?_
  refine lv_iconst (v := 4) hx hb dX7_feed_94 (by decide) ?_
  refine lv_irem hx hb dX7_feed_95 (by decide) ?_
  refine lv_topi (fun y_128 ey_128 => ?_)
  obtain rfl : y_128 = 2 := ey_128.trans (by decide)
  refine lv_imul hx hb dX7_feed_96 ?_
  refine lv_topi (fun y_129 ey_129 => ?_)
  obtain rfl : y_129 = 16 := ey_129.trans (by decide)
  refine lv_isub hx hb dX7_feed_97 ?_
  refine lv_topi (fun y_130 ey_130 => ?_)
  obtain rfl : y_130 = 8 := ey_130.trans (by decide)
  refine lv_ishr hx hb dX7_feed_98 ?_
  refine lv_topi (fun y_131 ey_131 => ?_)
  refine lv_sipush (v := 255) hx hb dX7_feed_99 (by decide) ?_
  refine lv_iand hx hb dX7_feed_102 ?_
  refine lv_topi (fun y_132 ey_132 => ?_)
  refine va_iast hx hb hK hP hD hS 1 0 rfl rfl (by unfold vp_in; decide) dX7_feed_103 (fun H locs hP hD hS => ?_)
  obtain ⟨f_133, ef_133⟩ : ∃ g, g = upd (f_126) (18 : Int32).toNatClampNeg y_132 := ⟨_, rfl⟩
  have hP : va_P (dC, dI) vwCl [(y, .inr (7, [.int 0, .ref yo, .ref ya, .ref yv, .ref yg, .int 0, .int 0, .int 0, .int 0, .int 0, .ref yp, .int 0, .int 0, .int 0, .ref yu, .ref yk, .int 0, .int 0, .int 0, .int 2, .int 0, .int 0, .ref yq, .int 0, .ref yt, .int 18])), (yt, .inl (et, 1000, .inl (f_133)))] H := by rw [ef_133]; exact hP
  have hD : va_D A [(y, .inr (7, [.int 0, .ref yo, .ref ya, .ref yv, .ref yg, .int 0, .int 0, .int 0, .int 0, .int 0, .ref yp, .int 0, .int 0, .int 0, .ref yu, .ref yk, .int 0, .int 0, .int 0, .int 2, .int 0, .int 0, .ref yq, .int 0, .ref yt, .int 18])), (yt, .inl (et, 1000, .inl (f_133)))] := by rw [ef_133]; exact hD
  refine lv_aload_n hx hb dX7_feed_104 rfl (lv_at hl 2 rfl) ?_
  refine lv_dup hx hb dX7_feed_105 rfl ?_
  refine va_get (D := (dC, dI)) (ci := 7) (v := .int 18) (C := RX7) (T := TX7) (N := 26) hx hb hts in_X7_feed_X7 hown hK hP 0 rfl rfl 25 (by decide) (hts (.fieldLink RX7 245 "WorkspaceBoxModel" "taped" "I") (by decide +kernel)) (fun _ h9 => h9) rfl dX7_feed_106 ?_
  refine lv_iconst (v := 1) hx hb dX7_feed_109 (by decide) ?_
  refine lv_iadd hx hb dX7_feed_110 ?_
  refine lv_topi (fun y_134 ey_134 => ?_)
  obtain rfl : y_134 = 19 := ey_134.trans (by decide)
  refine va_put (D := (dC, dI)) (ci := 7) (v := .int 19) (ty := .int) (C := RX7) (T := TX7) (N := 26) hx hb hts in_X7_feed_X7 tyX7 tyX7_ok nmX7 hown hK hP hD hS 0 rfl rfl 25 (by decide) (hts (.fieldLink RX7 245 "WorkspaceBoxModel" "taped" "I") (by decide +kernel)) (fun _ h9 => h9) rfl (by decide +kernel) rfl rfl (Nat.le_of_ble_eq_true rfl) dX7_feed_111 (fun H locs hP hD hS => ?_)
  have hP : va_P (dC, dI) vwCl [(y, .inr (7, [.int 0, .ref yo, .ref ya, .ref yv, .ref yg, .int 0, .int 0, .int 0, .int 0, .int 0, .ref yp, .int 0, .int 0, .int 0, .ref yu, .ref yk, .int 0, .int 0, .int 0, .int 2, .int 0, .int 0, .ref yq, .int 0, .ref yt, .int 19])), (yt, .inl (et, 1000, .inl (f_133)))] H := hP
  have hD : va_D A [(y, .inr (7, [.int 0, .ref yo, .ref ya, .ref yv, .ref yg, .int 0, .int 0, .int 0, .int 0, .int 0, .ref yp, .int 0, .int 0, .int 0, .ref yu, .ref yk, .int 0, .int 0, .int 0, .int 2, .int 0, .int 0, .ref yq, .int 0, .ref yt, .int 19])), (yt, .inl (et, 1000, .inl (f_133)))] := hD
  refine lv_iinc (v := 19) (lv' := [(6, .int 19), (7, .int p4), (0, .ref y), (1, .int p0), (2, .int p1), (3, .int p2), (4, .int p3), (5, .int p4)]) hx hb dX7_feed_114 hl (k := 1) rfl (by decide) (by decide) rfl (fun ls hl => ?_)
  refine lv_goto (tgt := 23) hx hb dX7_feed_117 (by decide) ?_
  refine lv_iload hx hb dX7_feed_23 (lv_at hl 0 rfl) ?_
  refine lv_bipush (v := 20) hx hb dX7_feed_25 (by decide) ?_
  refine lv_icmp_ge (tgt := 120) hx hb dX7_feed_27 (by decide) (fun h => absurd h (by decide)) (fun _ => ?_)
  refine lv_iload hx hb dX7_feed_30 (lv_at hl 0 rfl) ?_
  refine lv_iconst (v := 4) hx hb dX7_feed_32 (by decide) ?_
  refine lv_icmp_ge (tgt := 40) hx hb dX7_feed_33 (by decide) (fun _ => ?_) (fun h => absurd (by decide) h)
  refine lv_iload hx hb dX7_feed_40 (lv_at hl 0 rfl) ?_
  refine lv_bipush (v := 8) hx hb dX7_feed_42 (by decide) ?_
  refine lv_icmp_ge (tgt := 51) hx hb dX7_feed_44 (by decide) (fun _ => ?_) (fun h => absurd (by decide) h)
  refine lv_iload hx hb dX7_feed_51 (lv_at hl 0 rfl) ?_
  refine lv_bipush (v := 12) hx hb dX7_feed_53 (by decide) ?_
  refine lv_icmp_ge (tgt := 62) hx hb dX7_feed_55 (by decide) (fun _ => ?_) (fun h => absurd (by decide) h)
  refine lv_iload hx hb dX7_feed_62 (lv_at hl 0 rfl) ?_
  refine lv_bipush (v := 16) hx hb dX7_feed_64 (by decide) ?_
  refine lv_icmp_ge (tgt := 74) hx hb dX7_feed_66 (by decide) (fun _ => ?_) (fun h => absurd (by decide) h)
  refine lv_iload hx hb dX7_feed_74 (lv_at hl 7 rfl) ?_
  refine lv_istore (lv' := [(7, .int p4), (6, .int 19), (0, .ref y), (1, .int p0), (2, .int p1), (3, .int p2), (4, .int p3), (5, .int p4)]) hx hb dX7_feed_76 hl (by decide) rfl (fun ls hl => ?_)
  refine lv_aload_n hx hb dX7_feed_78 rfl (lv_at hl 2 rfl) ?_
  refine va_get (D := (dC, dI)) (ci := 7) (v := .ref yt) (C := RX7) (T := TX7) (N := 26) hx hb hts in_X7_feed_X7 hown hK hP 0 rfl rfl 24 (by decide) (hts (.fieldLink RX7 41 "WorkspaceBoxModel" "tape" "[I") (by decide +kernel)) (fun _ h9 => h9) rfl dX7_feed_79 ?_
  refine lv_aload_n hx hb dX7_feed_82 rfl (lv_at hl 2 rfl) ?_
  refine va_get (D := (dC, dI)) (ci := 7) (v := .int 19) (C := RX7) (T := TX7) (N := 26) hx hb hts in_X7_feed_X7 hown hK hP 0 rfl rfl 25 (by decide) (hts (.fieldLink RX7 245 "WorkspaceBoxModel" "taped" "I") (by decide +kernel)) (fun _ h9 => h9) rfl dX7_feed_83 ?_
  refine lv_iload hx hb dX7_feed_86 (lv_at hl 0 rfl) ?_
  refine lv_bipush (v := 24) hx hb dX7_feed_88 (by decide) ?_
  refine lv_bipush (v := 8) hx hb dX7_feed_90 (by decide) ?_
  refine lv_iload hx hb dX7_feed_92 (lv_at hl 1 rfl) ?_
  refine lv_iconst (v := 4) hx hb dX7_feed_94 (by decide) ?_
  refine lv_irem hx hb dX7_feed_95 (by decide) ?_
  refine lv_topi (fun y_135 ey_135 => ?_)
  obtain rfl : y_135 = 3 := ey_135.trans (by decide)
  refine lv_imul hx hb dX7_feed_96 ?_
  refine lv_topi (fun y_136 ey_136 => ?_)
  obtain rfl : y_136 = 24 := ey_136.trans (by decide)
  refine lv_isub hx hb dX7_feed_97 ?_
  refine lv_topi (fun y_137 ey_137 => ?_)
  obtain rfl : y_137 = 0 := ey_137.trans (by decide)
  refine lv_ishr hx hb dX7_feed_98 ?_
  refine lv_topi (fun y_138 ey_138 => ?_)
  refine lv_sipush (v := 255) hx hb dX7_feed_99 (by decide) ?_
  refine lv_iand hx hb dX7_feed_102 ?_
  refine lv_topi (fun y_139 ey_139 => ?_)
  refine va_iast hx hb hK hP hD hS 1 0 rfl rfl (by unfold vp_in; decide) dX7_feed_103 (fun H locs hP hD hS => ?_)
  obtain ⟨f_140, ef_140⟩ : ∃ g, g = upd (f_133) (19 : Int32).toNatClampNeg y_139 := ⟨_, rfl⟩
  have hP : va_P (dC, dI) vwCl [(y, .inr (7, [.int 0, .ref yo, .ref ya, .ref yv, .ref yg, .int 0, .int 0, .int 0, .int 0, .int 0, .ref yp, .int 0, .int 0, .int 0, .ref yu, .ref yk, .int 0, .int 0, .int 0, .int 2, .int 0, .int 0, .ref yq, .int 0, .ref yt, .int 19])), (yt, .inl (et, 1000, .inl (f_140)))] H := by rw [ef_140]; exact hP
  have hD : va_D A [(y, .inr (7, [.int 0, .ref yo, .ref ya, .ref yv, .ref yg, .int 0, .int 0, .int 0, .int 0, .int 0, .ref yp, .int 0, .int 0, .int 0, .ref yu, .ref yk, .int 0, .int 0, .int 0, .int 2, .int 0, .int 0, .ref yq, .int 0, .ref yt, .int 19])), (yt, .inl (et, 1000, .inl (f_140)))] := by rw [ef_140]; exact hD
  refine lv_aload_n hx hb dX7_feed_104 rfl (lv_at hl 2 rfl) ?_
  refine lv_dup hx hb dX7_feed_105 rfl ?_
  refine va_get (D := (dC, dI)) (ci := 7) (v := .int 19) (C := RX7) (T := TX7) (N := 26) hx hb hts in_X7_feed_X7 hown hK hP 0 rfl rfl 25 (by decide) (hts (.fieldLink RX7 245 "WorkspaceBoxModel" "taped" "I") (by decide +kernel)) (fun _ h9 => h9) rfl dX7_feed_106 ?_
  refine lv_iconst (v := 1) hx hb dX7_feed_109 (by decide) ?_
  refine lv_iadd hx hb dX7_feed_110 ?_
  refine lv_topi (fun y_141 ey_141 => ?_)
  obtain rfl : y_141 = 20 := ey_141.trans (by decide)
  refine va_put (D := (dC, dI)) (ci := 7) (v := .int 20) (ty := .int) (C := RX7) (T := TX7) (N := 26) hx hb hts in_X7_feed_X7 tyX7 tyX7_ok nmX7 hown hK hP hD hS 0 rfl rfl 25 (by decide) (hts (.fieldLink RX7 245 "WorkspaceBoxModel" "taped" "I") (by decide +kernel)) (fun _ h9 => h9) rfl (by decide +kernel) rfl rfl (Nat.le_of_ble_eq_true rfl) dX7_feed_111 (fun H locs hP hD hS => ?_)
  have hP : va_P (dC, dI) vwCl [(y, .inr (7, [.int 0, .ref yo, .ref ya, .ref yv, .ref yg, .int 0, .int 0, .int 0, .int 0, .int 0, .ref yp, .int 0, .int 0, .int 0, .ref yu, .ref yk, .int 0, .int 0, .int 0, .int 2, .int 0, .int 0, .ref yq, .int 0, .ref yt, .int 20])), (yt, .inl (et, 1000, .inl (f_140)))] H := hP
  have hD : va_D A [(y, .inr (7, [.int 0, .ref yo, .ref ya, .ref yv, .ref yg, .int 0, .int 0, .int 0, .int 0, .int 0, .ref yp, .int 0, .int 0, .int 0, .ref yu, .ref yk, .int 0, .int 0, .int 0, .int 2, .int 0, .int 0, .ref yq, .int 0, .ref yt, .int 20])), (yt, .inl (et, 1000, .inl (f_140)))] := hD
  refine lv_iinc (v := 20) (lv' := [(6, .int 20), (7, .int p4), (0, .ref y), (1, .int p0), (2, .int p1), (3, .int p2), (4, .int p3), (5, .int p4)]) hx hb dX7_feed_114 hl (k := 1) rfl (by decide) (by decide) rfl (fun ls hl => ?_)
  refine lv_goto (tgt := 23) hx hb dX7_feed_117 (by decide) ?_
  refine lv_iload hx hb dX7_feed_23 (lv_at hl 0 rfl) ?_
  refine lv_bipush (v := 20) hx hb dX7_feed_25 (by decide) ?_
  refine lv_icmp_ge (tgt := 120) hx hb dX7_feed_27 (by decide) (fun _ => ?_) (fun h => absurd (by decide) h)
  refine lv_aload_n hx hb dX7_feed_120 rfl (lv_at hl 2 rfl) ?_
  refine va_get (D := (dC, dI)) (ci := 7) (v := .int 20) (C := RX7) (T := TX7) (N := 26) hx hb hts in_X7_feed_X7 hown hK hP 0 rfl rfl 25 (by decide) (hts (.fieldLink RX7 245 "WorkspaceBoxModel" "taped" "I") (by decide +kernel)) (fun _ h9 => h9) rfl dX7_feed_121 ?_
  have hP9 := hP.sub (ws' := []) [] rfl
  have hD9 := hD.sub (ws' := []) [] (by decide) rfl
  have hK9 := hK.sub (tys' := []) [] rfl
  exact W.iret (v := 20) hx hb hr (fun t ht hW => ⟨⟨20, (), rfl, rfl, by rw [ht]; exact hP9, va_K.moved hW.alike hK9, hD9⟩, hS.F ht⟩) hS.2.2 dX7_feed_124

