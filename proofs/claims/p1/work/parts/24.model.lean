theorem in_X7_out_X7 : ∀ w ∈ wsX70, w ∈ wsX7_out := by decide +kernel
set_option maxHeartbeats 1000000 in
set_option maxRecDepth 100000 in
theorem m_out (l : Launch) (dC : Nat → ClassId) (dI : Nat → Nat → Nat) (y yo ya yv yg yp yu yk yq yt : Nat) (eo ea ev eg ep eu ek eq et : ClassId) (p0 : Int32) (sz : Nat)  : Met l yX7_out wsX7_out ({ frames := 1, cells := 0, slots := 0, locals := 22 }) (va_Pc [.ref y, .int p0] (fun U => U.heap.size = sz ∧ va_P (dC, dI) vwCl [(y, .inr (7, [.int 0, .ref yo, .ref ya, .ref yv, .ref yg, .int 0, .int 0, .int 0, .int 0, .int 0, .ref yp, .int 0, .int 0, .int 0, .ref yu, .ref yk, .int 0, .int 0, .int 0, .int 2, .int 0, .int 0, .ref yq, .int 0, .ref yt, .int 0])), (yu, .inl (eu, 4096, .inl (fun _ => 0)))] U.heap ∧ va_K (dC, dI) vwCl [(eu, .boolean)] U ∧ va_D (fun _ => True) [(y, .inr (7, [.int 0, .ref yo, .ref ya, .ref yv, .ref yg, .int 0, .int 0, .int 0, .int 0, .int 0, .ref yp, .int 0, .int 0, .int 0, .ref yu, .ref yk, .int 0, .int 0, .int 0, .int 2, .int 0, .int 0, .ref yq, .int 0, .ref yt, .int 0])), (yu, .inl (eu, 4096, .inl (fun _ => 0)))])) (va_Qi (fun (r : Int32) (_ : Unit) => r = sp_out p0) (fun (u : Unit) (t : State) => va_P (dC, dI) vwCl [] t.heap ∧ va_K (dC, dI) vwCl [] t ∧ va_D (va_A [(y, .inr (7, [.int 0, .ref yo, .ref ya, .ref yv, .ref yg, .int 0, .int 0, .int 0, .int 0, .int 0, .ref yp, .int 0, .int 0, .int 0, .ref yu, .ref yk, .int 0, .int 0, .int 0, .int 2, .int 0, .int 0, .ref yq, .int 0, .ref yt, .int 0])), (yu, .inl (eu, 4096, .inl (fun _ => 0)))] sz) []) (va_A [(y, .inr (7, [.int 0, .ref yo, .ref ya, .ref yv, .ref yg, .int 0, .int 0, .int 0, .int 0, .int 0, .ref yp, .int 0, .int 0, .int 0, .ref yu, .ref yk, .int 0, .int 0, .int 0, .int 2, .int 0, .int 0, .ref yq, .int 0, .ref yt, .int 0])), (yu, .inl (eu, 4096, .inl (fun _ => 0)))] sz)) 0 0 (va_A [(y, .inr (7, [.int 0, .ref yo, .ref ya, .ref yv, .ref yg, .int 0, .int 0, .int 0, .int 0, .int 0, .ref yp, .int 0, .int 0, .int 0, .ref yu, .ref yk, .int 0, .int 0, .int 0, .int 2, .int 0, .int 0, .ref yq, .int 0, .ref yt, .int 0])), (yu, .inl (eu, 4096, .inl (fun _ => 0)))] sz) := by
  refine Met.ofW (cc := cX7_out) (maxL := 2) (ret := (some .int)) (by decide) rfl ?_
  intro p e s m args below meth c s₁ B hml hv
  obtain ⟨rfl, hsz, hP, hK, hD0⟩ := hv
  have hx := B.exec
  have hb := B.bytes
  have hr := B.returns
  have hts := atoms_spec (ws := wsX7_out) B.pre
  have hown : s.vm.findClass RX7 = some m.cls := findClass_of_methodNamed B.named
  have hlocks := B.notSynchronized
  subst hsz
  have hD := hD0.self (sz := s.heap.size)
  generalize hAe : va_A [(y, .inr (7, [.int 0, .ref yo, .ref ya, .ref yv, .ref yg, .int 0, .int 0, .int 0, .int 0, .int 0, .ref yp, .int 0, .int 0, .int 0, .ref yu, .ref yk, .int 0, .int 0, .int 0, .int 2, .int 0, .int 0, .ref yq, .int 0, .ref yt, .int 0])), (yu, .inl (eu, 4096, .inl (fun _ => 0)))] s.heap.size = A at hD ⊢
  have hA : ∀ q : Nat, s.heap.size ≤ q → A q := fun q h => by rw [← hAe]; exact Or.inr h
  have hS : va_S A s.heap s.heap [] := va_S.rf
  have hP : va_P (dC, dI) vwCl [(y, .inr (7, [.int 0, .ref yo, .ref ya, .ref yv, .ref yg, .int 0, .int 0, .int 0, .int 0, .int 0, .ref yp, .int 0, .int 0, .int 0, .ref yu, .ref yk, .int 0, .int 0, .int 0, .int 2, .int 0, .int 0, .ref yq, .int 0, .ref yt, .int 0])), (yu, .inl (eu, 4096, .inl (fun _ => 0)))] s.heap := hP
  have hl := lv_entry ([.ref y, .int p0]) (n := 2) (Nat.le_of_ble_eq_true rfl)
  rw [lg_entry_eq]
  generalize (lg_sl ([.ref y, .int p0]) ++ List.replicate (2 - (lg_sl ([.ref y, .int p0])).length) Slot.unset).toArray = ls at hl ⊢
  have hl : lv_has ls 2 [(0, .ref y), (1, .int p0)] := hl
  refine lv_aload_n hx hb dX7_out_0 rfl (lv_at hl 0 rfl) ?_
  refine lv_iconst (v := 0) hx hb dX7_out_1 (by decide) ?_
  refine va_put (D := (dC, dI)) (ci := 7) (v := .int 0) (ty := .int) (C := RX7) (T := TX7) (N := 26) hx hb hts in_X7_out_X7 tyX7 tyX7_ok nmX7 hown hK hP hD hS 0 rfl rfl 0 (by decide) (hts (.fieldLink RX7 44 "WorkspaceBoxModel" "thrown" "I") (by decide +kernel)) (fun _ h9 => h9) rfl (by decide +kernel) rfl rfl (Nat.le_of_ble_eq_true rfl) dX7_out_2 (fun H locs hP hD hS => ?_)
  have hP : va_P (dC, dI) vwCl [(y, .inr (7, [.int 0, .ref yo, .ref ya, .ref yv, .ref yg, .int 0, .int 0, .int 0, .int 0, .int 0, .ref yp, .int 0, .int 0, .int 0, .ref yu, .ref yk, .int 0, .int 0, .int 0, .int 2, .int 0, .int 0, .ref yq, .int 0, .ref yt, .int 0])), (yu, .inl (eu, 4096, .inl (fun _ => 0)))] H := hP
  have hD : va_D A [(y, .inr (7, [.int 0, .ref yo, .ref ya, .ref yv, .ref yg, .int 0, .int 0, .int 0, .int 0, .int 0, .ref yp, .int 0, .int 0, .int 0, .ref yu, .ref yk, .int 0, .int 0, .int 0, .int 2, .int 0, .int 0, .ref yq, .int 0, .ref yt, .int 0])), (yu, .inl (eu, 4096, .inl (fun _ => 0)))] := hD
  refine lv_iload_n hx hb dX7_out_5 rfl (lv_at hl 1 rfl) ?_
  refine lv_iconst (v := 0) hx hb dX7_out_6 (by decide) ?_
  refine lv_sipush (v := 4095) hx hb dX7_out_7 (by decide) ?_
  have hPc := hP.sub (ws' := []) [] rfl
  have hDc := hD.sub (ws' := []) [] (by decide) rfl
  have hKc := hK.sub (tys' := []) [] rfl
  have hFc := va_free (wc := []) hD hS hA [] rfl
  refine va_calli (va_runS (As := [.int p0, .int 0, .int 4095]) (rest := []) ⟨hx, hb, hml, hown, hts⟩ (m_in l dC dI y yo ya yv yg yp yu yk yq yt eo ea ev eg ep eu ek eq et p0 0 4095 H.size) (va_cwS 3 hts gX7_out_X7_in rfl rfl rfl (by decide +kernel) ⟨Nat.le_of_ble_eq_true rfl, Nat.le_of_ble_eq_true rfl⟩) ⟨fun a U g mk q => by obtain ⟨q0, q1, qP, qK, qD⟩ := q; exact ⟨q0, q1, qP, va_K.moved (u := U) (U := U.calling g mk a) (Vm.Alike.refl U.vm) qK, qD⟩, fun U hU hW => ⟨rfl, by rw [hU], by rw [hU]; exact hPc, va_K.moved hW.alike hKc, hDc.weaken (fun _ _ _ _ => trivial)⟩⟩ rfl rfl hl.1 rfl (lv_room (Nat.le_of_ble_eq_true rfl)) dX7_out_10 ⟨Nat.le_of_ble_eq_true rfl, Nat.le_of_ble_eq_true rfl⟩) hS (fun q _ h => hFc q h) hFc (fun r_1 u t H1 locs ht hvm hw hB hz1 hk1 hS => ?_)
  obtain ⟨hP1, hK1, hD1⟩ := hB
  rw [ht] at hP1
  have hK1 := va_K.moved hvm.symm hK1
  try dsimp only at hw
  obtain ⟨hP, hD⟩ := va_join (wr := [(y, .inr (7, [.int 0, .ref yo, .ref ya, .ref yv, .ref yg, .int 0, .int 0, .int 0, .int 0, .int 0, .ref yp, .int 0, .int 0, .int 0, .ref yu, .ref yk, .int 0, .int 0, .int 0, .int 2, .int 0, .int 0, .ref yq, .int 0, .ref yt, .int 0])), (yu, .inl (eu, 4096, .inl (fun _ => 0)))]) (w1 := []) hP hD [] [0, 1] rfl rfl (by decide) (by decide) hk1 hFc hP1 hD1
  have hK := (hK.sub (tys' := [(eu, .boolean)]) [0] rfl).app hK1
  generalize H1 = H at hP hS ⊢
  have hP : va_P (dC, dI) vwCl [(y, .inr (7, [.int 0, .ref yo, .ref ya, .ref yv, .ref yg, .int 0, .int 0, .int 0, .int 0, .int 0, .ref yp, .int 0, .int 0, .int 0, .ref yu, .ref yk, .int 0, .int 0, .int 0, .int 2, .int 0, .int 0, .ref yq, .int 0, .ref yt, .int 0])), (yu, .inl (eu, 4096, .inl (fun _ => 0)))] H := hP
  have hD : va_D A [(y, .inr (7, [.int 0, .ref yo, .ref ya, .ref yv, .ref yg, .int 0, .int 0, .int 0, .int 0, .int 0, .ref yp, .int 0, .int 0, .int 0, .ref yu, .ref yk, .int 0, .int 0, .int 0, .int 2, .int 0, .int 0, .ref yq, .int 0, .ref yt, .int 0])), (yu, .inl (eu, 4096, .inl (fun _ => 0)))] := hD
  have hK : va_K (dC, dI) vwCl [(eu, .boolean)] s := hK
  have hw_2 := hw
  rcases hw_2 with ⟨rfl, h8, h9⟩ | ⟨rfl, h8⟩
  · refine lv_if_eq (tgt := 33) hx hb dX7_out_13 (by decide) (fun h => absurd h (by decide)) (fun _ => ?_)
    refine lv_aload_n hx hb dX7_out_16 rfl (lv_at hl 0 rfl) ?_
    refine va_get (D := (dC, dI)) (ci := 7) (v := .ref yu) (C := RX7) (T := TX7) (N := 26) hx hb hts in_X7_out_X7 hown hK hP 0 rfl rfl 14 (by decide) (hts (.fieldLink RX7 27 "WorkspaceBoxModel" "outs" "[Z") (by decide +kernel)) (fun _ h9 => h9) rfl dX7_out_17 ?_
    refine lv_iload_n hx hb dX7_out_20 rfl (lv_at hl 1 rfl) ?_
    refine va_zald hx hb hK hP 1 0 rfl rfl (vp_in_iff.mpr (by (try simp only [fa_lt, fa_le, fa_eq, tI_m1, tI_0, tI_1, tI_2, tI_3, tI_4, tI_5, tI_7, tI_8, tI_10, tI_15, tI_16, tI_20, tI_31, tI_125, tI_191, tI_255, tI_256, tI_980, tI_1000, tI_4095, tI_4096, tI_8191, tI_8192, tI_16383, tI_16384, tI_32767, tI_32768, tI_33791, tI_33792, tI_40959, tI_40960, tI_65535, tI_65536] at hw_2); (try simp only [fa_lt, fa_le, fa_eq, tI_m1, tI_0, tI_1, tI_2, tI_3, tI_4, tI_5, tI_7, tI_8, tI_10, tI_15, tI_16, tI_20, tI_31, tI_125, tI_191, tI_255, tI_256, tI_980, tI_1000, tI_4095, tI_4096, tI_8191, tI_8192, tI_16383, tI_16384, tI_32767, tI_32768, tI_33791, tI_33792, tI_40959, tI_40960, tI_65535, tI_65536] at h8); (try simp only [fa_lt, fa_le, fa_eq, tI_m1, tI_0, tI_1, tI_2, tI_3, tI_4, tI_5, tI_7, tI_8, tI_10, tI_15, tI_16, tI_20, tI_31, tI_125, tI_191, tI_255, tI_256, tI_980, tI_1000, tI_4095, tI_4096, tI_8191, tI_8192, tI_16383, tI_16384, tI_32767, tI_32768, tI_33791, tI_33792, tI_40959, tI_40960, tI_65535, tI_65536] at h9); (try simp only [fa_lt, fa_le, fa_eq, tI_m1, tI_0, tI_1, tI_2, tI_3, tI_4, tI_5, tI_7, tI_8, tI_10, tI_15, tI_16, tI_20, tI_31, tI_125, tI_191, tI_255, tI_256, tI_980, tI_1000, tI_4095, tI_4096, tI_8191, tI_8192, tI_16383, tI_16384, tI_32767, tI_32768, tI_33791, tI_33792, tI_40959, tI_40960, tI_65535, tI_65536]); omega)) dX7_out_21 ?_
    refine lv_topi (fun y_3 ey_3 => ?_)
    obtain rfl : y_3 = 0 := ey_3
    refine lv_if_eq (tgt := 29) hx hb dX7_out_22 (by decide) (fun _ => ?_) (fun h => absurd (by decide) h)
    refine lv_iconst (v := 0) hx hb dX7_out_29 (by decide) ?_
    refine lv_goto (tgt := 34) hx hb dX7_out_30 (by decide) ?_
    have hP9 := hP.sub (ws' := []) [] rfl
    have hD9 := hD.sub (ws' := []) [] (by decide) rfl
    have hK9 := hK.sub (tys' := []) [] rfl
    exact W.iret (v := 0) hx hb hr (fun t ht hW => ⟨⟨0, (), rfl, by (first | decide | ((try subst_vars); (try dsimp only); (try simp only [fa_lt, fa_le, fa_eq, tI_m1, tI_0, tI_1, tI_2, tI_3, tI_4, tI_5, tI_7, tI_8, tI_10, tI_15, tI_16, tI_20, tI_31, tI_125, tI_191, tI_255, tI_256, tI_980, tI_1000, tI_4095, tI_4096, tI_8191, tI_8192, tI_16383, tI_16384, tI_32767, tI_32768, tI_33791, tI_33792, tI_40959, tI_40960, tI_65535, tI_65536] at hw_2); (try simp only [fa_lt, fa_le, fa_eq, tI_m1, tI_0, tI_1, tI_2, tI_3, tI_4, tI_5, tI_7, tI_8, tI_10, tI_15, tI_16, tI_20, tI_31, tI_125, tI_191, tI_255, tI_256, tI_980, tI_1000, tI_4095, tI_4096, tI_8191, tI_8192, tI_16383, tI_16384, tI_32767, tI_32768, tI_33791, tI_33792, tI_40959, tI_40960, tI_65535, tI_65536] at h8); (try simp only [fa_lt, fa_le, fa_eq, tI_m1, tI_0, tI_1, tI_2, tI_3, tI_4, tI_5, tI_7, tI_8, tI_10, tI_15, tI_16, tI_20, tI_31, tI_125, tI_191, tI_255, tI_256, tI_980, tI_1000, tI_4095, tI_4096, tI_8191, tI_8192, tI_16383, tI_16384, tI_32767, tI_32768, tI_33791, tI_33792, tI_40959, tI_40960, tI_65535, tI_65536] at h9); (have k0 := tI_0); (have k1 := tI_1); (have k2 := tI_2); (have k3 := tI_3); unfold sp_out; (repeat' split) <;> first | rfl | omega | (simp only [fa_lt, fa_le, fa_eq, tI_m1, tI_0, tI_1, tI_2, tI_3, tI_4, tI_5, tI_7, tI_8, tI_10, tI_15, tI_16, tI_20, tI_31, tI_125, tI_191, tI_255, tI_256, tI_980, tI_1000, tI_4095, tI_4096, tI_8191, tI_8192, tI_16383, tI_16384, tI_32767, tI_32768, tI_33791, tI_33792, tI_40959, tI_40960, tI_65535, tI_65536]; omega))), by rw [ht]; exact hP9, va_K.moved hW.alike hK9, hD9⟩, hS.F ht⟩) hS.2.2 dX7_out_34
  · refine lv_if_eq (tgt := 33) hx hb dX7_out_13 (by decide) (fun _ => ?_) (fun h => absurd (by decide) h)
    refine lv_iconst (v := (-1)) hx hb dX7_out_33 (by decide) ?_
    have hP9 := hP.sub (ws' := []) [] rfl
    have hD9 := hD.sub (ws' := []) [] (by decide) rfl
    have hK9 := hK.sub (tys' := []) [] rfl
    exact W.iret (v := (-1)) hx hb hr (fun t ht hW => ⟨⟨(-1), (), rfl, by (first | decide | ((try subst_vars); (try dsimp only); (try simp only [fa_lt, fa_le, fa_eq, tI_m1, tI_0, tI_1, tI_2, tI_3, tI_4, tI_5, tI_7, tI_8, tI_10, tI_15, tI_16, tI_20, tI_31, tI_125, tI_191, tI_255, tI_256, tI_980, tI_1000, tI_4095, tI_4096, tI_8191, tI_8192, tI_16383, tI_16384, tI_32767, tI_32768, tI_33791, tI_33792, tI_40959, tI_40960, tI_65535, tI_65536] at hw_2); (try simp only [fa_lt, fa_le, fa_eq, tI_m1, tI_0, tI_1, tI_2, tI_3, tI_4, tI_5, tI_7, tI_8, tI_10, tI_15, tI_16, tI_20, tI_31, tI_125, tI_191, tI_255, tI_256, tI_980, tI_1000, tI_4095, tI_4096, tI_8191, tI_8192, tI_16383, tI_16384, tI_32767, tI_32768, tI_33791, tI_33792, tI_40959, tI_40960, tI_65535, tI_65536] at h8); (have k0 := tI_0); (have k1 := tI_1); (have k2 := tI_2); (have k3 := tI_3); unfold sp_out; (repeat' split) <;> first | rfl | omega | (simp only [fa_lt, fa_le, fa_eq, tI_m1, tI_0, tI_1, tI_2, tI_3, tI_4, tI_5, tI_7, tI_8, tI_10, tI_15, tI_16, tI_20, tI_31, tI_125, tI_191, tI_255, tI_256, tI_980, tI_1000, tI_4095, tI_4096, tI_8191, tI_8192, tI_16383, tI_16384, tI_32767, tI_32768, tI_33791, tI_33792, tI_40959, tI_40960, tI_65535, tI_65536]; omega))), by rw [ht]; exact hP9, va_K.moved hW.alike hK9, hD9⟩, hS.F ht⟩) hS.2.2 dX7_out_34

theorem in_X7_inOf_X7 : ∀ w ∈ wsX70, w ∈ wsX7_inOf := by decide +kernel
set_option maxHeartbeats 1000000 in
set_option maxRecDepth 100000 in
theorem m_inOf (l : Launch) (dC : Nat → ClassId) (dI : Nat → Nat → Nat) (y yo ya yv yg yp yu yk yq yt : Nat) (eo ea ev eg ep eu ek eq et : ClassId) (p0 : Int32) (sz : Nat) (ha : ¬ p0 < 0) (hc : ¬ 4095 < p0) : Met l yX7_inOf wsX7_inOf ({ frames := 1, cells := 0, slots := 0, locals := 22 }) (va_Pc [.ref y, .int p0] (fun U => U.heap.size = sz ∧ va_P (dC, dI) vwCl [(y, .inr (7, [.int 0, .ref yo, .ref ya, .ref yv, .ref yg, .int 0, .int 0, .int 0, .int 0, .int 0, .ref yp, .int 0, .int 0, .int 0, .ref yu, .ref yk, .int 0, .int 0, .int 0, .int 2, .int 0, .int 0, .ref yq, .int 0, .ref yt, .int 0])), (yu, .inl (eu, 4096, .inl (fun _ => 0))), (yk, .inl (ek, 64, .inl (fun _ => 0)))] U.heap ∧ va_K (dC, dI) vwCl [(eu, .boolean), (ek, .boolean)] U ∧ va_D (fun _ => True) [(y, .inr (7, [.int 0, .ref yo, .ref ya, .ref yv, .ref yg, .int 0, .int 0, .int 0, .int 0, .int 0, .ref yp, .int 0, .int 0, .int 0, .ref yu, .ref yk, .int 0, .int 0, .int 0, .int 2, .int 0, .int 0, .ref yq, .int 0, .ref yt, .int 0])), (yu, .inl (eu, 4096, .inl (fun _ => 0))), (yk, .inl (ek, 64, .inl (fun _ => 0)))])) (va_Qi (fun (r : Int32) (_ : Unit) => r = sp_coming p0) (fun (u : Unit) (t : State) => va_P (dC, dI) vwCl [] t.heap ∧ va_K (dC, dI) vwCl [] t ∧ va_D (va_A [(y, .inr (7, [.int 0, .ref yo, .ref ya, .ref yv, .ref yg, .int 0, .int 0, .int 0, .int 0, .int 0, .ref yp, .int 0, .int 0, .int 0, .ref yu, .ref yk, .int 0, .int 0, .int 0, .int 2, .int 0, .int 0, .ref yq, .int 0, .ref yt, .int 0])), (yu, .inl (eu, 4096, .inl (fun _ => 0))), (yk, .inl (ek, 64, .inl (fun _ => 0)))] sz) []) (va_A [(y, .inr (7, [.int 0, .ref yo, .ref ya, .ref yv, .ref yg, .int 0, .int 0, .int 0, .int 0, .int 0, .ref yp, .int 0, .int 0, .int 0, .ref yu, .ref yk, .int 0, .int 0, .int 0, .int 2, .int 0, .int 0, .ref yq, .int 0, .ref yt, .int 0])), (yu, .inl (eu, 4096, .inl (fun _ => 0))), (yk, .inl (ek, 64, .inl (fun _ => 0)))] sz)) 0 0 (va_A [(y, .inr (7, [.int 0, .ref yo, .ref ya, .ref yv, .ref yg, .int 0, .int 0, .int 0, .int 0, .int 0, .ref yp, .int 0, .int 0, .int 0, .ref yu, .ref yk, .int 0, .int 0, .int 0, .int 2, .int 0, .int 0, .ref yq, .int 0, .ref yt, .int 0])), (yu, .inl (eu, 4096, .inl (fun _ => 0))), (yk, .inl (ek, 64, .inl (fun _ => 0)))] sz) := by
  refine Met.ofW (cc := cX7_inOf) (maxL := 3) (ret := (some .int)) (by decide) rfl ?_
  intro p e s m args below meth c s₁ B hml hv
  obtain ⟨rfl, hsz, hP, hK, hD0⟩ := hv
  have hx := B.exec
  have hb := B.bytes
  have hr := B.returns
  have hts := atoms_spec (ws := wsX7_inOf) B.pre
  have hown : s.vm.findClass RX7 = some m.cls := findClass_of_methodNamed B.named
  have hlocks := B.notSynchronized
  subst hsz
  have hD := hD0.self (sz := s.heap.size)
  generalize hAe : va_A [(y, .inr (7, [.int 0, .ref yo, .ref ya, .ref yv, .ref yg, .int 0, .int 0, .int 0, .int 0, .int 0, .ref yp, .int 0, .int 0, .int 0, .ref yu, .ref yk, .int 0, .int 0, .int 0, .int 2, .int 0, .int 0, .ref yq, .int 0, .ref yt, .int 0])), (yu, .inl (eu, 4096, .inl (fun _ => 0))), (yk, .inl (ek, 64, .inl (fun _ => 0)))] s.heap.size = A at hD ⊢
  have hA : ∀ q : Nat, s.heap.size ≤ q → A q := fun q h => by rw [← hAe]; exact Or.inr h
  have hS : va_S A s.heap s.heap [] := va_S.rf
  have hP : va_P (dC, dI) vwCl [(y, .inr (7, [.int 0, .ref yo, .ref ya, .ref yv, .ref yg, .int 0, .int 0, .int 0, .int 0, .int 0, .ref yp, .int 0, .int 0, .int 0, .ref yu, .ref yk, .int 0, .int 0, .int 0, .int 2, .int 0, .int 0, .ref yq, .int 0, .ref yt, .int 0])), (yu, .inl (eu, 4096, .inl (fun _ => 0))), (yk, .inl (ek, 64, .inl (fun _ => 0)))] s.heap := hP
  have hl := lv_entry ([.ref y, .int p0]) (n := 3) (Nat.le_of_ble_eq_true rfl)
  rw [lg_entry_eq]
  generalize (lg_sl ([.ref y, .int p0]) ++ List.replicate (3 - (lg_sl ([.ref y, .int p0])).length) Slot.unset).toArray = ls at hl ⊢
  have hl : lv_has ls 3 [(0, .ref y), (1, .int p0)] := hl
  refine lv_iload_n hx hb dX7_inOf_0 rfl (lv_at hl 1 rfl) ?_
  refine lv_iconst (v := 2) hx hb dX7_inOf_1 (by decide) ?_
  refine lv_icmp_ne (tgt := 18) hx hb dX7_inOf_2 (by decide) (fun c2_1 => ?_) (fun c2_1 => ?_)
  · refine lv_iload_n hx hb dX7_inOf_18 rfl (lv_at hl 1 rfl) ?_
    refine lv_iconst (v := 3) hx hb dX7_inOf_19 (by decide) ?_
    refine lv_bipush (v := 10) hx hb dX7_inOf_20 (by decide) ?_
    have hPc := hP.sub (ws' := []) [] rfl
    have hDc := hD.sub (ws' := []) [] (by decide) rfl
    have hKc := hK.sub (tys' := []) [] rfl
    have hFc := va_free (wc := []) hD hS hA [] rfl
    refine va_calli (va_runS (As := [.int p0, .int 3, .int 10]) (rest := []) ⟨hx, hb, hml, hown, hts⟩ (m_in l dC dI y yo ya yv yg yp yu yk yq yt eo ea ev eg ep eu ek eq et p0 3 10 s.heap.size) (va_cwS 3 hts gX7_inOf_X7_in rfl rfl rfl (by decide +kernel) ⟨Nat.le_of_ble_eq_true rfl, Nat.le_of_ble_eq_true rfl⟩) ⟨fun a U g mk q => by obtain ⟨q0, q1, qP, qK, qD⟩ := q; exact ⟨q0, q1, qP, va_K.moved (u := U) (U := U.calling g mk a) (Vm.Alike.refl U.vm) qK, qD⟩, fun U hU hW => ⟨rfl, by rw [hU], by rw [hU]; exact hPc, va_K.moved hW.alike hKc, hDc.weaken (fun _ _ _ _ => trivial)⟩⟩ rfl rfl hl.1 rfl (lv_room (Nat.le_of_ble_eq_true rfl)) dX7_inOf_22 ⟨Nat.le_of_ble_eq_true rfl, Nat.le_of_ble_eq_true rfl⟩) hS (fun q _ h => hFc q h) hFc (fun r_2 u t H1 locs ht hvm hw hB hz1 hk1 hS => ?_)
    obtain ⟨hP1, hK1, hD1⟩ := hB
    rw [ht] at hP1
    have hK1 := va_K.moved hvm.symm hK1
    try dsimp only at hw
    obtain ⟨hP, hD⟩ := va_join (wr := [(y, .inr (7, [.int 0, .ref yo, .ref ya, .ref yv, .ref yg, .int 0, .int 0, .int 0, .int 0, .int 0, .ref yp, .int 0, .int 0, .int 0, .ref yu, .ref yk, .int 0, .int 0, .int 0, .int 2, .int 0, .int 0, .ref yq, .int 0, .ref yt, .int 0])), (yu, .inl (eu, 4096, .inl (fun _ => 0))), (yk, .inl (ek, 64, .inl (fun _ => 0)))]) (w1 := []) hP hD [] [0, 1, 2] rfl rfl (by decide) (by decide) hk1 hFc hP1 hD1
    have hK := (hK.sub (tys' := [(eu, .boolean), (ek, .boolean)]) [0, 1] rfl).app hK1
    generalize H1 = H at hP hS ⊢
    have hP : va_P (dC, dI) vwCl [(y, .inr (7, [.int 0, .ref yo, .ref ya, .ref yv, .ref yg, .int 0, .int 0, .int 0, .int 0, .int 0, .ref yp, .int 0, .int 0, .int 0, .ref yu, .ref yk, .int 0, .int 0, .int 0, .int 2, .int 0, .int 0, .ref yq, .int 0, .ref yt, .int 0])), (yu, .inl (eu, 4096, .inl (fun _ => 0))), (yk, .inl (ek, 64, .inl (fun _ => 0)))] H := hP
    have hD : va_D A [(y, .inr (7, [.int 0, .ref yo, .ref ya, .ref yv, .ref yg, .int 0, .int 0, .int 0, .int 0, .int 0, .ref yp, .int 0, .int 0, .int 0, .ref yu, .ref yk, .int 0, .int 0, .int 0, .int 2, .int 0, .int 0, .ref yq, .int 0, .ref yt, .int 0])), (yu, .inl (eu, 4096, .inl (fun _ => 0))), (yk, .inl (ek, 64, .inl (fun _ => 0)))] := hD
    have hK : va_K (dC, dI) vwCl [(eu, .boolean), (ek, .boolean)] s := hK
    have hw_3 := hw
    rcases hw_3 with ⟨rfl, h8, h9⟩ | ⟨rfl, h8⟩
    · refine lv_if_eq (tgt := 98) hx hb dX7_inOf_25 (by decide) (fun h => absurd h (by decide)) (fun _ => ?_)
      refine lv_aload_n hx hb dX7_inOf_28 rfl (lv_at hl 0 rfl) ?_
      refine va_get (D := (dC, dI)) (ci := 7) (v := .ref yu) (C := RX7) (T := TX7) (N := 26) hx hb hts in_X7_inOf_X7 hown hK hP 0 rfl rfl 14 (by decide) (hts (.fieldLink RX7 27 "WorkspaceBoxModel" "outs" "[Z") (by decide +kernel)) (fun _ h9 => h9) rfl dX7_inOf_29 ?_
      refine lv_bipush (v := 18) hx hb dX7_inOf_32 (by decide) ?_
      refine va_zald hx hb hK hP 1 0 rfl rfl (by unfold vp_in; decide) dX7_inOf_34 ?_
      refine lv_topi (fun y_4 ey_4 => ?_)
      obtain rfl : y_4 = 0 := ey_4
      refine lv_if_eq (tgt := 42) hx hb dX7_inOf_35 (by decide) (fun _ => ?_) (fun h => absurd (by decide) h)
      refine lv_iconst (v := 0) hx hb dX7_inOf_42 (by decide) ?_
      refine lv_aload_n hx hb dX7_inOf_43 rfl (lv_at hl 0 rfl) ?_
      refine va_get (D := (dC, dI)) (ci := 7) (v := .ref yu) (C := RX7) (T := TX7) (N := 26) hx hb hts in_X7_inOf_X7 hown hK hP 0 rfl rfl 14 (by decide) (hts (.fieldLink RX7 27 "WorkspaceBoxModel" "outs" "[Z") (by decide +kernel)) (fun _ h9 => h9) rfl dX7_inOf_44 ?_
      refine lv_bipush (v := 19) hx hb dX7_inOf_47 (by decide) ?_
      refine va_zald hx hb hK hP 1 0 rfl rfl (by unfold vp_in; decide) dX7_inOf_49 ?_
      refine lv_topi (fun y_5 ey_5 => ?_)
      obtain rfl : y_5 = 0 := ey_5
      refine lv_if_eq (tgt := 57) hx hb dX7_inOf_50 (by decide) (fun _ => ?_) (fun h => absurd (by decide) h)
      refine lv_iconst (v := 0) hx hb dX7_inOf_57 (by decide) ?_
      refine lv_iadd hx hb dX7_inOf_58 ?_
      refine lv_topi (fun y_6 ey_6 => ?_)
      obtain rfl : y_6 = 0 := ey_6.trans (by decide)
      refine lv_aload_n hx hb dX7_inOf_59 rfl (lv_at hl 0 rfl) ?_
      refine va_get (D := (dC, dI)) (ci := 7) (v := .ref yu) (C := RX7) (T := TX7) (N := 26) hx hb hts in_X7_inOf_X7 hown hK hP 0 rfl rfl 14 (by decide) (hts (.fieldLink RX7 27 "WorkspaceBoxModel" "outs" "[Z") (by decide +kernel)) (fun _ h9 => h9) rfl dX7_inOf_60 ?_
      refine lv_bipush (v := 20) hx hb dX7_inOf_63 (by decide) ?_
      refine va_zald hx hb hK hP 1 0 rfl rfl (by unfold vp_in; decide) dX7_inOf_65 ?_
      refine lv_topi (fun y_7 ey_7 => ?_)
      obtain rfl : y_7 = 0 := ey_7
      refine lv_if_eq (tgt := 73) hx hb dX7_inOf_66 (by decide) (fun _ => ?_) (fun h => absurd (by decide) h)
      refine lv_iconst (v := 0) hx hb dX7_inOf_73 (by decide) ?_
      refine lv_iadd hx hb dX7_inOf_74 ?_
      refine lv_topi (fun y_8 ey_8 => ?_)
      obtain rfl : y_8 = 0 := ey_8.trans (by decide)
      refine lv_istore_n (lv' := [(2, .int 0), (0, .ref y), (1, .int p0)]) hx hb dX7_inOf_75 rfl hl (by decide) rfl (fun ls hl => ?_)
      refine lv_aload_n hx hb dX7_inOf_76 rfl (lv_at hl 1 rfl) ?_
      refine va_get (D := (dC, dI)) (ci := 7) (v := .ref yk) (C := RX7) (T := TX7) (N := 26) hx hb hts in_X7_inOf_X7 hown hK hP 0 rfl rfl 15 (by decide) (hts (.fieldLink RX7 31 "WorkspaceBoxModel" "keys" "[Z") (by decide +kernel)) (fun _ h9 => h9) rfl dX7_inOf_77 ?_
      refine lv_bipush (v := 8) hx hb dX7_inOf_80 (by decide) ?_
      refine lv_iload_n hx hb dX7_inOf_82 rfl (lv_at hl 0 rfl) ?_
      refine lv_imul hx hb dX7_inOf_83 ?_
      refine lv_topi (fun y_9 ey_9 => ?_)
      obtain rfl : y_9 = 0 := ey_9.trans (by decide)
      refine lv_iload_n hx hb dX7_inOf_84 rfl (lv_at hl 2 rfl) ?_
      refine lv_iadd hx hb dX7_inOf_85 ?_
      refine lv_topi (fun y_10 ey_10 => ?_)
      refine lv_iconst (v := 3) hx hb dX7_inOf_86 (by decide) ?_
      refine lv_isub hx hb dX7_inOf_87 ?_
      refine lv_topi (fun y_11 ey_11 => ?_)
      refine va_zald hx hb hK hP 2 1 rfl rfl (by subst_vars; exact in_key3 h8 h9) dX7_inOf_88 ?_
      refine lv_topi (fun y_12 ey_12 => ?_)
      obtain rfl : y_12 = 0 := ey_12
      refine lv_if_eq (tgt := 96) hx hb dX7_inOf_89 (by decide) (fun _ => ?_) (fun h => absurd (by decide) h)
      refine lv_iconst (v := 1) hx hb dX7_inOf_96 (by decide) ?_
      have hP9 := hP.sub (ws' := []) [] rfl
      have hD9 := hD.sub (ws' := []) [] (by decide) rfl
      have hK9 := hK.sub (tys' := []) [] rfl
      exact W.iret (v := 1) hx hb hr (fun t ht hW => ⟨⟨1, (), rfl, by (first | decide | ((try subst_vars); (try dsimp only); (try simp only [fa_lt, fa_le, fa_eq, tI_m1, tI_0, tI_1, tI_2, tI_3, tI_4, tI_5, tI_7, tI_8, tI_10, tI_15, tI_16, tI_20, tI_31, tI_125, tI_191, tI_255, tI_256, tI_980, tI_1000, tI_4095, tI_4096, tI_8191, tI_8192, tI_16383, tI_16384, tI_32767, tI_32768, tI_33791, tI_33792, tI_40959, tI_40960, tI_65535, tI_65536] at ha); (try simp only [fa_lt, fa_le, fa_eq, tI_m1, tI_0, tI_1, tI_2, tI_3, tI_4, tI_5, tI_7, tI_8, tI_10, tI_15, tI_16, tI_20, tI_31, tI_125, tI_191, tI_255, tI_256, tI_980, tI_1000, tI_4095, tI_4096, tI_8191, tI_8192, tI_16383, tI_16384, tI_32767, tI_32768, tI_33791, tI_33792, tI_40959, tI_40960, tI_65535, tI_65536] at hc); (try simp only [fa_lt, fa_le, fa_eq, tI_m1, tI_0, tI_1, tI_2, tI_3, tI_4, tI_5, tI_7, tI_8, tI_10, tI_15, tI_16, tI_20, tI_31, tI_125, tI_191, tI_255, tI_256, tI_980, tI_1000, tI_4095, tI_4096, tI_8191, tI_8192, tI_16383, tI_16384, tI_32767, tI_32768, tI_33791, tI_33792, tI_40959, tI_40960, tI_65535, tI_65536] at c2_1); (try simp only [fa_lt, fa_le, fa_eq, tI_m1, tI_0, tI_1, tI_2, tI_3, tI_4, tI_5, tI_7, tI_8, tI_10, tI_15, tI_16, tI_20, tI_31, tI_125, tI_191, tI_255, tI_256, tI_980, tI_1000, tI_4095, tI_4096, tI_8191, tI_8192, tI_16383, tI_16384, tI_32767, tI_32768, tI_33791, tI_33792, tI_40959, tI_40960, tI_65535, tI_65536] at hw_3); (try simp only [fa_lt, fa_le, fa_eq, tI_m1, tI_0, tI_1, tI_2, tI_3, tI_4, tI_5, tI_7, tI_8, tI_10, tI_15, tI_16, tI_20, tI_31, tI_125, tI_191, tI_255, tI_256, tI_980, tI_1000, tI_4095, tI_4096, tI_8191, tI_8192, tI_16383, tI_16384, tI_32767, tI_32768, tI_33791, tI_33792, tI_40959, tI_40960, tI_65535, tI_65536] at h8); (try simp only [fa_lt, fa_le, fa_eq, tI_m1, tI_0, tI_1, tI_2, tI_3, tI_4, tI_5, tI_7, tI_8, tI_10, tI_15, tI_16, tI_20, tI_31, tI_125, tI_191, tI_255, tI_256, tI_980, tI_1000, tI_4095, tI_4096, tI_8191, tI_8192, tI_16383, tI_16384, tI_32767, tI_32768, tI_33791, tI_33792, tI_40959, tI_40960, tI_65535, tI_65536] at h9); (have k0 := tI_0); (have k1 := tI_1); (have k2 := tI_2); (have k3 := tI_3); unfold sp_coming; (repeat' split) <;> first | rfl | omega | (simp only [fa_lt, fa_le, fa_eq, tI_m1, tI_0, tI_1, tI_2, tI_3, tI_4, tI_5, tI_7, tI_8, tI_10, tI_15, tI_16, tI_20, tI_31, tI_125, tI_191, tI_255, tI_256, tI_980, tI_1000, tI_4095, tI_4096, tI_8191, tI_8192, tI_16383, tI_16384, tI_32767, tI_32768, tI_33791, tI_33792, tI_40959, tI_40960, tI_65535, tI_65536]; omega))), by rw [ht]; exact hP9, va_K.moved hW.alike hK9, hD9⟩, hS.F ht⟩) hS.2.2 dX7_inOf_97
    · refine lv_if_eq (tgt := 98) hx hb dX7_inOf_25 (by decide) (fun _ => ?_) (fun h => absurd (by decide) h)
      refine lv_aload_n hx hb dX7_inOf_98 rfl (lv_at hl 0 rfl) ?_
      refine va_get (D := (dC, dI)) (ci := 7) (v := .ref yu) (C := RX7) (T := TX7) (N := 26) hx hb hts in_X7_inOf_X7 hown hK hP 0 rfl rfl 14 (by decide) (hts (.fieldLink RX7 27 "WorkspaceBoxModel" "outs" "[Z") (by decide +kernel)) (fun _ h9 => h9) rfl dX7_inOf_99 ?_
      refine lv_iload_n hx hb dX7_inOf_102 rfl (lv_at hl 1 rfl) ?_
      refine va_zald hx hb hK hP 1 0 rfl rfl (vp_in_iff.mpr (by (try simp only [fa_lt, fa_le, fa_eq, tI_m1, tI_0, tI_1, tI_2, tI_3, tI_4, tI_5, tI_7, tI_8, tI_10, tI_15, tI_16, tI_20, tI_31, tI_125, tI_191, tI_255, tI_256, tI_980, tI_1000, tI_4095, tI_4096, tI_8191, tI_8192, tI_16383, tI_16384, tI_32767, tI_32768, tI_33791, tI_33792, tI_40959, tI_40960, tI_65535, tI_65536] at ha); (try simp only [fa_lt, fa_le, fa_eq, tI_m1, tI_0, tI_1, tI_2, tI_3, tI_4, tI_5, tI_7, tI_8, tI_10, tI_15, tI_16, tI_20, tI_31, tI_125, tI_191, tI_255, tI_256, tI_980, tI_1000, tI_4095, tI_4096, tI_8191, tI_8192, tI_16383, tI_16384, tI_32767, tI_32768, tI_33791, tI_33792, tI_40959, tI_40960, tI_65535, tI_65536] at hc); (try simp only [fa_lt, fa_le, fa_eq, tI_m1, tI_0, tI_1, tI_2, tI_3, tI_4, tI_5, tI_7, tI_8, tI_10, tI_15, tI_16, tI_20, tI_31, tI_125, tI_191, tI_255, tI_256, tI_980, tI_1000, tI_4095, tI_4096, tI_8191, tI_8192, tI_16383, tI_16384, tI_32767, tI_32768, tI_33791, tI_33792, tI_40959, tI_40960, tI_65535, tI_65536] at c2_1); (try simp only [fa_lt, fa_le, fa_eq, tI_m1, tI_0, tI_1, tI_2, tI_3, tI_4, tI_5, tI_7, tI_8, tI_10, tI_15, tI_16, tI_20, tI_31, tI_125, tI_191, tI_255, tI_256, tI_980, tI_1000, tI_4095, tI_4096, tI_8191, tI_8192, tI_16383, tI_16384, tI_32767, tI_32768, tI_33791, tI_33792, tI_40959, tI_40960, tI_65535, tI_65536] at hw_3); (try simp only [fa_lt, fa_le, fa_eq, tI_m1, tI_0, tI_1, tI_2, tI_3, tI_4, tI_5, tI_7, tI_8, tI_10, tI_15, tI_16, tI_20, tI_31, tI_125, tI_191, tI_255, tI_256, tI_980, tI_1000, tI_4095, tI_4096, tI_8191, tI_8192, tI_16383, tI_16384, tI_32767, tI_32768, tI_33791, tI_33792, tI_40959, tI_40960, tI_65535, tI_65536] at h8); (try simp only [fa_lt, fa_le, fa_eq, tI_m1, tI_0, tI_1, tI_2, tI_3, tI_4, tI_5, tI_7, tI_8, tI_10, tI_15, tI_16, tI_20, tI_31, tI_125, tI_191, tI_255, tI_256, tI_980, tI_1000, tI_4095, tI_4096, tI_8191, tI_8192, tI_16383, tI_16384, tI_32767, tI_32768, tI_33791, tI_33792, tI_40959, tI_40960, tI_65535, tI_65536]); omega)) dX7_inOf_103 ?_
      refine lv_topi (fun y_13 ey_13 => ?_)
      obtain rfl : y_13 = 0 := ey_13
      refine lv_if_eq (tgt := 111) hx hb dX7_inOf_104 (by decide) (fun _ => ?_) (fun h => absurd (by decide) h)
      refine lv_iconst (v := 0) hx hb dX7_inOf_111 (by decide) ?_
      have hP9 := hP.sub (ws' := []) [] rfl
      have hD9 := hD.sub (ws' := []) [] (by decide) rfl
      have hK9 := hK.sub (tys' := []) [] rfl
      exact W.iret (v := 0) hx hb hr (fun t ht hW => ⟨⟨0, (), rfl, by (first | decide | ((try subst_vars); (try dsimp only); (try simp only [fa_lt, fa_le, fa_eq, tI_m1, tI_0, tI_1, tI_2, tI_3, tI_4, tI_5, tI_7, tI_8, tI_10, tI_15, tI_16, tI_20, tI_31, tI_125, tI_191, tI_255, tI_256, tI_980, tI_1000, tI_4095, tI_4096, tI_8191, tI_8192, tI_16383, tI_16384, tI_32767, tI_32768, tI_33791, tI_33792, tI_40959, tI_40960, tI_65535, tI_65536] at ha); (try simp only [fa_lt, fa_le, fa_eq, tI_m1, tI_0, tI_1, tI_2, tI_3, tI_4, tI_5, tI_7, tI_8, tI_10, tI_15, tI_16, tI_20, tI_31, tI_125, tI_191, tI_255, tI_256, tI_980, tI_1000, tI_4095, tI_4096, tI_8191, tI_8192, tI_16383, tI_16384, tI_32767, tI_32768, tI_33791, tI_33792, tI_40959, tI_40960, tI_65535, tI_65536] at hc); (try simp only [fa_lt, fa_le, fa_eq, tI_m1, tI_0, tI_1, tI_2, tI_3, tI_4, tI_5, tI_7, tI_8, tI_10, tI_15, tI_16, tI_20, tI_31, tI_125, tI_191, tI_255, tI_256, tI_980, tI_1000, tI_4095, tI_4096, tI_8191, tI_8192, tI_16383, tI_16384, tI_32767, tI_32768, tI_33791, tI_33792, tI_40959, tI_40960, tI_65535, tI_65536] at c2_1); (try simp only [fa_lt, fa_le, fa_eq, tI_m1, tI_0, tI_1, tI_2, tI_3, tI_4, tI_5, tI_7, tI_8, tI_10, tI_15, tI_16, tI_20, tI_31, tI_125, tI_191, tI_255, tI_256, tI_980, tI_1000, tI_4095, tI_4096, tI_8191, tI_8192, tI_16383, tI_16384, tI_32767, tI_32768, tI_33791, tI_33792, tI_40959, tI_40960, tI_65535, tI_65536] at hw_3); (try simp only [fa_lt, fa_le, fa_eq, tI_m1, tI_0, tI_1, tI_2, tI_3, tI_4, tI_5, tI_7, tI_8, tI_10, tI_15, tI_16, tI_20, tI_31, tI_125, tI_191, tI_255, tI_256, tI_980, tI_1000, tI_4095, tI_4096, tI_8191, tI_8192, tI_16383, tI_16384, tI_32767, tI_32768, tI_33791, tI_33792, tI_40959, tI_40960, tI_65535, tI_65536] at h8); (have k0 := tI_0); (have k1 := tI_1); (have k2 := tI_2); (have k3 := tI_3); unfold sp_coming; (repeat' split) <;> first | rfl | omega | (simp only [fa_lt, fa_le, fa_eq, tI_m1, tI_0, tI_1, tI_2, tI_3, tI_4, tI_5, tI_7, tI_8, tI_10, tI_15, tI_16, tI_20, tI_31, tI_125, tI_191, tI_255, tI_256, tI_980, tI_1000, tI_4095, tI_4096, tI_8191, tI_8192, tI_16383, tI_16384, tI_32767, tI_32768, tI_33791, tI_33792, tI_40959, tI_40960, tI_65535, tI_65536]; omega))), by rw [ht]; exact hP9, va_K.moved hW.alike hK9, hD9⟩, hS.F ht⟩) hS.2.2 dX7_inOf_112
  · refine lv_aload_n hx hb dX7_inOf_5 rfl (lv_at hl 0 rfl) ?_
    refine va_get (D := (dC, dI)) (ci := 7) (v := .int 0) (C := RX7) (T := TX7) (N := 26) hx hb hts in_X7_inOf_X7 hown hK hP 0 rfl rfl 9 (by decide) (hts (.fieldLink RX7 99 "WorkspaceBoxModel" "shown" "Z") (by decide +kernel)) (fun _ h9 => h9) rfl dX7_inOf_6 ?_
    refine lv_if_eq (tgt := 16) hx hb dX7_inOf_9 (by decide) (fun _ => ?_) (fun h => absurd (by decide) h)
    refine lv_iconst (v := 1) hx hb dX7_inOf_16 (by decide) ?_
    have hP9 := hP.sub (ws' := []) [] rfl
    have hD9 := hD.sub (ws' := []) [] (by decide) rfl
    have hK9 := hK.sub (tys' := []) [] rfl
    exact W.iret (v := 1) hx hb hr (fun t ht hW => ⟨⟨1, (), rfl, by (first | decide | ((try subst_vars); (try dsimp only); (try simp only [fa_lt, fa_le, fa_eq, tI_m1, tI_0, tI_1, tI_2, tI_3, tI_4, tI_5, tI_7, tI_8, tI_10, tI_15, tI_16, tI_20, tI_31, tI_125, tI_191, tI_255, tI_256, tI_980, tI_1000, tI_4095, tI_4096, tI_8191, tI_8192, tI_16383, tI_16384, tI_32767, tI_32768, tI_33791, tI_33792, tI_40959, tI_40960, tI_65535, tI_65536] at ha); (try simp only [fa_lt, fa_le, fa_eq, tI_m1, tI_0, tI_1, tI_2, tI_3, tI_4, tI_5, tI_7, tI_8, tI_10, tI_15, tI_16, tI_20, tI_31, tI_125, tI_191, tI_255, tI_256, tI_980, tI_1000, tI_4095, tI_4096, tI_8191, tI_8192, tI_16383, tI_16384, tI_32767, tI_32768, tI_33791, tI_33792, tI_40959, tI_40960, tI_65535, tI_65536] at hc); (try simp only [fa_lt, fa_le, fa_eq, tI_m1, tI_0, tI_1, tI_2, tI_3, tI_4, tI_5, tI_7, tI_8, tI_10, tI_15, tI_16, tI_20, tI_31, tI_125, tI_191, tI_255, tI_256, tI_980, tI_1000, tI_4095, tI_4096, tI_8191, tI_8192, tI_16383, tI_16384, tI_32767, tI_32768, tI_33791, tI_33792, tI_40959, tI_40960, tI_65535, tI_65536] at c2_1); (have k0 := tI_0); (have k1 := tI_1); (have k2 := tI_2); (have k3 := tI_3); unfold sp_coming; (repeat' split) <;> first | rfl | omega | (simp only [fa_lt, fa_le, fa_eq, tI_m1, tI_0, tI_1, tI_2, tI_3, tI_4, tI_5, tI_7, tI_8, tI_10, tI_15, tI_16, tI_20, tI_31, tI_125, tI_191, tI_255, tI_256, tI_980, tI_1000, tI_4095, tI_4096, tI_8191, tI_8192, tI_16383, tI_16384, tI_32767, tI_32768, tI_33791, tI_33792, tI_40959, tI_40960, tI_65535, tI_65536]; omega))), by rw [ht]; exact hP9, va_K.moved hW.alike hK9, hD9⟩, hS.F ht⟩) hS.2.2 dX7_inOf_17

theorem in_X7_in__X7 : ∀ w ∈ wsX70, w ∈ wsX7_in_ := by decide +kernel
set_option maxHeartbeats 1000000 in
set_option maxRecDepth 100000 in
theorem m_inn (l : Launch) (dC : Nat → ClassId) (dI : Nat → Nat → Nat) (y yo ya yv yg yp yu yk yq yt : Nat) (eo ea ev eg ep eu ek eq et : ClassId) (p0 : Int32) (sz : Nat)  : Met l yX7_in_ wsX7_in_ ({ frames := 2, cells := 0, slots := 0, locals := 44 }) (va_Pc [.ref y, .int p0] (fun U => U.heap.size = sz ∧ va_P (dC, dI) vwCl [(y, .inr (7, [.int 0, .ref yo, .ref ya, .ref yv, .ref yg, .int 0, .int 0, .int 0, .int 0, .int 0, .ref yp, .int 0, .int 0, .int 0, .ref yu, .ref yk, .int 0, .int 0, .int 0, .int 2, .int 0, .int 0, .ref yq, .int 0, .ref yt, .int 0])), (yu, .inl (eu, 4096, .inl (fun _ => 0))), (yk, .inl (ek, 64, .inl (fun _ => 0)))] U.heap ∧ va_K (dC, dI) vwCl [(eu, .boolean), (ek, .boolean)] U ∧ va_D (fun _ => True) [(y, .inr (7, [.int 0, .ref yo, .ref ya, .ref yv, .ref yg, .int 0, .int 0, .int 0, .int 0, .int 0, .ref yp, .int 0, .int 0, .int 0, .ref yu, .ref yk, .int 0, .int 0, .int 0, .int 2, .int 0, .int 0, .ref yq, .int 0, .ref yt, .int 0])), (yu, .inl (eu, 4096, .inl (fun _ => 0))), (yk, .inl (ek, 64, .inl (fun _ => 0)))])) (va_Qi (fun (r : Int32) (_ : Unit) => r = sp_inn p0) (fun (u : Unit) (t : State) => va_P (dC, dI) vwCl [] t.heap ∧ va_K (dC, dI) vwCl [] t ∧ va_D (va_A [(y, .inr (7, [.int 0, .ref yo, .ref ya, .ref yv, .ref yg, .int 0, .int 0, .int 0, .int 0, .int 0, .ref yp, .int 0, .int 0, .int 0, .ref yu, .ref yk, .int 0, .int 0, .int 0, .int 2, .int 0, .int 0, .ref yq, .int 0, .ref yt, .int 0])), (yu, .inl (eu, 4096, .inl (fun _ => 0))), (yk, .inl (ek, 64, .inl (fun _ => 0)))] sz) []) (va_A [(y, .inr (7, [.int 0, .ref yo, .ref ya, .ref yv, .ref yg, .int 0, .int 0, .int 0, .int 0, .int 0, .ref yp, .int 0, .int 0, .int 0, .ref yu, .ref yk, .int 0, .int 0, .int 0, .int 2, .int 0, .int 0, .ref yq, .int 0, .ref yt, .int 0])), (yu, .inl (eu, 4096, .inl (fun _ => 0))), (yk, .inl (ek, 64, .inl (fun _ => 0)))] sz)) 0 0 (va_A [(y, .inr (7, [.int 0, .ref yo, .ref ya, .ref yv, .ref yg, .int 0, .int 0, .int 0, .int 0, .int 0, .ref yp, .int 0, .int 0, .int 0, .ref yu, .ref yk, .int 0, .int 0, .int 0, .int 2, .int 0, .int 0, .ref yq, .int 0, .ref yt, .int 0])), (yu, .inl (eu, 4096, .inl (fun _ => 0))), (yk, .inl (ek, 64, .inl (fun _ => 0)))] sz) := by
  refine Met.ofW (cc := cX7_in_) (maxL := 2) (ret := (some .int)) (by decide) rfl ?_
  intro p e s m args below meth c s₁ B hml hv
  obtain ⟨rfl, hsz, hP, hK, hD0⟩ := hv
  have hx := B.exec
  have hb := B.bytes
  have hr := B.returns
  have hts := atoms_spec (ws := wsX7_in_) B.pre
  have hown : s.vm.findClass RX7 = some m.cls := findClass_of_methodNamed B.named
  have hlocks := B.notSynchronized
  subst hsz
  have hD := hD0.self (sz := s.heap.size)
  generalize hAe : va_A [(y, .inr (7, [.int 0, .ref yo, .ref ya, .ref yv, .ref yg, .int 0, .int 0, .int 0, .int 0, .int 0, .ref yp, .int 0, .int 0, .int 0, .ref yu, .ref yk, .int 0, .int 0, .int 0, .int 2, .int 0, .int 0, .ref yq, .int 0, .ref yt, .int 0])), (yu, .inl (eu, 4096, .inl (fun _ => 0))), (yk, .inl (ek, 64, .inl (fun _ => 0)))] s.heap.size = A at hD ⊢
  have hA : ∀ q : Nat, s.heap.size ≤ q → A q := fun q h => by rw [← hAe]; exact Or.inr h
  have hS : va_S A s.heap s.heap [] := va_S.rf
  have hP : va_P (dC, dI) vwCl [(y, .inr (7, [.int 0, .ref yo, .ref ya, .ref yv, .ref yg, .int 0, .int 0, .int 0, .int 0, .int 0, .ref yp, .int 0, .int 0, .int 0, .ref yu, .ref yk, .int 0, .int 0, .int 0, .int 2, .int 0, .int 0, .ref yq, .int 0, .ref yt, .int 0])), (yu, .inl (eu, 4096, .inl (fun _ => 0))), (yk, .inl (ek, 64, .inl (fun _ => 0)))] s.heap := hP
  have hl := lv_entry ([.ref y, .int p0]) (n := 2) (Nat.le_of_ble_eq_true rfl)
  rw [lg_entry_eq]
  generalize (lg_sl ([.ref y, .int p0]) ++ List.replicate (2 - (lg_sl ([.ref y, .int p0])).length) Slot.unset).toArray = ls at hl ⊢
  have hl : lv_has ls 2 [(0, .ref y), (1, .int p0)] := hl
  refine lv_aload_n hx hb dX7_in__0 rfl (lv_at hl 0 rfl) ?_
  refine lv_iconst (v := 0) hx hb dX7_in__1 (by decide) ?_
  refine va_put (D := (dC, dI)) (ci := 7) (v := .int 0) (ty := .int) (C := RX7) (T := TX7) (N := 26) hx hb hts in_X7_in__X7 tyX7 tyX7_ok nmX7 hown hK hP hD hS 0 rfl rfl 0 (by decide) (hts (.fieldLink RX7 44 "WorkspaceBoxModel" "thrown" "I") (by decide +kernel)) (fun _ h9 => h9) rfl (by decide +kernel) rfl rfl (Nat.le_of_ble_eq_true rfl) dX7_in__2 (fun H locs hP hD hS => ?_)
  have hP : va_P (dC, dI) vwCl [(y, .inr (7, [.int 0, .ref yo, .ref ya, .ref yv, .ref yg, .int 0, .int 0, .int 0, .int 0, .int 0, .ref yp, .int 0, .int 0, .int 0, .ref yu, .ref yk, .int 0, .int 0, .int 0, .int 2, .int 0, .int 0, .ref yq, .int 0, .ref yt, .int 0])), (yu, .inl (eu, 4096, .inl (fun _ => 0))), (yk, .inl (ek, 64, .inl (fun _ => 0)))] H := hP
  have hD : va_D A [(y, .inr (7, [.int 0, .ref yo, .ref ya, .ref yv, .ref yg, .int 0, .int 0, .int 0, .int 0, .int 0, .ref yp, .int 0, .int 0, .int 0, .ref yu, .ref yk, .int 0, .int 0, .int 0, .int 2, .int 0, .int 0, .ref yq, .int 0, .ref yt, .int 0])), (yu, .inl (eu, 4096, .inl (fun _ => 0))), (yk, .inl (ek, 64, .inl (fun _ => 0)))] := hD
  refine lv_iload_n hx hb dX7_in__5 rfl (lv_at hl 1 rfl) ?_
  refine lv_iconst (v := 0) hx hb dX7_in__6 (by decide) ?_
  refine lv_sipush (v := 4095) hx hb dX7_in__7 (by decide) ?_
  have hPc := hP.sub (ws' := []) [] rfl
  have hDc := hD.sub (ws' := []) [] (by decide) rfl
  have hKc := hK.sub (tys' := []) [] rfl
  have hFc := va_free (wc := []) hD hS hA [] rfl
  refine va_calli (va_runS (As := [.int p0, .int 0, .int 4095]) (rest := []) ⟨hx, hb, hml, hown, hts⟩ (m_in l dC dI y yo ya yv yg yp yu yk yq yt eo ea ev eg ep eu ek eq et p0 0 4095 H.size) (va_cwS 3 hts gX7_in__X7_in rfl rfl rfl (by decide +kernel) ⟨Nat.le_of_ble_eq_true rfl, Nat.le_of_ble_eq_true rfl⟩) ⟨fun a U g mk q => by obtain ⟨q0, q1, qP, qK, qD⟩ := q; exact ⟨q0, q1, qP, va_K.moved (u := U) (U := U.calling g mk a) (Vm.Alike.refl U.vm) qK, qD⟩, fun U hU hW => ⟨rfl, by rw [hU], by rw [hU]; exact hPc, va_K.moved hW.alike hKc, hDc.weaken (fun _ _ _ _ => trivial)⟩⟩ rfl rfl hl.1 rfl (lv_room (Nat.le_of_ble_eq_true rfl)) dX7_in__10 ⟨Nat.le_of_ble_eq_true rfl, Nat.le_of_ble_eq_true rfl⟩) hS (fun q _ h => hFc q h) hFc (fun r_1 u t H1 locs ht hvm hw hB hz1 hk1 hS => ?_)
  obtain ⟨hP1, hK1, hD1⟩ := hB
  rw [ht] at hP1
  have hK1 := va_K.moved hvm.symm hK1
  try dsimp only at hw
  obtain ⟨hP, hD⟩ := va_join (wr := [(y, .inr (7, [.int 0, .ref yo, .ref ya, .ref yv, .ref yg, .int 0, .int 0, .int 0, .int 0, .int 0, .ref yp, .int 0, .int 0, .int 0, .ref yu, .ref yk, .int 0, .int 0, .int 0, .int 2, .int 0, .int 0, .ref yq, .int 0, .ref yt, .int 0])), (yu, .inl (eu, 4096, .inl (fun _ => 0))), (yk, .inl (ek, 64, .inl (fun _ => 0)))]) (w1 := []) hP hD [] [0, 1, 2] rfl rfl (by decide) (by decide) hk1 hFc hP1 hD1
  have hK := (hK.sub (tys' := [(eu, .boolean), (ek, .boolean)]) [0, 1] rfl).app hK1
  generalize H1 = H at hP hS ⊢
  have hP : va_P (dC, dI) vwCl [(y, .inr (7, [.int 0, .ref yo, .ref ya, .ref yv, .ref yg, .int 0, .int 0, .int 0, .int 0, .int 0, .ref yp, .int 0, .int 0, .int 0, .ref yu, .ref yk, .int 0, .int 0, .int 0, .int 2, .int 0, .int 0, .ref yq, .int 0, .ref yt, .int 0])), (yu, .inl (eu, 4096, .inl (fun _ => 0))), (yk, .inl (ek, 64, .inl (fun _ => 0)))] H := hP
  have hD : va_D A [(y, .inr (7, [.int 0, .ref yo, .ref ya, .ref yv, .ref yg, .int 0, .int 0, .int 0, .int 0, .int 0, .ref yp, .int 0, .int 0, .int 0, .ref yu, .ref yk, .int 0, .int 0, .int 0, .int 2, .int 0, .int 0, .ref yq, .int 0, .ref yt, .int 0])), (yu, .inl (eu, 4096, .inl (fun _ => 0))), (yk, .inl (ek, 64, .inl (fun _ => 0)))] := hD
  have hK : va_K (dC, dI) vwCl [(eu, .boolean), (ek, .boolean)] s := hK
  have hw_2 := hw
  rcases hw_2 with ⟨rfl, h8, h9⟩ | ⟨rfl, h8⟩
  · refine lv_if_eq (tgt := 24) hx hb dX7_in__13 (by decide) (fun h => absurd h (by decide)) (fun _ => ?_)
    refine lv_aload_n hx hb dX7_in__16 rfl (lv_at hl 0 rfl) ?_
    refine lv_iload_n hx hb dX7_in__17 rfl (lv_at hl 1 rfl) ?_
    have hPc := hP.sub (ws' := [(y, .inr (7, [.int 0, .ref yo, .ref ya, .ref yv, .ref yg, .int 0, .int 0, .int 0, .int 0, .int 0, .ref yp, .int 0, .int 0, .int 0, .ref yu, .ref yk, .int 0, .int 0, .int 0, .int 2, .int 0, .int 0, .ref yq, .int 0, .ref yt, .int 0])), (yu, .inl (eu, 4096, .inl (fun _ => 0))), (yk, .inl (ek, 64, .inl (fun _ => 0)))]) [0, 1, 2] rfl
    have hDc := hD.sub (ws' := [(y, .inr (7, [.int 0, .ref yo, .ref ya, .ref yv, .ref yg, .int 0, .int 0, .int 0, .int 0, .int 0, .ref yp, .int 0, .int 0, .int 0, .ref yu, .ref yk, .int 0, .int 0, .int 0, .int 2, .int 0, .int 0, .ref yq, .int 0, .ref yt, .int 0])), (yu, .inl (eu, 4096, .inl (fun _ => 0))), (yk, .inl (ek, 64, .inl (fun _ => 0)))]) [0, 1, 2] (by decide) rfl
    have hKc := hK.sub (tys' := [(eu, .boolean), (ek, .boolean)]) [0, 1] rfl
    have hFc := va_free (wc := [(y, .inr (7, [.int 0, .ref yo, .ref ya, .ref yv, .ref yg, .int 0, .int 0, .int 0, .int 0, .int 0, .ref yp, .int 0, .int 0, .int 0, .ref yu, .ref yk, .int 0, .int 0, .int 0, .int 2, .int 0, .int 0, .ref yq, .int 0, .ref yt, .int 0])), (yu, .inl (eu, 4096, .inl (fun _ => 0))), (yk, .inl (ek, 64, .inl (fun _ => 0)))]) hD hS hA [0, 1, 2] rfl
    refine va_calli (va_runV (As := [.int p0]) (rest := []) ⟨hx, hb, hml, hown, hts⟩ (m_inOf l dC dI y yo ya yv yg yp yu yk yq yt eo ea ev eg ep eu ek eq et p0 H.size h8 h9) (cwV 1 hts gX7_in__X7_inOf rfl rfl rfl (by decide +kernel) ⟨Nat.le_of_ble_eq_true rfl, Nat.le_of_ble_eq_true rfl⟩) ⟨fun a U g mk q => by obtain ⟨q0, q1, qP, qK, qD⟩ := q; exact ⟨q0, q1, qP, va_K.moved (u := U) (U := U.calling g mk a) (Vm.Alike.refl U.vm) qK, qD⟩, va_recv hKc hPc (ci := 7) (q0 := 0) rfl rfl, fun U hU hW => ⟨rfl, by rw [hU], by rw [hU]; exact hPc, va_K.moved hW.alike hKc, hDc.weaken (fun _ _ _ _ => trivial)⟩⟩ rfl rfl hl.1 rfl (lv_room (Nat.le_of_ble_eq_true rfl)) dX7_in__18 ⟨Nat.le_of_ble_eq_true rfl, Nat.le_of_ble_eq_true rfl⟩) hS (fun q _ h => hFc q h) hFc (fun r_3 u t H1 locs ht hvm hw hB hz1 hk1 hS => ?_)
    obtain ⟨hP1, hK1, hD1⟩ := hB
    rw [ht] at hP1
    have hK1 := va_K.moved hvm.symm hK1
    try dsimp only at hw
    obtain ⟨hP, hD⟩ := va_join (wr := []) (w1 := []) hP hD [0, 1, 2] [] rfl rfl (by decide) (by decide) hk1 hFc hP1 hD1
    have hK := (hK.sub (tys' := [(eu, .boolean), (ek, .boolean)]) [0, 1] rfl).app hK1
    generalize H1 = H at hP hS ⊢
    have hP : va_P (dC, dI) vwCl [] H := hP
    have hD : va_D A [] := hD
    have hK : va_K (dC, dI) vwCl [(eu, .boolean), (ek, .boolean)] s := hK
    have hw_4 := hw
    refine lv_goto (tgt := 25) hx hb dX7_in__21 (by decide) ?_
    have hP9 := hP.sub (ws' := []) [] rfl
    have hD9 := hD.sub (ws' := []) [] (by decide) rfl
    have hK9 := hK.sub (tys' := []) [] rfl
    exact W.iret (v := r_3) hx hb hr (fun t ht hW => ⟨⟨r_3, (), rfl, by (first | decide | ((try subst_vars); (try simp only [fa_lt, fa_le, fa_eq, tI_m1, tI_0, tI_1, tI_2, tI_3, tI_4, tI_5, tI_7, tI_8, tI_10, tI_15, tI_16, tI_20, tI_31, tI_125, tI_191, tI_255, tI_256, tI_980, tI_1000, tI_4095, tI_4096, tI_8191, tI_8192, tI_16383, tI_16384, tI_32767, tI_32768, tI_33791, tI_33792, tI_40959, tI_40960, tI_65535, tI_65536] at hw_2); (try simp only [fa_lt, fa_le, fa_eq, tI_m1, tI_0, tI_1, tI_2, tI_3, tI_4, tI_5, tI_7, tI_8, tI_10, tI_15, tI_16, tI_20, tI_31, tI_125, tI_191, tI_255, tI_256, tI_980, tI_1000, tI_4095, tI_4096, tI_8191, tI_8192, tI_16383, tI_16384, tI_32767, tI_32768, tI_33791, tI_33792, tI_40959, tI_40960, tI_65535, tI_65536] at h8); (try simp only [fa_lt, fa_le, fa_eq, tI_m1, tI_0, tI_1, tI_2, tI_3, tI_4, tI_5, tI_7, tI_8, tI_10, tI_15, tI_16, tI_20, tI_31, tI_125, tI_191, tI_255, tI_256, tI_980, tI_1000, tI_4095, tI_4096, tI_8191, tI_8192, tI_16383, tI_16384, tI_32767, tI_32768, tI_33791, tI_33792, tI_40959, tI_40960, tI_65535, tI_65536] at h9); (try simp only [fa_lt, fa_le, fa_eq, tI_m1, tI_0, tI_1, tI_2, tI_3, tI_4, tI_5, tI_7, tI_8, tI_10, tI_15, tI_16, tI_20, tI_31, tI_125, tI_191, tI_255, tI_256, tI_980, tI_1000, tI_4095, tI_4096, tI_8191, tI_8192, tI_16383, tI_16384, tI_32767, tI_32768, tI_33791, tI_33792, tI_40959, tI_40960, tI_65535, tI_65536] at hw_4); unfold sp_inn; (try unfold sp_coming); (repeat' split) <;> first | rfl | omega)), by rw [ht]; exact hP9, va_K.moved hW.alike hK9, hD9⟩, hS.F ht⟩) hS.2.2 dX7_in__25
  · refine lv_if_eq (tgt := 24) hx hb dX7_in__13 (by decide) (fun _ => ?_) (fun h => absurd (by decide) h)
    refine lv_iconst (v := (-1)) hx hb dX7_in__24 (by decide) ?_
    have hP9 := hP.sub (ws' := []) [] rfl
    have hD9 := hD.sub (ws' := []) [] (by decide) rfl
    have hK9 := hK.sub (tys' := []) [] rfl
    exact W.iret (v := (-1)) hx hb hr (fun t ht hW => ⟨⟨(-1), (), rfl, by (first | decide | ((try subst_vars); (try simp only [fa_lt, fa_le, fa_eq, tI_m1, tI_0, tI_1, tI_2, tI_3, tI_4, tI_5, tI_7, tI_8, tI_10, tI_15, tI_16, tI_20, tI_31, tI_125, tI_191, tI_255, tI_256, tI_980, tI_1000, tI_4095, tI_4096, tI_8191, tI_8192, tI_16383, tI_16384, tI_32767, tI_32768, tI_33791, tI_33792, tI_40959, tI_40960, tI_65535, tI_65536] at hw_2); (try simp only [fa_lt, fa_le, fa_eq, tI_m1, tI_0, tI_1, tI_2, tI_3, tI_4, tI_5, tI_7, tI_8, tI_10, tI_15, tI_16, tI_20, tI_31, tI_125, tI_191, tI_255, tI_256, tI_980, tI_1000, tI_4095, tI_4096, tI_8191, tI_8192, tI_16383, tI_16384, tI_32767, tI_32768, tI_33791, tI_33792, tI_40959, tI_40960, tI_65535, tI_65536] at h8); unfold sp_inn; (try unfold sp_coming); (repeat' split) <;> first | rfl | omega)), by rw [ht]; exact hP9, va_K.moved hW.alike hK9, hD9⟩, hS.F ht⟩) hS.2.2 dX7_in__25

theorem in_X7_pixel_X7 : ∀ w ∈ wsX70, w ∈ wsX7_pixel := by decide +kernel
set_option maxHeartbeats 1000000 in
set_option maxRecDepth 100000 in
theorem m_pixel (l : Launch) (dC : Nat → ClassId) (dI : Nat → Nat → Nat) (y yo ya yv yg yp yu yk yq yt : Nat) (eo ea ev eg ep eu ek eq et : ClassId) (p0 : Int32) (p1 : Int32) (sz : Nat)  : Met l yX7_pixel wsX7_pixel ({ frames := 1, cells := 0, slots := 0, locals := 22 }) (va_Pc [.ref y, .int p0, .int p1] (fun U => U.heap.size = sz ∧ va_P (dC, dI) vwCl [(y, .inr (7, [.int 0, .ref yo, .ref ya, .ref yv, .ref yg, .int 0, .int 0, .int 0, .int 0, .int 0, .ref yp, .int 0, .int 0, .int 0, .ref yu, .ref yk, .int 0, .int 0, .int 0, .int 2, .int 0, .int 0, .ref yq, .int 0, .ref yt, .int 0])), (yp, .inl (ep, 8, .inl (fun _ => 0)))] U.heap ∧ va_K (dC, dI) vwCl [(ep, .int)] U ∧ va_D (fun _ => True) [(y, .inr (7, [.int 0, .ref yo, .ref ya, .ref yv, .ref yg, .int 0, .int 0, .int 0, .int 0, .int 0, .ref yp, .int 0, .int 0, .int 0, .ref yu, .ref yk, .int 0, .int 0, .int 0, .int 2, .int 0, .int 0, .ref yq, .int 0, .ref yt, .int 0])), (yp, .inl (ep, 8, .inl (fun _ => 0)))])) (va_Qi (fun (r : Int32) (_ : Unit) => r = sp_pixel p0 p1) (fun (u : Unit) (t : State) => va_P (dC, dI) vwCl [] t.heap ∧ va_K (dC, dI) vwCl [] t ∧ va_D (va_A [(y, .inr (7, [.int 0, .ref yo, .ref ya, .ref yv, .ref yg, .int 0, .int 0, .int 0, .int 0, .int 0, .ref yp, .int 0, .int 0, .int 0, .ref yu, .ref yk, .int 0, .int 0, .int 0, .int 2, .int 0, .int 0, .ref yq, .int 0, .ref yt, .int 0])), (yp, .inl (ep, 8, .inl (fun _ => 0)))] sz) []) (va_A [(y, .inr (7, [.int 0, .ref yo, .ref ya, .ref yv, .ref yg, .int 0, .int 0, .int 0, .int 0, .int 0, .ref yp, .int 0, .int 0, .int 0, .ref yu, .ref yk, .int 0, .int 0, .int 0, .int 2, .int 0, .int 0, .ref yq, .int 0, .ref yt, .int 0])), (yp, .inl (ep, 8, .inl (fun _ => 0)))] sz)) 0 0 (va_A [(y, .inr (7, [.int 0, .ref yo, .ref ya, .ref yv, .ref yg, .int 0, .int 0, .int 0, .int 0, .int 0, .ref yp, .int 0, .int 0, .int 0, .ref yu, .ref yk, .int 0, .int 0, .int 0, .int 2, .int 0, .int 0, .ref yq, .int 0, .ref yt, .int 0])), (yp, .inl (ep, 8, .inl (fun _ => 0)))] sz) := by
  refine Met.ofW (cc := cX7_pixel) (maxL := 8) (ret := (some .int)) (by decide) rfl ?_
  intro p e s m args below meth c s₁ B hml hv
  obtain ⟨rfl, hsz, hP, hK, hD0⟩ := hv
  have hx := B.exec
  have hb := B.bytes
  have hr := B.returns
  have hts := atoms_spec (ws := wsX7_pixel) B.pre
  have hown : s.vm.findClass RX7 = some m.cls := findClass_of_methodNamed B.named
  have hlocks := B.notSynchronized
  subst hsz
  have hD := hD0.self (sz := s.heap.size)
  generalize hAe : va_A [(y, .inr (7, [.int 0, .ref yo, .ref ya, .ref yv, .ref yg, .int 0, .int 0, .int 0, .int 0, .int 0, .ref yp, .int 0, .int 0, .int 0, .ref yu, .ref yk, .int 0, .int 0, .int 0, .int 2, .int 0, .int 0, .ref yq, .int 0, .ref yt, .int 0])), (yp, .inl (ep, 8, .inl (fun _ => 0)))] s.heap.size = A at hD ⊢
  have hA : ∀ q : Nat, s.heap.size ≤ q → A q := fun q h => by rw [← hAe]; exact Or.inr h
  have hS : va_S A s.heap s.heap [] := va_S.rf
  have hP : va_P (dC, dI) vwCl [(y, .inr (7, [.int 0, .ref yo, .ref ya, .ref yv, .ref yg, .int 0, .int 0, .int 0, .int 0, .int 0, .ref yp, .int 0, .int 0, .int 0, .ref yu, .ref yk, .int 0, .int 0, .int 0, .int 2, .int 0, .int 0, .ref yq, .int 0, .ref yt, .int 0])), (yp, .inl (ep, 8, .inl (fun _ => 0)))] s.heap := hP
  have hl := lv_entry ([.ref y, .int p0, .int p1]) (n := 8) (Nat.le_of_ble_eq_true rfl)
  rw [lg_entry_eq]
  generalize (lg_sl ([.ref y, .int p0, .int p1]) ++ List.replicate (8 - (lg_sl ([.ref y, .int p0, .int p1])).length) Slot.unset).toArray = ls at hl ⊢
  have hl : lv_has ls 8 [(0, .ref y), (1, .int p0), (2, .int p1)] := hl
  refine lv_aload_n hx hb dX7_pixel_0 rfl (lv_at hl 0 rfl) ?_
  refine lv_iconst (v := 0) hx hb dX7_pixel_1 (by decide) ?_
  refine va_put (D := (dC, dI)) (ci := 7) (v := .int 0) (ty := .int) (C := RX7) (T := TX7) (N := 26) hx hb hts in_X7_pixel_X7 tyX7 tyX7_ok nmX7 hown hK hP hD hS 0 rfl rfl 0 (by decide) (hts (.fieldLink RX7 44 "WorkspaceBoxModel" "thrown" "I") (by decide +kernel)) (fun _ h9 => h9) rfl (by decide +kernel) rfl rfl (Nat.le_of_ble_eq_true rfl) dX7_pixel_2 (fun H locs hP hD hS => ?_)
  have hP : va_P (dC, dI) vwCl [(y, .inr (7, [.int 0, .ref yo, .ref ya, .ref yv, .ref yg, .int 0, .int 0, .int 0, .int 0, .int 0, .ref yp, .int 0, .int 0, .int 0, .ref yu, .ref yk, .int 0, .int 0, .int 0, .int 2, .int 0, .int 0, .ref yq, .int 0, .ref yt, .int 0])), (yp, .inl (ep, 8, .inl (fun _ => 0)))] H := hP
  have hD : va_D A [(y, .inr (7, [.int 0, .ref yo, .ref ya, .ref yv, .ref yg, .int 0, .int 0, .int 0, .int 0, .int 0, .ref yp, .int 0, .int 0, .int 0, .ref yu, .ref yk, .int 0, .int 0, .int 0, .int 2, .int 0, .int 0, .ref yq, .int 0, .ref yt, .int 0])), (yp, .inl (ep, 8, .inl (fun _ => 0)))] := hD
  refine lv_iload_n hx hb dX7_pixel_5 rfl (lv_at hl 1 rfl) ?_
  refine lv_iconst (v := 0) hx hb dX7_pixel_6 (by decide) ?_
  refine lv_sipush (v := 255) hx hb dX7_pixel_7 (by decide) ?_
  have hPc := hP.sub (ws' := []) [] rfl
  have hDc := hD.sub (ws' := []) [] (by decide) rfl
  have hKc := hK.sub (tys' := []) [] rfl
  have hFc := va_free (wc := []) hD hS hA [] rfl
  refine va_calli (va_runS (As := [.int p0, .int 0, .int 255]) (rest := []) ⟨hx, hb, hml, hown, hts⟩ (m_in l dC dI y yo ya yv yg yp yu yk yq yt eo ea ev eg ep eu ek eq et p0 0 255 H.size) (va_cwS 3 hts gX7_pixel_X7_in rfl rfl rfl (by decide +kernel) ⟨Nat.le_of_ble_eq_true rfl, Nat.le_of_ble_eq_true rfl⟩) ⟨fun a U g mk q => by obtain ⟨q0, q1, qP, qK, qD⟩ := q; exact ⟨q0, q1, qP, va_K.moved (u := U) (U := U.calling g mk a) (Vm.Alike.refl U.vm) qK, qD⟩, fun U hU hW => ⟨rfl, by rw [hU], by rw [hU]; exact hPc, va_K.moved hW.alike hKc, hDc.weaken (fun _ _ _ _ => trivial)⟩⟩ rfl rfl hl.1 rfl (lv_room (Nat.le_of_ble_eq_true rfl)) dX7_pixel_10 ⟨Nat.le_of_ble_eq_true rfl, Nat.le_of_ble_eq_true rfl⟩) hS (fun q _ h => hFc q h) hFc (fun r_1 u t H1 locs ht hvm hw hB hz1 hk1 hS => ?_)
  obtain ⟨hP1, hK1, hD1⟩ := hB
  rw [ht] at hP1
  have hK1 := va_K.moved hvm.symm hK1
  try dsimp only at hw
  obtain ⟨hP, hD⟩ := va_join (wr := [(y, .inr (7, [.int 0, .ref yo, .ref ya, .ref yv, .ref yg, .int 0, .int 0, .int 0, .int 0, .int 0, .ref yp, .int 0, .int 0, .int 0, .ref yu, .ref yk, .int 0, .int 0, .int 0, .int 2, .int 0, .int 0, .ref yq, .int 0, .ref yt, .int 0])), (yp, .inl (ep, 8, .inl (fun _ => 0)))]) (w1 := []) hP hD [] [0, 1] rfl rfl (by decide) (by decide) hk1 hFc hP1 hD1
  have hK := (hK.sub (tys' := [(ep, .int)]) [0] rfl).app hK1
  generalize H1 = H at hP hS ⊢
  have hP : va_P (dC, dI) vwCl [(y, .inr (7, [.int 0, .ref yo, .ref ya, .ref yv, .ref yg, .int 0, .int 0, .int 0, .int 0, .int 0, .ref yp, .int 0, .int 0, .int 0, .ref yu, .ref yk, .int 0, .int 0, .int 0, .int 2, .int 0, .int 0, .ref yq, .int 0, .ref yt, .int 0])), (yp, .inl (ep, 8, .inl (fun _ => 0)))] H := hP
  have hD : va_D A [(y, .inr (7, [.int 0, .ref yo, .ref ya, .ref yv, .ref yg, .int 0, .int 0, .int 0, .int 0, .int 0, .ref yp, .int 0, .int 0, .int 0, .ref yu, .ref yk, .int 0, .int 0, .int 0, .int 2, .int 0, .int 0, .ref yq, .int 0, .ref yt, .int 0])), (yp, .inl (ep, 8, .inl (fun _ => 0)))] := hD
  have hK : va_K (dC, dI) vwCl [(ep, .int)] s := hK
  have hw_2 := hw
  rcases hw_2 with ⟨rfl, h6, h7⟩ | ⟨rfl, h6⟩
  · refine lv_if_eq (tgt := 27) hx hb dX7_pixel_13 (by decide) (fun h => absurd h (by decide)) (fun _ => ?_)
    refine lv_iload_n hx hb dX7_pixel_16 rfl (lv_at hl 2 rfl) ?_
    refine lv_iconst (v := 0) hx hb dX7_pixel_17 (by decide) ?_
    refine lv_sipush (v := 191) hx hb dX7_pixel_18 (by decide) ?_
    have hPc := hP.sub (ws' := []) [] rfl
    have hDc := hD.sub (ws' := []) [] (by decide) rfl
    have hKc := hK.sub (tys' := []) [] rfl
    have hFc := va_free (wc := []) hD hS hA [] rfl
    refine va_calli (va_runS (As := [.int p1, .int 0, .int 191]) (rest := []) ⟨hx, hb, hml, hown, hts⟩ (m_in l dC dI y yo ya yv yg yp yu yk yq yt eo ea ev eg ep eu ek eq et p1 0 191 H.size) (va_cwS 3 hts gX7_pixel_X7_in rfl rfl rfl (by decide +kernel) ⟨Nat.le_of_ble_eq_true rfl, Nat.le_of_ble_eq_true rfl⟩) ⟨fun a U g mk q => by obtain ⟨q0, q1, qP, qK, qD⟩ := q; exact ⟨q0, q1, qP, va_K.moved (u := U) (U := U.calling g mk a) (Vm.Alike.refl U.vm) qK, qD⟩, fun U hU hW => ⟨rfl, by rw [hU], by rw [hU]; exact hPc, va_K.moved hW.alike hKc, hDc.weaken (fun _ _ _ _ => trivial)⟩⟩ rfl rfl hl.1 rfl (lv_room (Nat.le_of_ble_eq_true rfl)) dX7_pixel_21 ⟨Nat.le_of_ble_eq_true rfl, Nat.le_of_ble_eq_true rfl⟩) hS (fun q _ h => hFc q h) hFc (fun r_3 u t H1 locs ht hvm hw hB hz1 hk1 hS => ?_)
    obtain ⟨hP1, hK1, hD1⟩ := hB
    rw [ht] at hP1
    have hK1 := va_K.moved hvm.symm hK1
    try dsimp only at hw
    obtain ⟨hP, hD⟩ := va_join (wr := [(y, .inr (7, [.int 0, .ref yo, .ref ya, .ref yv, .ref yg, .int 0, .int 0, .int 0, .int 0, .int 0, .ref yp, .int 0, .int 0, .int 0, .ref yu, .ref yk, .int 0, .int 0, .int 0, .int 2, .int 0, .int 0, .ref yq, .int 0, .ref yt, .int 0])), (yp, .inl (ep, 8, .inl (fun _ => 0)))]) (w1 := []) hP hD [] [0, 1] rfl rfl (by decide) (by decide) hk1 hFc hP1 hD1
    have hK := (hK.sub (tys' := [(ep, .int)]) [0] rfl).app hK1
    generalize H1 = H at hP hS ⊢
    have hP : va_P (dC, dI) vwCl [(y, .inr (7, [.int 0, .ref yo, .ref ya, .ref yv, .ref yg, .int 0, .int 0, .int 0, .int 0, .int 0, .ref yp, .int 0, .int 0, .int 0, .ref yu, .ref yk, .int 0, .int 0, .int 0, .int 2, .int 0, .int 0, .ref yq, .int 0, .ref yt, .int 0])), (yp, .inl (ep, 8, .inl (fun _ => 0)))] H := hP
    have hD : va_D A [(y, .inr (7, [.int 0, .ref yo, .ref ya, .ref yv, .ref yg, .int 0, .int 0, .int 0, .int 0, .int 0, .ref yp, .int 0, .int 0, .int 0, .ref yu, .ref yk, .int 0, .int 0, .int 0, .int 2, .int 0, .int 0, .ref yq, .int 0, .ref yt, .int 0])), (yp, .inl (ep, 8, .inl (fun _ => 0)))] := hD
    have hK : va_K (dC, dI) vwCl [(ep, .int)] s := hK
    have hw_4 := hw
    rcases hw_4 with ⟨rfl, h8, h9⟩ | ⟨rfl, h8⟩
    · refine lv_if_ne (tgt := 29) hx hb dX7_pixel_24 (by decide) (fun _ => ?_) (fun h => absurd h (by decide))
      refine lv_aload_n hx hb dX7_pixel_29 rfl (lv_at hl 0 rfl) ?_
      refine va_get (D := (dC, dI)) (ci := 7) (v := .ref yp) (C := RX7) (T := TX7) (N := 26) hx hb hts in_X7_pixel_X7 hown hK hP 0 rfl rfl 10 (by decide) (hts (.fieldLink RX7 23 "WorkspaceBoxModel" "pictures" "[I") (by decide +kernel)) (fun _ h9 => h9) rfl dX7_pixel_30 ?_
      refine lv_bipush (v := 7) hx hb dX7_pixel_33 (by decide) ?_
      refine va_iald hx hb hK hP 1 0 rfl rfl (by unfold vp_in; decide) dX7_pixel_35 ?_
      refine lv_topi (fun y_5 ey_5 => ?_)
      obtain rfl : y_5 = 0 := ey_5
      refine lv_bipush (v := 15) hx hb dX7_pixel_36 (by decide) ?_
      refine lv_iand hx hb dX7_pixel_38 ?_
      refine lv_topi (fun y_6 ey_6 => ?_)
      obtain rfl : y_6 = 0 := ey_6.trans (by decide)
      refine lv_istore_n (lv' := [(3, .int 0), (0, .ref y), (1, .int p0), (2, .int p1)]) hx hb dX7_pixel_39 rfl hl (by decide) rfl (fun ls hl => ?_)
      refine lv_aload_n hx hb dX7_pixel_40 rfl (lv_at hl 1 rfl) ?_
      refine va_get (D := (dC, dI)) (ci := 7) (v := .ref yp) (C := RX7) (T := TX7) (N := 26) hx hb hts in_X7_pixel_X7 hown hK hP 0 rfl rfl 10 (by decide) (hts (.fieldLink RX7 23 "WorkspaceBoxModel" "pictures" "[I") (by decide +kernel)) (fun _ h9 => h9) rfl dX7_pixel_41 ?_
      refine lv_iconst (v := 1) hx hb dX7_pixel_44 (by decide) ?_
      refine va_iald hx hb hK hP 1 0 rfl rfl (by unfold vp_in; decide) dX7_pixel_45 ?_
      refine lv_topi (fun y_7 ey_7 => ?_)
      obtain rfl : y_7 = 0 := ey_7
      refine lv_bipush (v := 64) hx hb dX7_pixel_46 (by decide) ?_
      refine lv_iand hx hb dX7_pixel_48 ?_
      refine lv_topi (fun y_8 ey_8 => ?_)
      obtain rfl : y_8 = 0 := ey_8.trans (by decide)
      refine lv_if_ne (tgt := 54) hx hb dX7_pixel_49 (by decide) (fun h => absurd h (by decide)) (fun _ => ?_)
      refine lv_iload_n hx hb dX7_pixel_52 rfl (lv_at hl 0 rfl) ?_
      have hP9 := hP.sub (ws' := []) [] rfl
      have hD9 := hD.sub (ws' := []) [] (by decide) rfl
      have hK9 := hK.sub (tys' := []) [] rfl
      exact W.iret (v := 0) hx hb hr (fun t ht hW => ⟨⟨0, (), rfl, by (first | decide | ((try subst_vars); (try dsimp only); (try simp only [fa_lt, fa_le, fa_eq, tI_m1, tI_0, tI_1, tI_2, tI_3, tI_4, tI_5, tI_7, tI_8, tI_10, tI_15, tI_16, tI_20, tI_31, tI_125, tI_191, tI_255, tI_256, tI_980, tI_1000, tI_4095, tI_4096, tI_8191, tI_8192, tI_16383, tI_16384, tI_32767, tI_32768, tI_33791, tI_33792, tI_40959, tI_40960, tI_65535, tI_65536] at hw_2); (try simp only [fa_lt, fa_le, fa_eq, tI_m1, tI_0, tI_1, tI_2, tI_3, tI_4, tI_5, tI_7, tI_8, tI_10, tI_15, tI_16, tI_20, tI_31, tI_125, tI_191, tI_255, tI_256, tI_980, tI_1000, tI_4095, tI_4096, tI_8191, tI_8192, tI_16383, tI_16384, tI_32767, tI_32768, tI_33791, tI_33792, tI_40959, tI_40960, tI_65535, tI_65536] at h6); (try simp only [fa_lt, fa_le, fa_eq, tI_m1, tI_0, tI_1, tI_2, tI_3, tI_4, tI_5, tI_7, tI_8, tI_10, tI_15, tI_16, tI_20, tI_31, tI_125, tI_191, tI_255, tI_256, tI_980, tI_1000, tI_4095, tI_4096, tI_8191, tI_8192, tI_16383, tI_16384, tI_32767, tI_32768, tI_33791, tI_33792, tI_40959, tI_40960, tI_65535, tI_65536] at h7); (try simp only [fa_lt, fa_le, fa_eq, tI_m1, tI_0, tI_1, tI_2, tI_3, tI_4, tI_5, tI_7, tI_8, tI_10, tI_15, tI_16, tI_20, tI_31, tI_125, tI_191, tI_255, tI_256, tI_980, tI_1000, tI_4095, tI_4096, tI_8191, tI_8192, tI_16383, tI_16384, tI_32767, tI_32768, tI_33791, tI_33792, tI_40959, tI_40960, tI_65535, tI_65536] at hw_4); (try simp only [fa_lt, fa_le, fa_eq, tI_m1, tI_0, tI_1, tI_2, tI_3, tI_4, tI_5, tI_7, tI_8, tI_10, tI_15, tI_16, tI_20, tI_31, tI_125, tI_191, tI_255, tI_256, tI_980, tI_1000, tI_4095, tI_4096, tI_8191, tI_8192, tI_16383, tI_16384, tI_32767, tI_32768, tI_33791, tI_33792, tI_40959, tI_40960, tI_65535, tI_65536] at h8); (try simp only [fa_lt, fa_le, fa_eq, tI_m1, tI_0, tI_1, tI_2, tI_3, tI_4, tI_5, tI_7, tI_8, tI_10, tI_15, tI_16, tI_20, tI_31, tI_125, tI_191, tI_255, tI_256, tI_980, tI_1000, tI_4095, tI_4096, tI_8191, tI_8192, tI_16383, tI_16384, tI_32767, tI_32768, tI_33791, tI_33792, tI_40959, tI_40960, tI_65535, tI_65536] at h9); (have k0 := tI_0); (have k1 := tI_1); (have k2 := tI_2); (have k3 := tI_3); unfold sp_pixel; (repeat' split) <;> first | rfl | omega | (simp only [fa_lt, fa_le, fa_eq, tI_m1, tI_0, tI_1, tI_2, tI_3, tI_4, tI_5, tI_7, tI_8, tI_10, tI_15, tI_16, tI_20, tI_31, tI_125, tI_191, tI_255, tI_256, tI_980, tI_1000, tI_4095, tI_4096, tI_8191, tI_8192, tI_16383, tI_16384, tI_32767, tI_32768, tI_33791, tI_33792, tI_40959, tI_40960, tI_65535, tI_65536]; omega))), by rw [ht]; exact hP9, va_K.moved hW.alike hK9, hD9⟩, hS.F ht⟩) hS.2.2 dX7_pixel_53
    · refine lv_if_ne (tgt := 29) hx hb dX7_pixel_24 (by decide) (fun h => absurd h (by decide)) (fun _ => ?_)
      refine lv_iconst (v := (-1)) hx hb dX7_pixel_27 (by decide) ?_
      have hP9 := hP.sub (ws' := []) [] rfl
      have hD9 := hD.sub (ws' := []) [] (by decide) rfl
      have hK9 := hK.sub (tys' := []) [] rfl
      exact W.iret (v := (-1)) hx hb hr (fun t ht hW => ⟨⟨(-1), (), rfl, by (first | decide | ((try subst_vars); (try dsimp only); (try simp only [fa_lt, fa_le, fa_eq, tI_m1, tI_0, tI_1, tI_2, tI_3, tI_4, tI_5, tI_7, tI_8, tI_10, tI_15, tI_16, tI_20, tI_31, tI_125, tI_191, tI_255, tI_256, tI_980, tI_1000, tI_4095, tI_4096, tI_8191, tI_8192, tI_16383, tI_16384, tI_32767, tI_32768, tI_33791, tI_33792, tI_40959, tI_40960, tI_65535, tI_65536] at hw_2); (try simp only [fa_lt, fa_le, fa_eq, tI_m1, tI_0, tI_1, tI_2, tI_3, tI_4, tI_5, tI_7, tI_8, tI_10, tI_15, tI_16, tI_20, tI_31, tI_125, tI_191, tI_255, tI_256, tI_980, tI_1000, tI_4095, tI_4096, tI_8191, tI_8192, tI_16383, tI_16384, tI_32767, tI_32768, tI_33791, tI_33792, tI_40959, tI_40960, tI_65535, tI_65536] at h6); (try simp only [fa_lt, fa_le, fa_eq, tI_m1, tI_0, tI_1, tI_2, tI_3, tI_4, tI_5, tI_7, tI_8, tI_10, tI_15, tI_16, tI_20, tI_31, tI_125, tI_191, tI_255, tI_256, tI_980, tI_1000, tI_4095, tI_4096, tI_8191, tI_8192, tI_16383, tI_16384, tI_32767, tI_32768, tI_33791, tI_33792, tI_40959, tI_40960, tI_65535, tI_65536] at h7); (try simp only [fa_lt, fa_le, fa_eq, tI_m1, tI_0, tI_1, tI_2, tI_3, tI_4, tI_5, tI_7, tI_8, tI_10, tI_15, tI_16, tI_20, tI_31, tI_125, tI_191, tI_255, tI_256, tI_980, tI_1000, tI_4095, tI_4096, tI_8191, tI_8192, tI_16383, tI_16384, tI_32767, tI_32768, tI_33791, tI_33792, tI_40959, tI_40960, tI_65535, tI_65536] at hw_4); (try simp only [fa_lt, fa_le, fa_eq, tI_m1, tI_0, tI_1, tI_2, tI_3, tI_4, tI_5, tI_7, tI_8, tI_10, tI_15, tI_16, tI_20, tI_31, tI_125, tI_191, tI_255, tI_256, tI_980, tI_1000, tI_4095, tI_4096, tI_8191, tI_8192, tI_16383, tI_16384, tI_32767, tI_32768, tI_33791, tI_33792, tI_40959, tI_40960, tI_65535, tI_65536] at h8); (have k0 := tI_0); (have k1 := tI_1); (have k2 := tI_2); (have k3 := tI_3); unfold sp_pixel; (repeat' split) <;> first | rfl | omega | (simp only [fa_lt, fa_le, fa_eq, tI_m1, tI_0, tI_1, tI_2, tI_3, tI_4, tI_5, tI_7, tI_8, tI_10, tI_15, tI_16, tI_20, tI_31, tI_125, tI_191, tI_255, tI_256, tI_980, tI_1000, tI_4095, tI_4096, tI_8191, tI_8192, tI_16383, tI_16384, tI_32767, tI_32768, tI_33791, tI_33792, tI_40959, tI_40960, tI_65535, tI_65536]; omega))), by rw [ht]; exact hP9, va_K.moved hW.alike hK9, hD9⟩, hS.F ht⟩) hS.2.2 dX7_pixel_28
  · refine lv_if_eq (tgt := 27) hx hb dX7_pixel_13 (by decide) (fun _ => ?_) (fun h => absurd (by decide) h)
    refine lv_iconst (v := (-1)) hx hb dX7_pixel_27 (by decide) ?_
    have hP9 := hP.sub (ws' := []) [] rfl
    have hD9 := hD.sub (ws' := []) [] (by decide) rfl
    have hK9 := hK.sub (tys' := []) [] rfl
    exact W.iret (v := (-1)) hx hb hr (fun t ht hW => ⟨⟨(-1), (), rfl, by (first | decide | ((try subst_vars); (try dsimp only); (try simp only [fa_lt, fa_le, fa_eq, tI_m1, tI_0, tI_1, tI_2, tI_3, tI_4, tI_5, tI_7, tI_8, tI_10, tI_15, tI_16, tI_20, tI_31, tI_125, tI_191, tI_255, tI_256, tI_980, tI_1000, tI_4095, tI_4096, tI_8191, tI_8192, tI_16383, tI_16384, tI_32767, tI_32768, tI_33791, tI_33792, tI_40959, tI_40960, tI_65535, tI_65536] at hw_2); (try simp only [fa_lt, fa_le, fa_eq, tI_m1, tI_0, tI_1, tI_2, tI_3, tI_4, tI_5, tI_7, tI_8, tI_10, tI_15, tI_16, tI_20, tI_31, tI_125, tI_191, tI_255, tI_256, tI_980, tI_1000, tI_4095, tI_4096, tI_8191, tI_8192, tI_16383, tI_16384, tI_32767, tI_32768, tI_33791, tI_33792, tI_40959, tI_40960, tI_65535, tI_65536] at h6); (have k0 := tI_0); (have k1 := tI_1); (have k2 := tI_2); (have k3 := tI_3); unfold sp_pixel; (repeat' split) <;> first | rfl | omega | (simp only [fa_lt, fa_le, fa_eq, tI_m1, tI_0, tI_1, tI_2, tI_3, tI_4, tI_5, tI_7, tI_8, tI_10, tI_15, tI_16, tI_20, tI_31, tI_125, tI_191, tI_255, tI_256, tI_980, tI_1000, tI_4095, tI_4096, tI_8191, tI_8192, tI_16383, tI_16384, tI_32767, tI_32768, tI_33791, tI_33792, tI_40959, tI_40960, tI_65535, tI_65536]; omega))), by rw [ht]; exact hP9, va_K.moved hW.alike hK9, hD9⟩, hS.F ht⟩) hS.2.2 dX7_pixel_28

theorem in_X7_vram_X7 : ∀ w ∈ wsX70, w ∈ wsX7_vram := by decide +kernel
set_option maxHeartbeats 1000000 in
set_option maxRecDepth 100000 in
theorem m_vram (l : Launch) (dC : Nat → ClassId) (dI : Nat → Nat → Nat) (y yo ya yv yg yp yu yk yq yt : Nat) (eo ea ev eg ep eu ek eq et : ClassId) (p0 : Int32) (sz : Nat)  : Met l yX7_vram wsX7_vram ({ frames := 1, cells := 0, slots := 0, locals := 22 }) (va_Pc [.ref y, .int p0] (fun U => U.heap.size = sz ∧ va_P (dC, dI) vwCl [(y, .inr (7, [.int 0, .ref yo, .ref ya, .ref yv, .ref yg, .int 0, .int 0, .int 0, .int 0, .int 0, .ref yp, .int 0, .int 0, .int 0, .ref yu, .ref yk, .int 0, .int 0, .int 0, .int 2, .int 0, .int 0, .ref yq, .int 0, .ref yt, .int 0])), (yv, .inl (ev, 16384, .inl (fun _ => 0)))] U.heap ∧ va_K (dC, dI) vwCl [(ev, .byte)] U ∧ va_D (fun _ => True) [(y, .inr (7, [.int 0, .ref yo, .ref ya, .ref yv, .ref yg, .int 0, .int 0, .int 0, .int 0, .int 0, .ref yp, .int 0, .int 0, .int 0, .ref yu, .ref yk, .int 0, .int 0, .int 0, .int 2, .int 0, .int 0, .ref yq, .int 0, .ref yt, .int 0])), (yv, .inl (ev, 16384, .inl (fun _ => 0)))])) (va_Qi (fun (r : Int32) (u : Int32) => r = 0 ∧ u = sp_thr 16383 p0) (fun (u : Int32) (t : State) => va_P (dC, dI) vwCl [(y, .inr (7, [.int u, .ref yo, .ref ya, .ref yv, .ref yg, .int 0, .int 0, .int 0, .int 0, .int 0, .ref yp, .int 0, .int 0, .int 0, .ref yu, .ref yk, .int 0, .int 0, .int 0, .int 2, .int 0, .int 0, .ref yq, .int 0, .ref yt, .int 0]))] t.heap ∧ va_K (dC, dI) vwCl [] t ∧ va_D (va_A [(y, .inr (7, [.int 0, .ref yo, .ref ya, .ref yv, .ref yg, .int 0, .int 0, .int 0, .int 0, .int 0, .ref yp, .int 0, .int 0, .int 0, .ref yu, .ref yk, .int 0, .int 0, .int 0, .int 2, .int 0, .int 0, .ref yq, .int 0, .ref yt, .int 0])), (yv, .inl (ev, 16384, .inl (fun _ => 0)))] sz) [(y, .inr (7, [.int u, .ref yo, .ref ya, .ref yv, .ref yg, .int 0, .int 0, .int 0, .int 0, .int 0, .ref yp, .int 0, .int 0, .int 0, .ref yu, .ref yk, .int 0, .int 0, .int 0, .int 2, .int 0, .int 0, .ref yq, .int 0, .ref yt, .int 0]))]) (va_A [(y, .inr (7, [.int 0, .ref yo, .ref ya, .ref yv, .ref yg, .int 0, .int 0, .int 0, .int 0, .int 0, .ref yp, .int 0, .int 0, .int 0, .ref yu, .ref yk, .int 0, .int 0, .int 0, .int 2, .int 0, .int 0, .ref yq, .int 0, .ref yt, .int 0])), (yv, .inl (ev, 16384, .inl (fun _ => 0)))] sz)) 0 0 (va_A [(y, .inr (7, [.int 0, .ref yo, .ref ya, .ref yv, .ref yg, .int 0, .int 0, .int 0, .int 0, .int 0, .ref yp, .int 0, .int 0, .int 0, .ref yu, .ref yk, .int 0, .int 0, .int 0, .int 2, .int 0, .int 0, .ref yq, .int 0, .ref yt, .int 0])), (yv, .inl (ev, 16384, .inl (fun _ => 0)))] sz) := by
  refine Met.ofW (cc := cX7_vram) (maxL := 2) (ret := (some .int)) (by decide) rfl ?_
  intro p e s m args below meth c s₁ B hml hv
  obtain ⟨rfl, hsz, hP, hK, hD0⟩ := hv
  have hx := B.exec
  have hb := B.bytes
  have hr := B.returns
  have hts := atoms_spec (ws := wsX7_vram) B.pre
  have hown : s.vm.findClass RX7 = some m.cls := findClass_of_methodNamed B.named
  have hlocks := B.notSynchronized
  subst hsz
  have hD := hD0.self (sz := s.heap.size)
  generalize hAe : va_A [(y, .inr (7, [.int 0, .ref yo, .ref ya, .ref yv, .ref yg, .int 0, .int 0, .int 0, .int 0, .int 0, .ref yp, .int 0, .int 0, .int 0, .ref yu, .ref yk, .int 0, .int 0, .int 0, .int 2, .int 0, .int 0, .ref yq, .int 0, .ref yt, .int 0])), (yv, .inl (ev, 16384, .inl (fun _ => 0)))] s.heap.size = A at hD ⊢
  have hA : ∀ q : Nat, s.heap.size ≤ q → A q := fun q h => by rw [← hAe]; exact Or.inr h
  have hS : va_S A s.heap s.heap [] := va_S.rf
  have hP : va_P (dC, dI) vwCl [(y, .inr (7, [.int 0, .ref yo, .ref ya, .ref yv, .ref yg, .int 0, .int 0, .int 0, .int 0, .int 0, .ref yp, .int 0, .int 0, .int 0, .ref yu, .ref yk, .int 0, .int 0, .int 0, .int 2, .int 0, .int 0, .ref yq, .int 0, .ref yt, .int 0])), (yv, .inl (ev, 16384, .inl (fun _ => 0)))] s.heap := hP
  have hl := lv_entry ([.ref y, .int p0]) (n := 2) (Nat.le_of_ble_eq_true rfl)
  rw [lg_entry_eq]
  generalize (lg_sl ([.ref y, .int p0]) ++ List.replicate (2 - (lg_sl ([.ref y, .int p0])).length) Slot.unset).toArray = ls at hl ⊢
  have hl : lv_has ls 2 [(0, .ref y), (1, .int p0)] := hl
  refine lv_aload_n hx hb dX7_vram_0 rfl (lv_at hl 0 rfl) ?_
  refine lv_iload_n hx hb dX7_vram_1 rfl (lv_at hl 1 rfl) ?_
  refine lv_iconst (v := 0) hx hb dX7_vram_2 (by decide) ?_
  refine lv_sipush (v := 16383) hx hb dX7_vram_3 (by decide) ?_
  have hPc := hP.sub (ws' := []) [] rfl
  have hDc := hD.sub (ws' := []) [] (by decide) rfl
  have hKc := hK.sub (tys' := []) [] rfl
  have hFc := va_free (wc := []) hD hS hA [] rfl
  refine va_calli (va_runS (As := [.int p0, .int 0, .int 16383]) (rest := [.ref y]) ⟨hx, hb, hml, hown, hts⟩ (m_in l dC dI y yo ya yv yg yp yu yk yq yt eo ea ev eg ep eu ek eq et p0 0 16383 s.heap.size) (va_cwS 3 hts gX7_vram_X7_in rfl rfl rfl (by decide +kernel) ⟨Nat.le_of_ble_eq_true rfl, Nat.le_of_ble_eq_true rfl⟩) ⟨fun a U g mk q => by obtain ⟨q0, q1, qP, qK, qD⟩ := q; exact ⟨q0, q1, qP, va_K.moved (u := U) (U := U.calling g mk a) (Vm.Alike.refl U.vm) qK, qD⟩, fun U hU hW => ⟨rfl, by rw [hU], by rw [hU]; exact hPc, va_K.moved hW.alike hKc, hDc.weaken (fun _ _ _ _ => trivial)⟩⟩ rfl rfl hl.1 rfl (lv_room (Nat.le_of_ble_eq_true rfl)) dX7_vram_6 ⟨Nat.le_of_ble_eq_true rfl, Nat.le_of_ble_eq_true rfl⟩) hS (fun q _ h => hFc q h) hFc (fun r_1 u t H1 locs ht hvm hw hB hz1 hk1 hS => ?_)
  obtain ⟨hP1, hK1, hD1⟩ := hB
  rw [ht] at hP1
  have hK1 := va_K.moved hvm.symm hK1
  try dsimp only at hw
  obtain ⟨hP, hD⟩ := va_join (wr := [(y, .inr (7, [.int 0, .ref yo, .ref ya, .ref yv, .ref yg, .int 0, .int 0, .int 0, .int 0, .int 0, .ref yp, .int 0, .int 0, .int 0, .ref yu, .ref yk, .int 0, .int 0, .int 0, .int 2, .int 0, .int 0, .ref yq, .int 0, .ref yt, .int 0])), (yv, .inl (ev, 16384, .inl (fun _ => 0)))]) (w1 := []) hP hD [] [0, 1] rfl rfl (by decide) (by decide) hk1 hFc hP1 hD1
  have hK := (hK.sub (tys' := [(ev, .byte)]) [0] rfl).app hK1
  generalize H1 = H at hP hS ⊢
  have hP : va_P (dC, dI) vwCl [(y, .inr (7, [.int 0, .ref yo, .ref ya, .ref yv, .ref yg, .int 0, .int 0, .int 0, .int 0, .int 0, .ref yp, .int 0, .int 0, .int 0, .ref yu, .ref yk, .int 0, .int 0, .int 0, .int 2, .int 0, .int 0, .ref yq, .int 0, .ref yt, .int 0])), (yv, .inl (ev, 16384, .inl (fun _ => 0)))] H := hP
  have hD : va_D A [(y, .inr (7, [.int 0, .ref yo, .ref ya, .ref yv, .ref yg, .int 0, .int 0, .int 0, .int 0, .int 0, .ref yp, .int 0, .int 0, .int 0, .ref yu, .ref yk, .int 0, .int 0, .int 0, .int 2, .int 0, .int 0, .ref yq, .int 0, .ref yt, .int 0])), (yv, .inl (ev, 16384, .inl (fun _ => 0)))] := hD
  have hK : va_K (dC, dI) vwCl [(ev, .byte)] s := hK
  have hw_2 := hw
  rcases hw_2 with ⟨rfl, h8, h9⟩ | ⟨rfl, h8⟩
  · refine lv_if_eq (tgt := 16) hx hb dX7_vram_9 (by decide) (fun h => absurd h (by decide)) (fun _ => ?_)
    refine lv_iconst (v := 0) hx hb dX7_vram_12 (by decide) ?_
    refine lv_goto (tgt := 17) hx hb dX7_vram_13 (by decide) ?_
    refine va_put (D := (dC, dI)) (ci := 7) (v := .int 0) (ty := .int) (C := RX7) (T := TX7) (N := 26) hx hb hts in_X7_vram_X7 tyX7 tyX7_ok nmX7 hown hK hP hD hS 0 rfl rfl 0 (by decide) (hts (.fieldLink RX7 44 "WorkspaceBoxModel" "thrown" "I") (by decide +kernel)) (fun _ h9 => h9) rfl (by decide +kernel) rfl rfl (Nat.le_of_ble_eq_true rfl) dX7_vram_17 (fun H locs hP hD hS => ?_)
    have hP : va_P (dC, dI) vwCl [(y, .inr (7, [.int 0, .ref yo, .ref ya, .ref yv, .ref yg, .int 0, .int 0, .int 0, .int 0, .int 0, .ref yp, .int 0, .int 0, .int 0, .ref yu, .ref yk, .int 0, .int 0, .int 0, .int 2, .int 0, .int 0, .ref yq, .int 0, .ref yt, .int 0])), (yv, .inl (ev, 16384, .inl (fun _ => 0)))] H := hP
    have hD : va_D A [(y, .inr (7, [.int 0, .ref yo, .ref ya, .ref yv, .ref yg, .int 0, .int 0, .int 0, .int 0, .int 0, .ref yp, .int 0, .int 0, .int 0, .ref yu, .ref yk, .int 0, .int 0, .int 0, .int 2, .int 0, .int 0, .ref yq, .int 0, .ref yt, .int 0])), (yv, .inl (ev, 16384, .inl (fun _ => 0)))] := hD
    refine lv_aload_n hx hb dX7_vram_20 rfl (lv_at hl 0 rfl) ?_
    refine va_get (D := (dC, dI)) (ci := 7) (v := .int 0) (C := RX7) (T := TX7) (N := 26) hx hb hts in_X7_vram_X7 hown hK hP 0 rfl rfl 0 (by decide) (hts (.fieldLink RX7 44 "WorkspaceBoxModel" "thrown" "I") (by decide +kernel)) (fun _ h9 => h9) rfl dX7_vram_21 ?_
    refine lv_if_le (tgt := 31) hx hb dX7_vram_24 (by decide) (fun _ => ?_) (fun h => absurd (by decide) h)
    refine lv_aload_n hx hb dX7_vram_31 rfl (lv_at hl 0 rfl) ?_
    refine va_get (D := (dC, dI)) (ci := 7) (v := .ref yv) (C := RX7) (T := TX7) (N := 26) hx hb hts in_X7_vram_X7 hown hK hP 0 rfl rfl 3 (by decide) (hts (.fieldLink RX7 17 "WorkspaceBoxModel" "vram" "[B") (by decide +kernel)) (fun _ h9 => h9) rfl dX7_vram_32 ?_
    refine lv_iload_n hx hb dX7_vram_35 rfl (lv_at hl 1 rfl) ?_
    refine va_bald hx hb hK hP 1 0 rfl rfl (vp_in_iff.mpr (by (try simp only [fa_lt, fa_le, fa_eq, tI_m1, tI_0, tI_1, tI_2, tI_3, tI_4, tI_5, tI_7, tI_8, tI_10, tI_15, tI_16, tI_20, tI_31, tI_125, tI_191, tI_255, tI_256, tI_980, tI_1000, tI_2000, tI_4095, tI_4096, tI_8191, tI_8192, tI_16383, tI_16384, tI_32767, tI_32768, tI_33791, tI_33792, tI_40959, tI_40960, tI_65535, tI_65536] at hw_2); (try simp only [fa_lt, fa_le, fa_eq, tI_m1, tI_0, tI_1, tI_2, tI_3, tI_4, tI_5, tI_7, tI_8, tI_10, tI_15, tI_16, tI_20, tI_31, tI_125, tI_191, tI_255, tI_256, tI_980, tI_1000, tI_2000, tI_4095, tI_4096, tI_8191, tI_8192, tI_16383, tI_16384, tI_32767, tI_32768, tI_33791, tI_33792, tI_40959, tI_40960, tI_65535, tI_65536] at h8); (try simp only [fa_lt, fa_le, fa_eq, tI_m1, tI_0, tI_1, tI_2, tI_3, tI_4, tI_5, tI_7, tI_8, tI_10, tI_15, tI_16, tI_20, tI_31, tI_125, tI_191, tI_255, tI_256, tI_980, tI_1000, tI_2000, tI_4095, tI_4096, tI_8191, tI_8192, tI_16383, tI_16384, tI_32767, tI_32768, tI_33791, tI_33792, tI_40959, tI_40960, tI_65535, tI_65536] at h9); (try simp only [fa_lt, fa_le, fa_eq, tI_m1, tI_0, tI_1, tI_2, tI_3, tI_4, tI_5, tI_7, tI_8, tI_10, tI_15, tI_16, tI_20, tI_31, tI_125, tI_191, tI_255, tI_256, tI_980, tI_1000, tI_2000, tI_4095, tI_4096, tI_8191, tI_8192, tI_16383, tI_16384, tI_32767, tI_32768, tI_33791, tI_33792, tI_40959, tI_40960, tI_65535, tI_65536]); omega)) dX7_vram_36 ?_
    refine lv_topi (fun y_3 ey_3 => ?_)
    obtain rfl : y_3 = 0 := ey_3
    refine lv_sipush (v := 255) hx hb dX7_vram_37 (by decide) ?_
    refine lv_iand hx hb dX7_vram_40 ?_
    refine lv_topi (fun y_4 ey_4 => ?_)
    obtain rfl : y_4 = 0 := ey_4.trans (by decide)
    have hP9 := hP.sub (ws' := [(y, .inr (7, [.int 0, .ref yo, .ref ya, .ref yv, .ref yg, .int 0, .int 0, .int 0, .int 0, .int 0, .ref yp, .int 0, .int 0, .int 0, .ref yu, .ref yk, .int 0, .int 0, .int 0, .int 2, .int 0, .int 0, .ref yq, .int 0, .ref yt, .int 0]))]) [0] rfl
    have hD9 := hD.sub (ws' := [(y, .inr (7, [.int 0, .ref yo, .ref ya, .ref yv, .ref yg, .int 0, .int 0, .int 0, .int 0, .int 0, .ref yp, .int 0, .int 0, .int 0, .ref yu, .ref yk, .int 0, .int 0, .int 0, .int 2, .int 0, .int 0, .ref yq, .int 0, .ref yt, .int 0]))]) [0] (by decide) rfl
    have hK9 := hK.sub (tys' := []) [] rfl
    exact W.iret (v := 0) hx hb hr (fun t ht hW => ⟨⟨0, 0, rfl, ⟨rfl, by ((try simp only [fa_lt, fa_le, fa_eq, tI_m1, tI_0, tI_1, tI_2, tI_3, tI_4, tI_5, tI_7, tI_8, tI_10, tI_15, tI_16, tI_20, tI_31, tI_125, tI_191, tI_255, tI_256, tI_980, tI_1000, tI_2000, tI_4095, tI_4096, tI_8191, tI_8192, tI_16383, tI_16384, tI_32767, tI_32768, tI_33791, tI_33792, tI_40959, tI_40960, tI_65535, tI_65536] at hw_2); (try simp only [fa_lt, fa_le, fa_eq, tI_m1, tI_0, tI_1, tI_2, tI_3, tI_4, tI_5, tI_7, tI_8, tI_10, tI_15, tI_16, tI_20, tI_31, tI_125, tI_191, tI_255, tI_256, tI_980, tI_1000, tI_2000, tI_4095, tI_4096, tI_8191, tI_8192, tI_16383, tI_16384, tI_32767, tI_32768, tI_33791, tI_33792, tI_40959, tI_40960, tI_65535, tI_65536] at h8); (try simp only [fa_lt, fa_le, fa_eq, tI_m1, tI_0, tI_1, tI_2, tI_3, tI_4, tI_5, tI_7, tI_8, tI_10, tI_15, tI_16, tI_20, tI_31, tI_125, tI_191, tI_255, tI_256, tI_980, tI_1000, tI_2000, tI_4095, tI_4096, tI_8191, tI_8192, tI_16383, tI_16384, tI_32767, tI_32768, tI_33791, tI_33792, tI_40959, tI_40960, tI_65535, tI_65536] at h9); unfold sp_thr; (repeat' split) <;> first | rfl | omega)⟩, by rw [ht]; exact hP9, va_K.moved hW.alike hK9, hD9⟩, hS.F ht⟩) hS.2.2 dX7_vram_41
  · refine lv_if_eq (tgt := 16) hx hb dX7_vram_9 (by decide) (fun _ => ?_) (fun h => absurd (by decide) h)
    refine lv_iconst (v := 1) hx hb dX7_vram_16 (by decide) ?_
    refine va_put (D := (dC, dI)) (ci := 7) (v := .int 1) (ty := .int) (C := RX7) (T := TX7) (N := 26) hx hb hts in_X7_vram_X7 tyX7 tyX7_ok nmX7 hown hK hP hD hS 0 rfl rfl 0 (by decide) (hts (.fieldLink RX7 44 "WorkspaceBoxModel" "thrown" "I") (by decide +kernel)) (fun _ h9 => h9) rfl (by decide +kernel) rfl rfl (Nat.le_of_ble_eq_true rfl) dX7_vram_17 (fun H locs hP hD hS => ?_)
    have hP : va_P (dC, dI) vwCl [(y, .inr (7, [.int 1, .ref yo, .ref ya, .ref yv, .ref yg, .int 0, .int 0, .int 0, .int 0, .int 0, .ref yp, .int 0, .int 0, .int 0, .ref yu, .ref yk, .int 0, .int 0, .int 0, .int 2, .int 0, .int 0, .ref yq, .int 0, .ref yt, .int 0])), (yv, .inl (ev, 16384, .inl (fun _ => 0)))] H := hP
    have hD : va_D A [(y, .inr (7, [.int 1, .ref yo, .ref ya, .ref yv, .ref yg, .int 0, .int 0, .int 0, .int 0, .int 0, .ref yp, .int 0, .int 0, .int 0, .ref yu, .ref yk, .int 0, .int 0, .int 0, .int 2, .int 0, .int 0, .ref yq, .int 0, .ref yt, .int 0])), (yv, .inl (ev, 16384, .inl (fun _ => 0)))] := hD
    refine lv_aload_n hx hb dX7_vram_20 rfl (lv_at hl 0 rfl) ?_
    refine va_get (D := (dC, dI)) (ci := 7) (v := .int 1) (C := RX7) (T := TX7) (N := 26) hx hb hts in_X7_vram_X7 hown hK hP 0 rfl rfl 0 (by decide) (hts (.fieldLink RX7 44 "WorkspaceBoxModel" "thrown" "I") (by decide +kernel)) (fun _ h9 => h9) rfl dX7_vram_21 ?_
    refine lv_if_le (tgt := 31) hx hb dX7_vram_24 (by decide) (fun h => absurd h (by decide)) (fun _ => ?_)
    refine lv_iconst (v := 0) hx hb dX7_vram_27 (by decide) ?_
    refine lv_goto (tgt := 41) hx hb dX7_vram_28 (by decide) ?_
    have hP9 := hP.sub (ws' := [(y, .inr (7, [.int 1, .ref yo, .ref ya, .ref yv, .ref yg, .int 0, .int 0, .int 0, .int 0, .int 0, .ref yp, .int 0, .int 0, .int 0, .ref yu, .ref yk, .int 0, .int 0, .int 0, .int 2, .int 0, .int 0, .ref yq, .int 0, .ref yt, .int 0]))]) [0] rfl
    have hD9 := hD.sub (ws' := [(y, .inr (7, [.int 1, .ref yo, .ref ya, .ref yv, .ref yg, .int 0, .int 0, .int 0, .int 0, .int 0, .ref yp, .int 0, .int 0, .int 0, .ref yu, .ref yk, .int 0, .int 0, .int 0, .int 2, .int 0, .int 0, .ref yq, .int 0, .ref yt, .int 0]))]) [0] (by decide) rfl
    have hK9 := hK.sub (tys' := []) [] rfl
    exact W.iret (v := 0) hx hb hr (fun t ht hW => ⟨⟨0, 1, rfl, ⟨rfl, by ((try simp only [fa_lt, fa_le, fa_eq, tI_m1, tI_0, tI_1, tI_2, tI_3, tI_4, tI_5, tI_7, tI_8, tI_10, tI_15, tI_16, tI_20, tI_31, tI_125, tI_191, tI_255, tI_256, tI_980, tI_1000, tI_2000, tI_4095, tI_4096, tI_8191, tI_8192, tI_16383, tI_16384, tI_32767, tI_32768, tI_33791, tI_33792, tI_40959, tI_40960, tI_65535, tI_65536] at hw_2); (try simp only [fa_lt, fa_le, fa_eq, tI_m1, tI_0, tI_1, tI_2, tI_3, tI_4, tI_5, tI_7, tI_8, tI_10, tI_15, tI_16, tI_20, tI_31, tI_125, tI_191, tI_255, tI_256, tI_980, tI_1000, tI_2000, tI_4095, tI_4096, tI_8191, tI_8192, tI_16383, tI_16384, tI_32767, tI_32768, tI_33791, tI_33792, tI_40959, tI_40960, tI_65535, tI_65536] at h8); unfold sp_thr; (repeat' split) <;> first | rfl | omega)⟩, by rw [ht]; exact hP9, va_K.moved hW.alike hK9, hD9⟩, hS.F ht⟩) hS.2.2 dX7_vram_41

theorem in_X7_thrown_X7 : ∀ w ∈ wsX70, w ∈ wsX7_thrown := by decide +kernel
set_option maxHeartbeats 1000000 in
set_option maxRecDepth 100000 in
theorem m_thrown (l : Launch) (dC : Nat → ClassId) (dI : Nat → Nat → Nat) (y yo ya yv yg yp yu yk yq yt : Nat) (eo ea ev eg ep eu ek eq et : ClassId) (tv : Int32) (sz : Nat)  : Met l yX7_thrown wsX7_thrown ({ frames := 0, cells := 0, slots := 0, locals := 0 }) (va_Pc [.ref y] (fun U => U.heap.size = sz ∧ va_P (dC, dI) vwCl [(y, .inr (7, [.int tv, .ref yo, .ref ya, .ref yv, .ref yg, .int 0, .int 0, .int 0, .int 0, .int 0, .ref yp, .int 0, .int 0, .int 0, .ref yu, .ref yk, .int 0, .int 0, .int 0, .int 2, .int 0, .int 0, .ref yq, .int 0, .ref yt, .int 0]))] U.heap ∧ va_K (dC, dI) vwCl [] U ∧ va_D (fun _ => True) [(y, .inr (7, [.int tv, .ref yo, .ref ya, .ref yv, .ref yg, .int 0, .int 0, .int 0, .int 0, .int 0, .ref yp, .int 0, .int 0, .int 0, .ref yu, .ref yk, .int 0, .int 0, .int 0, .int 2, .int 0, .int 0, .ref yq, .int 0, .ref yt, .int 0]))])) (va_Qi (fun (r : Int32) (_ : Unit) => r = tv) (fun (u : Unit) (t : State) => va_P (dC, dI) vwCl [] t.heap ∧ va_K (dC, dI) vwCl [] t ∧ va_D (va_A [(y, .inr (7, [.int tv, .ref yo, .ref ya, .ref yv, .ref yg, .int 0, .int 0, .int 0, .int 0, .int 0, .ref yp, .int 0, .int 0, .int 0, .ref yu, .ref yk, .int 0, .int 0, .int 0, .int 2, .int 0, .int 0, .ref yq, .int 0, .ref yt, .int 0]))] sz) []) (va_A [(y, .inr (7, [.int tv, .ref yo, .ref ya, .ref yv, .ref yg, .int 0, .int 0, .int 0, .int 0, .int 0, .ref yp, .int 0, .int 0, .int 0, .ref yu, .ref yk, .int 0, .int 0, .int 0, .int 2, .int 0, .int 0, .ref yq, .int 0, .ref yt, .int 0]))] sz)) 0 0 (va_A [(y, .inr (7, [.int tv, .ref yo, .ref ya, .ref yv, .ref yg, .int 0, .int 0, .int 0, .int 0, .int 0, .ref yp, .int 0, .int 0, .int 0, .ref yu, .ref yk, .int 0, .int 0, .int 0, .int 2, .int 0, .int 0, .ref yq, .int 0, .ref yt, .int 0]))] sz) := by
  refine Met.ofW (cc := cX7_thrown) (maxL := 1) (ret := (some .int)) (by decide) rfl ?_
  intro p e s m args below meth c s₁ B hml hv
  obtain ⟨rfl, hsz, hP, hK, hD0⟩ := hv
  have hx := B.exec
  have hb := B.bytes
  have hr := B.returns
  have hts := atoms_spec (ws := wsX7_thrown) B.pre
  have hown : s.vm.findClass RX7 = some m.cls := findClass_of_methodNamed B.named
  have hlocks := B.notSynchronized
  subst hsz
  have hD := hD0.self (sz := s.heap.size)
  generalize hAe : va_A [(y, .inr (7, [.int tv, .ref yo, .ref ya, .ref yv, .ref yg, .int 0, .int 0, .int 0, .int 0, .int 0, .ref yp, .int 0, .int 0, .int 0, .ref yu, .ref yk, .int 0, .int 0, .int 0, .int 2, .int 0, .int 0, .ref yq, .int 0, .ref yt, .int 0]))] s.heap.size = A at hD ⊢
  have hA : ∀ q : Nat, s.heap.size ≤ q → A q := fun q h => by rw [← hAe]; exact Or.inr h
  have hS : va_S A s.heap s.heap [] := va_S.rf
  have hP : va_P (dC, dI) vwCl [(y, .inr (7, [.int tv, .ref yo, .ref ya, .ref yv, .ref yg, .int 0, .int 0, .int 0, .int 0, .int 0, .ref yp, .int 0, .int 0, .int 0, .ref yu, .ref yk, .int 0, .int 0, .int 0, .int 2, .int 0, .int 0, .ref yq, .int 0, .ref yt, .int 0]))] s.heap := hP
  have hl := lv_entry ([.ref y]) (n := 1) (Nat.le_of_ble_eq_true rfl)
  rw [lg_entry_eq]
  generalize (lg_sl ([.ref y]) ++ List.replicate (1 - (lg_sl ([.ref y])).length) Slot.unset).toArray = ls at hl ⊢
  have hl : lv_has ls 1 [(0, .ref y)] := hl
  refine lv_aload_n hx hb dX7_thrown_0 rfl (lv_at hl 0 rfl) ?_
  refine va_get (D := (dC, dI)) (ci := 7) (v := .int tv) (C := RX7) (T := TX7) (N := 26) hx hb hts in_X7_thrown_X7 hown hK hP 0 rfl rfl 0 (by decide) (hts (.fieldLink RX7 44 "WorkspaceBoxModel" "thrown" "I") (by decide +kernel)) (fun _ h9 => h9) rfl dX7_thrown_1 ?_
  have hP9 := hP.sub (ws' := []) [] rfl
  have hD9 := hD.sub (ws' := []) [] (by decide) rfl
  have hK9 := hK.sub (tys' := []) [] rfl
  exact W.iret (v := tv) hx hb hr (fun t ht hW => ⟨⟨tv, (), rfl, rfl, by rw [ht]; exact hP9, va_K.moved hW.alike hK9, hD9⟩, hS.F ht⟩) hS.2.2 dX7_thrown_4

