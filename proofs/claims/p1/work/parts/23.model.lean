theorem in_X7_peek_X7 : ∀ w ∈ wsX70, w ∈ wsX7_peek := by decide +kernel
set_option maxHeartbeats 1000000 in
set_option maxRecDepth 100000 in
theorem m_peek (l : Launch) (dC : Nat → ClassId) (dI : Nat → Nat → Nat) (y yo ya yv yg yp yu yk yq yt : Nat) (eo ea ev eg ep eu ek eq et : ClassId) (p0 : Int32) (sz : Nat)  : Met l yX7_peek wsX7_peek ({ frames := 2, cells := 0, slots := 0, locals := 43 }) (va_Pc [.ref y, .int p0] (fun U => U.heap.size = sz ∧ va_P (dC, dI) vwCl [(y, .inr (7, [.int 0, .ref yo, .ref ya, .ref yv, .ref yg, .int 0, .int 0, .int 0, .int 0, .int 0, .ref yp, .int 0, .int 0, .int 0, .ref yu, .ref yk, .int 0, .int 0, .int 0, .int 2, .int 0, .int 0, .ref yq, .int 0, .ref yt, .int 0])), (yo, .inl (eo, 8192, .inl (fun _ => 0))), (ya, .inl (ea, 65536, .inl (fun _ => 0)))] U.heap ∧ va_K (dC, dI) vwCl [(eo, .byte), (ea, .byte)] U ∧ va_D (fun _ => True) [(y, .inr (7, [.int 0, .ref yo, .ref ya, .ref yv, .ref yg, .int 0, .int 0, .int 0, .int 0, .int 0, .ref yp, .int 0, .int 0, .int 0, .ref yu, .ref yk, .int 0, .int 0, .int 0, .int 2, .int 0, .int 0, .ref yq, .int 0, .ref yt, .int 0])), (yo, .inl (eo, 8192, .inl (fun _ => 0))), (ya, .inl (ea, 65536, .inl (fun _ => 0)))])) (va_Qi (fun (r : Int32) (_ : Unit) => r = sp_peek p0) (fun (u : Unit) (t : State) => va_P (dC, dI) vwCl [] t.heap ∧ va_K (dC, dI) vwCl [] t ∧ va_D (va_A [(y, .inr (7, [.int 0, .ref yo, .ref ya, .ref yv, .ref yg, .int 0, .int 0, .int 0, .int 0, .int 0, .ref yp, .int 0, .int 0, .int 0, .ref yu, .ref yk, .int 0, .int 0, .int 0, .int 2, .int 0, .int 0, .ref yq, .int 0, .ref yt, .int 0])), (yo, .inl (eo, 8192, .inl (fun _ => 0))), (ya, .inl (ea, 65536, .inl (fun _ => 0)))] sz) []) (va_A [(y, .inr (7, [.int 0, .ref yo, .ref ya, .ref yv, .ref yg, .int 0, .int 0, .int 0, .int 0, .int 0, .ref yp, .int 0, .int 0, .int 0, .ref yu, .ref yk, .int 0, .int 0, .int 0, .int 2, .int 0, .int 0, .ref yq, .int 0, .ref yt, .int 0])), (yo, .inl (eo, 8192, .inl (fun _ => 0))), (ya, .inl (ea, 65536, .inl (fun _ => 0)))] sz)) 0 0 (va_A [(y, .inr (7, [.int 0, .ref yo, .ref ya, .ref yv, .ref yg, .int 0, .int 0, .int 0, .int 0, .int 0, .ref yp, .int 0, .int 0, .int 0, .ref yu, .ref yk, .int 0, .int 0, .int 0, .int 2, .int 0, .int 0, .ref yq, .int 0, .ref yt, .int 0])), (yo, .inl (eo, 8192, .inl (fun _ => 0))), (ya, .inl (ea, 65536, .inl (fun _ => 0)))] sz) := by
  refine Met.ofW (cc := cX7_peek) (maxL := 2) (ret := (some .int)) (by decide) rfl ?_
  intro p e s m args below meth c s₁ B hml hv
  obtain ⟨rfl, hsz, hP, hK, hD0⟩ := hv
  have hx := B.exec
  have hb := B.bytes
  have hr := B.returns
  have hts := atoms_spec (ws := wsX7_peek) B.pre
  have hown : s.vm.findClass RX7 = some m.cls := findClass_of_methodNamed B.named
  have hlocks := B.notSynchronized
  subst hsz
  have hD := hD0.self (sz := s.heap.size)
  generalize hAe : va_A [(y, .inr (7, [.int 0, .ref yo, .ref ya, .ref yv, .ref yg, .int 0, .int 0, .int 0, .int 0, .int 0, .ref yp, .int 0, .int 0, .int 0, .ref yu, .ref yk, .int 0, .int 0, .int 0, .int 2, .int 0, .int 0, .ref yq, .int 0, .ref yt, .int 0])), (yo, .inl (eo, 8192, .inl (fun _ => 0))), (ya, .inl (ea, 65536, .inl (fun _ => 0)))] s.heap.size = A at hD ⊢
  have hA : ∀ q : Nat, s.heap.size ≤ q → A q := fun q h => by rw [← hAe]; exact Or.inr h
  have hS : va_S A s.heap s.heap [] := va_S.rf
  have hP : va_P (dC, dI) vwCl [(y, .inr (7, [.int 0, .ref yo, .ref ya, .ref yv, .ref yg, .int 0, .int 0, .int 0, .int 0, .int 0, .ref yp, .int 0, .int 0, .int 0, .ref yu, .ref yk, .int 0, .int 0, .int 0, .int 2, .int 0, .int 0, .ref yq, .int 0, .ref yt, .int 0])), (yo, .inl (eo, 8192, .inl (fun _ => 0))), (ya, .inl (ea, 65536, .inl (fun _ => 0)))] s.heap := hP
  have hl := lv_entry ([.ref y, .int p0]) (n := 2) (Nat.le_of_ble_eq_true rfl)
  rw [lg_entry_eq]
  generalize (lg_sl ([.ref y, .int p0]) ++ List.replicate (2 - (lg_sl ([.ref y, .int p0])).length) Slot.unset).toArray = ls at hl ⊢
  have hl : lv_has ls 2 [(0, .ref y), (1, .int p0)] := hl
  refine lv_aload_n hx hb dX7_peek_0 rfl (lv_at hl 0 rfl) ?_
  refine lv_iconst (v := 0) hx hb dX7_peek_1 (by decide) ?_
  refine va_put (D := (dC, dI)) (ci := 7) (v := .int 0) (ty := .int) (C := RX7) (T := TX7) (N := 26) hx hb hts in_X7_peek_X7 tyX7 tyX7_ok nmX7 hown hK hP hD hS 0 rfl rfl 0 (by decide) (hts (.fieldLink RX7 44 "WorkspaceBoxModel" "thrown" "I") (by decide +kernel)) (fun _ h9 => h9) rfl (by decide +kernel) rfl rfl (Nat.le_of_ble_eq_true rfl) dX7_peek_2 (fun H locs hP hD hS => ?_)
  have hP : va_P (dC, dI) vwCl [(y, .inr (7, [.int 0, .ref yo, .ref ya, .ref yv, .ref yg, .int 0, .int 0, .int 0, .int 0, .int 0, .ref yp, .int 0, .int 0, .int 0, .ref yu, .ref yk, .int 0, .int 0, .int 0, .int 2, .int 0, .int 0, .ref yq, .int 0, .ref yt, .int 0])), (yo, .inl (eo, 8192, .inl (fun _ => 0))), (ya, .inl (ea, 65536, .inl (fun _ => 0)))] H := hP
  have hD : va_D A [(y, .inr (7, [.int 0, .ref yo, .ref ya, .ref yv, .ref yg, .int 0, .int 0, .int 0, .int 0, .int 0, .ref yp, .int 0, .int 0, .int 0, .ref yu, .ref yk, .int 0, .int 0, .int 0, .int 2, .int 0, .int 0, .ref yq, .int 0, .ref yt, .int 0])), (yo, .inl (eo, 8192, .inl (fun _ => 0))), (ya, .inl (ea, 65536, .inl (fun _ => 0)))] := hD
  refine lv_iload_n hx hb dX7_peek_5 rfl (lv_at hl 1 rfl) ?_
  refine lv_iconst (v := 0) hx hb dX7_peek_6 (by decide) ?_
  refine lv_ldc hx hb hown (hts (.constant RX7 118 (65535)) (by decide +kernel)) dX7_peek_7 ?_
  have hPc := hP.sub (ws' := []) [] rfl
  have hDc := hD.sub (ws' := []) [] (by decide) rfl
  have hKc := hK.sub (tys' := []) [] rfl
  have hFc := va_free (wc := []) hD hS hA [] rfl
  refine va_calli (va_runS (As := [.int p0, .int 0, .int 65535]) (rest := []) ⟨hx, hb, hml, hown, hts⟩ (m_in l dC dI y yo ya yv yg yp yu yk yq yt eo ea ev eg ep eu ek eq et p0 0 65535 H.size) (va_cwS 3 hts gX7_peek_X7_in rfl rfl rfl (by decide +kernel) ⟨Nat.le_of_ble_eq_true rfl, Nat.le_of_ble_eq_true rfl⟩) ⟨fun a U g mk q => by obtain ⟨q0, q1, qP, qK, qD⟩ := q; exact ⟨q0, q1, qP, va_K.moved (u := U) (U := U.calling g mk a) (Vm.Alike.refl U.vm) qK, qD⟩, fun U hU hW => ⟨rfl, by rw [hU], by rw [hU]; exact hPc, va_K.moved hW.alike hKc, hDc.weaken (fun _ _ _ _ => trivial)⟩⟩ rfl rfl hl.1 rfl (lv_room (Nat.le_of_ble_eq_true rfl)) dX7_peek_9 ⟨Nat.le_of_ble_eq_true rfl, Nat.le_of_ble_eq_true rfl⟩) hS (fun q _ h => hFc q h) hFc (fun r_1 u t H1 locs ht hvm hw hB hz1 hk1 hS => ?_)
  obtain ⟨hP1, hK1, hD1⟩ := hB
  rw [ht] at hP1
  have hK1 := va_K.moved hvm.symm hK1
  try dsimp only at hw
  obtain ⟨hP, hD⟩ := va_join (wr := [(y, .inr (7, [.int 0, .ref yo, .ref ya, .ref yv, .ref yg, .int 0, .int 0, .int 0, .int 0, .int 0, .ref yp, .int 0, .int 0, .int 0, .ref yu, .ref yk, .int 0, .int 0, .int 0, .int 2, .int 0, .int 0, .ref yq, .int 0, .ref yt, .int 0])), (yo, .inl (eo, 8192, .inl (fun _ => 0))), (ya, .inl (ea, 65536, .inl (fun _ => 0)))]) (w1 := []) hP hD [] [0, 1, 2] rfl rfl (by decide) (by decide) hk1 hFc hP1 hD1
  have hK := (hK.sub (tys' := [(eo, .byte), (ea, .byte)]) [0, 1] rfl).app hK1
  generalize H1 = H at hP hS ⊢
  have hP : va_P (dC, dI) vwCl [(y, .inr (7, [.int 0, .ref yo, .ref ya, .ref yv, .ref yg, .int 0, .int 0, .int 0, .int 0, .int 0, .ref yp, .int 0, .int 0, .int 0, .ref yu, .ref yk, .int 0, .int 0, .int 0, .int 2, .int 0, .int 0, .ref yq, .int 0, .ref yt, .int 0])), (yo, .inl (eo, 8192, .inl (fun _ => 0))), (ya, .inl (ea, 65536, .inl (fun _ => 0)))] H := hP
  have hD : va_D A [(y, .inr (7, [.int 0, .ref yo, .ref ya, .ref yv, .ref yg, .int 0, .int 0, .int 0, .int 0, .int 0, .ref yp, .int 0, .int 0, .int 0, .ref yu, .ref yk, .int 0, .int 0, .int 0, .int 2, .int 0, .int 0, .ref yq, .int 0, .ref yt, .int 0])), (yo, .inl (eo, 8192, .inl (fun _ => 0))), (ya, .inl (ea, 65536, .inl (fun _ => 0)))] := hD
  have hK : va_K (dC, dI) vwCl [(eo, .byte), (ea, .byte)] s := hK
  have hw_2 := hw
  rcases hw_2 with ⟨rfl, h8, h9⟩ | ⟨rfl, h8⟩
  · refine lv_if_eq (tgt := 23) hx hb dX7_peek_12 (by decide) (fun h => absurd h (by decide)) (fun _ => ?_)
    refine lv_aload_n hx hb dX7_peek_15 rfl (lv_at hl 0 rfl) ?_
    refine lv_iload_n hx hb dX7_peek_16 rfl (lv_at hl 1 rfl) ?_
    have hPc := hP.sub (ws' := [(y, .inr (7, [.int 0, .ref yo, .ref ya, .ref yv, .ref yg, .int 0, .int 0, .int 0, .int 0, .int 0, .ref yp, .int 0, .int 0, .int 0, .ref yu, .ref yk, .int 0, .int 0, .int 0, .int 2, .int 0, .int 0, .ref yq, .int 0, .ref yt, .int 0])), (yo, .inl (eo, 8192, .inl (fun _ => 0))), (ya, .inl (ea, 65536, .inl (fun _ => 0)))]) [0, 1, 2] rfl
    have hDc := hD.sub (ws' := [(y, .inr (7, [.int 0, .ref yo, .ref ya, .ref yv, .ref yg, .int 0, .int 0, .int 0, .int 0, .int 0, .ref yp, .int 0, .int 0, .int 0, .ref yu, .ref yk, .int 0, .int 0, .int 0, .int 2, .int 0, .int 0, .ref yq, .int 0, .ref yt, .int 0])), (yo, .inl (eo, 8192, .inl (fun _ => 0))), (ya, .inl (ea, 65536, .inl (fun _ => 0)))]) [0, 1, 2] (by decide) rfl
    have hKc := hK.sub (tys' := [(eo, .byte), (ea, .byte)]) [0, 1] rfl
    have hFc := va_free (wc := [(y, .inr (7, [.int 0, .ref yo, .ref ya, .ref yv, .ref yg, .int 0, .int 0, .int 0, .int 0, .int 0, .ref yp, .int 0, .int 0, .int 0, .ref yu, .ref yk, .int 0, .int 0, .int 0, .int 2, .int 0, .int 0, .ref yq, .int 0, .ref yt, .int 0])), (yo, .inl (eo, 8192, .inl (fun _ => 0))), (ya, .inl (ea, 65536, .inl (fun _ => 0)))]) hD hS hA [0, 1, 2] rfl
    refine va_calli (va_runV (As := [.int p0]) (rest := []) ⟨hx, hb, hml, hown, hts⟩ (m_plain l dC dI y yo ya yv yg yp yu yk yq yt eo ea ev eg ep eu ek eq et p0 H.size h8 h9) (cwV 1 hts gX7_peek_X7_plain rfl rfl rfl (by decide +kernel) ⟨Nat.le_of_ble_eq_true rfl, Nat.le_of_ble_eq_true rfl⟩) ⟨fun a U g mk q => by obtain ⟨q0, q1, qP, qK, qD⟩ := q; exact ⟨q0, q1, qP, va_K.moved (u := U) (U := U.calling g mk a) (Vm.Alike.refl U.vm) qK, qD⟩, va_recv hKc hPc (ci := 7) (q0 := 0) rfl rfl, fun U hU hW => ⟨rfl, by rw [hU], by rw [hU]; exact hPc, va_K.moved hW.alike hKc, hDc.weaken (fun _ _ _ _ => trivial)⟩⟩ rfl rfl hl.1 rfl (lv_room (Nat.le_of_ble_eq_true rfl)) dX7_peek_17 ⟨Nat.le_of_ble_eq_true rfl, Nat.le_of_ble_eq_true rfl⟩) hS (fun q _ h => hFc q h) hFc (fun r_3 u t H1 locs ht hvm hw hB hz1 hk1 hS => ?_)
    obtain ⟨hP1, hK1, hD1⟩ := hB
    rw [ht] at hP1
    have hK1 := va_K.moved hvm.symm hK1
    try dsimp only at hw
    obtain ⟨hP, hD⟩ := va_join (wr := []) (w1 := [(y, .inr (7, [.int 0, .ref yo, .ref ya, .ref yv, .ref yg, .int 0, .int 0, .int 0, .int 0, .int 0, .ref yp, .int 0, .int 0, .int 0, .ref yu, .ref yk, .int 0, .int 0, .int 0, .int 2, .int 0, .int 0, .ref yq, .int 0, .ref yt, .int 0])), (yo, .inl (eo, 8192, .inl (fun _ => 0))), (ya, .inl (ea, 65536, .inl (fun _ => 0)))]) hP hD [0, 1, 2] [] rfl rfl (by decide) (by decide) hk1 hFc hP1 hD1
    have hK := (hK.sub (tys' := [(eo, .byte), (ea, .byte)]) [0, 1] rfl).app hK1
    generalize H1 = H at hP hS ⊢
    have hP : va_P (dC, dI) vwCl [(y, .inr (7, [.int 0, .ref yo, .ref ya, .ref yv, .ref yg, .int 0, .int 0, .int 0, .int 0, .int 0, .ref yp, .int 0, .int 0, .int 0, .ref yu, .ref yk, .int 0, .int 0, .int 0, .int 2, .int 0, .int 0, .ref yq, .int 0, .ref yt, .int 0])), (yo, .inl (eo, 8192, .inl (fun _ => 0))), (ya, .inl (ea, 65536, .inl (fun _ => 0)))] H := hP
    have hD : va_D A [(y, .inr (7, [.int 0, .ref yo, .ref ya, .ref yv, .ref yg, .int 0, .int 0, .int 0, .int 0, .int 0, .ref yp, .int 0, .int 0, .int 0, .ref yu, .ref yk, .int 0, .int 0, .int 0, .int 2, .int 0, .int 0, .ref yq, .int 0, .ref yt, .int 0])), (yo, .inl (eo, 8192, .inl (fun _ => 0))), (ya, .inl (ea, 65536, .inl (fun _ => 0)))] := hD
    have hK : va_K (dC, dI) vwCl [(eo, .byte), (ea, .byte), (eo, .byte), (ea, .byte)] s := hK
    have hw_4 := hw
    obtain rfl := hw_4
    refine lv_goto (tgt := 24) hx hb dX7_peek_20 (by decide) ?_
    have hP9 := hP.sub (ws' := []) [] rfl
    have hD9 := hD.sub (ws' := []) [] (by decide) rfl
    have hK9 := hK.sub (tys' := []) [] rfl
    exact W.iret (v := 0) hx hb hr (fun t ht hW => ⟨⟨0, (), rfl, by (first | decide | ((try subst_vars); (try dsimp only); (try simp only [fa_lt, fa_le, fa_eq, tI_m1, tI_0, tI_1, tI_2, tI_3, tI_4, tI_5, tI_7, tI_8, tI_10, tI_15, tI_16, tI_20, tI_31, tI_125, tI_191, tI_255, tI_256, tI_980, tI_1000, tI_4095, tI_4096, tI_8191, tI_8192, tI_16383, tI_16384, tI_32767, tI_32768, tI_33791, tI_33792, tI_40959, tI_40960, tI_65535, tI_65536] at hw_2); (try simp only [fa_lt, fa_le, fa_eq, tI_m1, tI_0, tI_1, tI_2, tI_3, tI_4, tI_5, tI_7, tI_8, tI_10, tI_15, tI_16, tI_20, tI_31, tI_125, tI_191, tI_255, tI_256, tI_980, tI_1000, tI_4095, tI_4096, tI_8191, tI_8192, tI_16383, tI_16384, tI_32767, tI_32768, tI_33791, tI_33792, tI_40959, tI_40960, tI_65535, tI_65536] at h8); (try simp only [fa_lt, fa_le, fa_eq, tI_m1, tI_0, tI_1, tI_2, tI_3, tI_4, tI_5, tI_7, tI_8, tI_10, tI_15, tI_16, tI_20, tI_31, tI_125, tI_191, tI_255, tI_256, tI_980, tI_1000, tI_4095, tI_4096, tI_8191, tI_8192, tI_16383, tI_16384, tI_32767, tI_32768, tI_33791, tI_33792, tI_40959, tI_40960, tI_65535, tI_65536] at h9); (try simp only [fa_lt, fa_le, fa_eq, tI_m1, tI_0, tI_1, tI_2, tI_3, tI_4, tI_5, tI_7, tI_8, tI_10, tI_15, tI_16, tI_20, tI_31, tI_125, tI_191, tI_255, tI_256, tI_980, tI_1000, tI_4095, tI_4096, tI_8191, tI_8192, tI_16383, tI_16384, tI_32767, tI_32768, tI_33791, tI_33792, tI_40959, tI_40960, tI_65535, tI_65536] at hw_4); (have k0 := tI_0); (have k1 := tI_1); (have k2 := tI_2); (have k3 := tI_3); unfold sp_peek; (repeat' split) <;> first | rfl | omega | (simp only [fa_lt, fa_le, fa_eq, tI_m1, tI_0, tI_1, tI_2, tI_3, tI_4, tI_5, tI_7, tI_8, tI_10, tI_15, tI_16, tI_20, tI_31, tI_125, tI_191, tI_255, tI_256, tI_980, tI_1000, tI_4095, tI_4096, tI_8191, tI_8192, tI_16383, tI_16384, tI_32767, tI_32768, tI_33791, tI_33792, tI_40959, tI_40960, tI_65535, tI_65536]; omega))), by rw [ht]; exact hP9, va_K.moved hW.alike hK9, hD9⟩, hS.F ht⟩) hS.2.2 dX7_peek_24
  · refine lv_if_eq (tgt := 23) hx hb dX7_peek_12 (by decide) (fun _ => ?_) (fun h => absurd (by decide) h)
    refine lv_iconst (v := (-1)) hx hb dX7_peek_23 (by decide) ?_
    have hP9 := hP.sub (ws' := []) [] rfl
    have hD9 := hD.sub (ws' := []) [] (by decide) rfl
    have hK9 := hK.sub (tys' := []) [] rfl
    exact W.iret (v := (-1)) hx hb hr (fun t ht hW => ⟨⟨(-1), (), rfl, by (first | decide | ((try subst_vars); (try dsimp only); (try simp only [fa_lt, fa_le, fa_eq, tI_m1, tI_0, tI_1, tI_2, tI_3, tI_4, tI_5, tI_7, tI_8, tI_10, tI_15, tI_16, tI_20, tI_31, tI_125, tI_191, tI_255, tI_256, tI_980, tI_1000, tI_4095, tI_4096, tI_8191, tI_8192, tI_16383, tI_16384, tI_32767, tI_32768, tI_33791, tI_33792, tI_40959, tI_40960, tI_65535, tI_65536] at hw_2); (try simp only [fa_lt, fa_le, fa_eq, tI_m1, tI_0, tI_1, tI_2, tI_3, tI_4, tI_5, tI_7, tI_8, tI_10, tI_15, tI_16, tI_20, tI_31, tI_125, tI_191, tI_255, tI_256, tI_980, tI_1000, tI_4095, tI_4096, tI_8191, tI_8192, tI_16383, tI_16384, tI_32767, tI_32768, tI_33791, tI_33792, tI_40959, tI_40960, tI_65535, tI_65536] at h8); (have k0 := tI_0); (have k1 := tI_1); (have k2 := tI_2); (have k3 := tI_3); unfold sp_peek; (repeat' split) <;> first | rfl | omega | (simp only [fa_lt, fa_le, fa_eq, tI_m1, tI_0, tI_1, tI_2, tI_3, tI_4, tI_5, tI_7, tI_8, tI_10, tI_15, tI_16, tI_20, tI_31, tI_125, tI_191, tI_255, tI_256, tI_980, tI_1000, tI_4095, tI_4096, tI_8191, tI_8192, tI_16383, tI_16384, tI_32767, tI_32768, tI_33791, tI_33792, tI_40959, tI_40960, tI_65535, tI_65536]; omega))), by rw [ht]; exact hP9, va_K.moved hW.alike hK9, hD9⟩, hS.F ht⟩) hS.2.2 dX7_peek_24

theorem in_X7_set_X7 : ∀ w ∈ wsX70, w ∈ wsX7_set := by decide +kernel
set_option maxHeartbeats 1000000 in
set_option maxRecDepth 100000 in
theorem m_set (l : Launch) (dC : Nat → ClassId) (dI : Nat → Nat → Nat) (y yo ya yv yg yp yu yk yq yt : Nat) (eo ea ev eg ep eu ek eq et : ClassId) (p0 : Int32) (p1 : Int32) (sz : Nat)  : Met l yX7_set wsX7_set ({ frames := 1, cells := 0, slots := 0, locals := 22 }) (va_Pc [.ref y, .int p0, .int p1] (fun U => U.heap.size = sz ∧ va_P (dC, dI) vwCl [(y, .inr (7, [.int 0, .ref yo, .ref ya, .ref yv, .ref yg, .int 0, .int 0, .int 0, .int 0, .int 0, .ref yp, .int 0, .int 0, .int 0, .ref yu, .ref yk, .int 0, .int 0, .int 0, .int 2, .int 0, .int 0, .ref yq, .int 0, .ref yt, .int 0]))] U.heap ∧ va_K (dC, dI) vwCl [] U ∧ va_D (fun _ => True) [(y, .inr (7, [.int 0, .ref yo, .ref ya, .ref yv, .ref yg, .int 0, .int 0, .int 0, .int 0, .int 0, .ref yp, .int 0, .int 0, .int 0, .ref yu, .ref yk, .int 0, .int 0, .int 0, .int 2, .int 0, .int 0, .ref yq, .int 0, .ref yt, .int 0]))])) (va_Qi (fun (r : Int32) (_ : Unit) => r = sp_set p0) (fun (u : Unit) (t : State) => va_P (dC, dI) vwCl [] t.heap ∧ va_K (dC, dI) vwCl [] t ∧ va_D (va_A [(y, .inr (7, [.int 0, .ref yo, .ref ya, .ref yv, .ref yg, .int 0, .int 0, .int 0, .int 0, .int 0, .ref yp, .int 0, .int 0, .int 0, .ref yu, .ref yk, .int 0, .int 0, .int 0, .int 2, .int 0, .int 0, .ref yq, .int 0, .ref yt, .int 0]))] sz) []) (va_A [(y, .inr (7, [.int 0, .ref yo, .ref ya, .ref yv, .ref yg, .int 0, .int 0, .int 0, .int 0, .int 0, .ref yp, .int 0, .int 0, .int 0, .ref yu, .ref yk, .int 0, .int 0, .int 0, .int 2, .int 0, .int 0, .ref yq, .int 0, .ref yt, .int 0]))] sz)) 0 0 (va_A [(y, .inr (7, [.int 0, .ref yo, .ref ya, .ref yv, .ref yg, .int 0, .int 0, .int 0, .int 0, .int 0, .ref yp, .int 0, .int 0, .int 0, .ref yu, .ref yk, .int 0, .int 0, .int 0, .int 2, .int 0, .int 0, .ref yq, .int 0, .ref yt, .int 0]))] sz) := by
  refine Met.ofW (cc := cX7_set) (maxL := 3) (ret := (some .boolean)) (by decide) rfl ?_
  intro p e s m args below meth c s₁ B hml hv
  obtain ⟨rfl, hsz, hP, hK, hD0⟩ := hv
  have hx := B.exec
  have hb := B.bytes
  have hr := B.returns
  have hts := atoms_spec (ws := wsX7_set) B.pre
  have hown : s.vm.findClass RX7 = some m.cls := findClass_of_methodNamed B.named
  have hlocks := B.notSynchronized
  subst hsz
  have hD := hD0.self (sz := s.heap.size)
  generalize hAe : va_A [(y, .inr (7, [.int 0, .ref yo, .ref ya, .ref yv, .ref yg, .int 0, .int 0, .int 0, .int 0, .int 0, .ref yp, .int 0, .int 0, .int 0, .ref yu, .ref yk, .int 0, .int 0, .int 0, .int 2, .int 0, .int 0, .ref yq, .int 0, .ref yt, .int 0]))] s.heap.size = A at hD ⊢
  have hA : ∀ q : Nat, s.heap.size ≤ q → A q := fun q h => by rw [← hAe]; exact Or.inr h
  have hS : va_S A s.heap s.heap [] := va_S.rf
  have hP : va_P (dC, dI) vwCl [(y, .inr (7, [.int 0, .ref yo, .ref ya, .ref yv, .ref yg, .int 0, .int 0, .int 0, .int 0, .int 0, .ref yp, .int 0, .int 0, .int 0, .ref yu, .ref yk, .int 0, .int 0, .int 0, .int 2, .int 0, .int 0, .ref yq, .int 0, .ref yt, .int 0]))] s.heap := hP
  have hl := lv_entry ([.ref y, .int p0, .int p1]) (n := 3) (Nat.le_of_ble_eq_true rfl)
  rw [lg_entry_eq]
  generalize (lg_sl ([.ref y, .int p0, .int p1]) ++ List.replicate (3 - (lg_sl ([.ref y, .int p0, .int p1])).length) Slot.unset).toArray = ls at hl ⊢
  have hl : lv_has ls 3 [(0, .ref y), (1, .int p0), (2, .int p1)] := hl
  refine lv_aload_n hx hb dX7_set_0 rfl (lv_at hl 0 rfl) ?_
  refine lv_iconst (v := 0) hx hb dX7_set_1 (by decide) ?_
  refine va_put (D := (dC, dI)) (ci := 7) (v := .int 0) (ty := .int) (C := RX7) (T := TX7) (N := 26) hx hb hts in_X7_set_X7 tyX7 tyX7_ok nmX7 hown hK hP hD hS 0 rfl rfl 0 (by decide) (hts (.fieldLink RX7 44 "WorkspaceBoxModel" "thrown" "I") (by decide +kernel)) (fun _ h9 => h9) rfl (by decide +kernel) rfl rfl (Nat.le_of_ble_eq_true rfl) dX7_set_2 (fun H locs hP hD hS => ?_)
  have hP : va_P (dC, dI) vwCl [(y, .inr (7, [.int 0, .ref yo, .ref ya, .ref yv, .ref yg, .int 0, .int 0, .int 0, .int 0, .int 0, .ref yp, .int 0, .int 0, .int 0, .ref yu, .ref yk, .int 0, .int 0, .int 0, .int 2, .int 0, .int 0, .ref yq, .int 0, .ref yt, .int 0]))] H := hP
  have hD : va_D A [(y, .inr (7, [.int 0, .ref yo, .ref ya, .ref yv, .ref yg, .int 0, .int 0, .int 0, .int 0, .int 0, .ref yp, .int 0, .int 0, .int 0, .ref yu, .ref yk, .int 0, .int 0, .int 0, .int 2, .int 0, .int 0, .ref yq, .int 0, .ref yt, .int 0]))] := hD
  refine lv_iload_n hx hb dX7_set_5 rfl (lv_at hl 1 rfl) ?_
  refine lv_iconst (v := 0) hx hb dX7_set_6 (by decide) ?_
  refine lv_iconst (v := 2) hx hb dX7_set_7 (by decide) ?_
  have hPc := hP.sub (ws' := []) [] rfl
  have hDc := hD.sub (ws' := []) [] (by decide) rfl
  have hKc := hK.sub (tys' := []) [] rfl
  have hFc := va_free (wc := []) hD hS hA [] rfl
  refine va_calli (va_runS (As := [.int p0, .int 0, .int 2]) (rest := []) ⟨hx, hb, hml, hown, hts⟩ (m_in l dC dI y yo ya yv yg yp yu yk yq yt eo ea ev eg ep eu ek eq et p0 0 2 H.size) (va_cwS 3 hts gX7_set_X7_in rfl rfl rfl (by decide +kernel) ⟨Nat.le_of_ble_eq_true rfl, Nat.le_of_ble_eq_true rfl⟩) ⟨fun a U g mk q => by obtain ⟨q0, q1, qP, qK, qD⟩ := q; exact ⟨q0, q1, qP, va_K.moved (u := U) (U := U.calling g mk a) (Vm.Alike.refl U.vm) qK, qD⟩, fun U hU hW => ⟨rfl, by rw [hU], by rw [hU]; exact hPc, va_K.moved hW.alike hKc, hDc.weaken (fun _ _ _ _ => trivial)⟩⟩ rfl rfl hl.1 rfl (lv_room (Nat.le_of_ble_eq_true rfl)) dX7_set_8 ⟨Nat.le_of_ble_eq_true rfl, Nat.le_of_ble_eq_true rfl⟩) hS (fun q _ h => hFc q h) hFc (fun r_1 u t H1 locs ht hvm hw hB hz1 hk1 hS => ?_)
  obtain ⟨hP1, hK1, hD1⟩ := hB
  rw [ht] at hP1
  have hK1 := va_K.moved hvm.symm hK1
  try dsimp only at hw
  obtain ⟨hP, hD⟩ := va_join (wr := [(y, .inr (7, [.int 0, .ref yo, .ref ya, .ref yv, .ref yg, .int 0, .int 0, .int 0, .int 0, .int 0, .ref yp, .int 0, .int 0, .int 0, .ref yu, .ref yk, .int 0, .int 0, .int 0, .int 2, .int 0, .int 0, .ref yq, .int 0, .ref yt, .int 0]))]) (w1 := []) hP hD [] [0] rfl rfl (by decide) (by decide) hk1 hFc hP1 hD1
  have hK := (hK.sub (tys' := []) [] rfl).app hK1
  generalize H1 = H at hP hS ⊢
  have hP : va_P (dC, dI) vwCl [(y, .inr (7, [.int 0, .ref yo, .ref ya, .ref yv, .ref yg, .int 0, .int 0, .int 0, .int 0, .int 0, .ref yp, .int 0, .int 0, .int 0, .ref yu, .ref yk, .int 0, .int 0, .int 0, .int 2, .int 0, .int 0, .ref yq, .int 0, .ref yt, .int 0]))] H := hP
  have hD : va_D A [(y, .inr (7, [.int 0, .ref yo, .ref ya, .ref yv, .ref yg, .int 0, .int 0, .int 0, .int 0, .int 0, .ref yp, .int 0, .int 0, .int 0, .ref yu, .ref yk, .int 0, .int 0, .int 0, .int 2, .int 0, .int 0, .ref yq, .int 0, .ref yt, .int 0]))] := hD
  have hK : va_K (dC, dI) vwCl [] s := hK
  have hw_2 := hw
  rcases hw_2 with ⟨rfl, h8, h9⟩ | ⟨rfl, h8⟩
  · refine lv_if_ne (tgt := 16) hx hb dX7_set_11 (by decide) (fun _ => ?_) (fun h => absurd h (by decide))
    refine lv_iload_n hx hb dX7_set_16 rfl (lv_at hl 1 rfl) ?_
    refine lv_if_ne (tgt := 31) hx hb dX7_set_17 (by decide) (fun c17_3 => ?_) (fun c17_3 => ?_)
    · refine lv_iload_n hx hb dX7_set_31 rfl (lv_at hl 1 rfl) ?_
      refine lv_iconst (v := 1) hx hb dX7_set_32 (by decide) ?_
      refine lv_icmp_ne (tgt := 47) hx hb dX7_set_33 (by decide) (fun c33_4 => ?_) (fun c33_4 => ?_)
      · refine lv_aload_n hx hb dX7_set_47 rfl (lv_at hl 0 rfl) ?_
        refine lv_iload_n hx hb dX7_set_48 rfl (lv_at hl 2 rfl) ?_
        refine lv_ldc hx hb hown (hts (.constant RX7 208 (65039)) (by decide +kernel)) dX7_set_49 ?_
        refine lv_iand hx hb dX7_set_51 ?_
        refine lv_topi (fun y_5 ey_5 => ?_)
        refine va_put (D := (dC, dI)) (ci := 7) (v := .int y_5) (ty := .int) (C := RX7) (T := TX7) (N := 26) hx hb hts in_X7_set_X7 tyX7 tyX7_ok nmX7 hown hK hP hD hS 0 rfl rfl 18 (by decide) (hts (.fieldLink RX7 131 "WorkspaceBoxModel" "st" "I") (by decide +kernel)) (fun _ h9 => h9) rfl (by decide +kernel) rfl rfl (Nat.le_of_ble_eq_true rfl) dX7_set_52 (fun H locs hP hD hS => ?_)
        have hP : va_P (dC, dI) vwCl [(y, .inr (7, [.int 0, .ref yo, .ref ya, .ref yv, .ref yg, .int 0, .int 0, .int 0, .int 0, .int 0, .ref yp, .int 0, .int 0, .int 0, .ref yu, .ref yk, .int 0, .int 0, .int y_5, .int 2, .int 0, .int 0, .ref yq, .int 0, .ref yt, .int 0]))] H := hP
        have hD : va_D A [(y, .inr (7, [.int 0, .ref yo, .ref ya, .ref yv, .ref yg, .int 0, .int 0, .int 0, .int 0, .int 0, .ref yp, .int 0, .int 0, .int 0, .ref yu, .ref yk, .int 0, .int 0, .int y_5, .int 2, .int 0, .int 0, .ref yq, .int 0, .ref yt, .int 0]))] := hD
        refine lv_aload_n hx hb dX7_set_55 rfl (lv_at hl 0 rfl) ?_
        refine lv_iconst (v := 0) hx hb dX7_set_56 (by decide) ?_
        refine va_put (D := (dC, dI)) (ci := 7) (v := .int 0) (ty := .int) (C := RX7) (T := TX7) (N := 26) hx hb hts in_X7_set_X7 tyX7 tyX7_ok nmX7 hown hK hP hD hS 0 rfl rfl 19 (by decide) (hts (.fieldLink RX7 34 "WorkspaceBoxModel" "how" "I") (by decide +kernel)) (fun _ h9 => h9) rfl (by decide +kernel) rfl rfl (Nat.le_of_ble_eq_true rfl) dX7_set_57 (fun H locs hP hD hS => ?_)
        have hP : va_P (dC, dI) vwCl [(y, .inr (7, [.int 0, .ref yo, .ref ya, .ref yv, .ref yg, .int 0, .int 0, .int 0, .int 0, .int 0, .ref yp, .int 0, .int 0, .int 0, .ref yu, .ref yk, .int 0, .int 0, .int y_5, .int 0, .int 0, .int 0, .ref yq, .int 0, .ref yt, .int 0]))] H := hP
        have hD : va_D A [(y, .inr (7, [.int 0, .ref yo, .ref ya, .ref yv, .ref yg, .int 0, .int 0, .int 0, .int 0, .int 0, .ref yp, .int 0, .int 0, .int 0, .ref yu, .ref yk, .int 0, .int 0, .int y_5, .int 0, .int 0, .int 0, .ref yq, .int 0, .ref yt, .int 0]))] := hD
        refine lv_iconst (v := 1) hx hb dX7_set_60 (by decide) ?_
        have hP9 := hP.sub (ws' := []) [] rfl
        have hD9 := hD.sub (ws' := []) [] (by decide) rfl
        have hK9 := hK.sub (tys' := []) [] rfl
        exact W.zret (v := 1) hx hb hr rfl (fun t ht hW => ⟨⟨1, (), rfl, by (first | decide | ((try subst_vars); (try dsimp only); (try simp only [fa_lt, fa_le, fa_eq, tI_m1, tI_0, tI_1, tI_2, tI_3, tI_4, tI_5, tI_7, tI_8, tI_10, tI_15, tI_16, tI_20, tI_31, tI_125, tI_191, tI_255, tI_256, tI_980, tI_1000, tI_4095, tI_4096, tI_8191, tI_8192, tI_16383, tI_16384, tI_32767, tI_32768, tI_33791, tI_33792, tI_40959, tI_40960, tI_65535, tI_65536] at hw_2); (try simp only [fa_lt, fa_le, fa_eq, tI_m1, tI_0, tI_1, tI_2, tI_3, tI_4, tI_5, tI_7, tI_8, tI_10, tI_15, tI_16, tI_20, tI_31, tI_125, tI_191, tI_255, tI_256, tI_980, tI_1000, tI_4095, tI_4096, tI_8191, tI_8192, tI_16383, tI_16384, tI_32767, tI_32768, tI_33791, tI_33792, tI_40959, tI_40960, tI_65535, tI_65536] at h8); (try simp only [fa_lt, fa_le, fa_eq, tI_m1, tI_0, tI_1, tI_2, tI_3, tI_4, tI_5, tI_7, tI_8, tI_10, tI_15, tI_16, tI_20, tI_31, tI_125, tI_191, tI_255, tI_256, tI_980, tI_1000, tI_4095, tI_4096, tI_8191, tI_8192, tI_16383, tI_16384, tI_32767, tI_32768, tI_33791, tI_33792, tI_40959, tI_40960, tI_65535, tI_65536] at h9); (try simp only [fa_lt, fa_le, fa_eq, tI_m1, tI_0, tI_1, tI_2, tI_3, tI_4, tI_5, tI_7, tI_8, tI_10, tI_15, tI_16, tI_20, tI_31, tI_125, tI_191, tI_255, tI_256, tI_980, tI_1000, tI_4095, tI_4096, tI_8191, tI_8192, tI_16383, tI_16384, tI_32767, tI_32768, tI_33791, tI_33792, tI_40959, tI_40960, tI_65535, tI_65536] at c17_3); (try simp only [fa_lt, fa_le, fa_eq, tI_m1, tI_0, tI_1, tI_2, tI_3, tI_4, tI_5, tI_7, tI_8, tI_10, tI_15, tI_16, tI_20, tI_31, tI_125, tI_191, tI_255, tI_256, tI_980, tI_1000, tI_4095, tI_4096, tI_8191, tI_8192, tI_16383, tI_16384, tI_32767, tI_32768, tI_33791, tI_33792, tI_40959, tI_40960, tI_65535, tI_65536] at c33_4); (have k0 := tI_0); (have k1 := tI_1); (have k2 := tI_2); (have k3 := tI_3); unfold sp_set; (repeat' split) <;> first | rfl | omega | (simp only [fa_lt, fa_le, fa_eq, tI_m1, tI_0, tI_1, tI_2, tI_3, tI_4, tI_5, tI_7, tI_8, tI_10, tI_15, tI_16, tI_20, tI_31, tI_125, tI_191, tI_255, tI_256, tI_980, tI_1000, tI_4095, tI_4096, tI_8191, tI_8192, tI_16383, tI_16384, tI_32767, tI_32768, tI_33791, tI_33792, tI_40959, tI_40960, tI_65535, tI_65536]; omega))), by rw [ht]; exact hP9, va_K.moved hW.alike hK9, hD9⟩, hS.F ht⟩) hS.2.2 dX7_set_61
      · refine lv_aload_n hx hb dX7_set_36 rfl (lv_at hl 0 rfl) ?_
        refine lv_iload_n hx hb dX7_set_37 rfl (lv_at hl 2 rfl) ?_
        refine lv_ldc hx hb hown (hts (.constant RX7 72 (65534)) (by decide +kernel)) dX7_set_38 ?_
        refine lv_iand hx hb dX7_set_40 ?_
        refine lv_topi (fun y_6 ey_6 => ?_)
        refine va_put (D := (dC, dI)) (ci := 7) (v := .int y_6) (ty := .int) (C := RX7) (T := TX7) (N := 26) hx hb hts in_X7_set_X7 tyX7 tyX7_ok nmX7 hown hK hP hD hS 0 rfl rfl 17 (by decide) (hts (.fieldLink RX7 115 "WorkspaceBoxModel" "wp" "I") (by decide +kernel)) (fun _ h9 => h9) rfl (by decide +kernel) rfl rfl (Nat.le_of_ble_eq_true rfl) dX7_set_41 (fun H locs hP hD hS => ?_)
        have hP : va_P (dC, dI) vwCl [(y, .inr (7, [.int 0, .ref yo, .ref ya, .ref yv, .ref yg, .int 0, .int 0, .int 0, .int 0, .int 0, .ref yp, .int 0, .int 0, .int 0, .ref yu, .ref yk, .int 0, .int y_6, .int 0, .int 2, .int 0, .int 0, .ref yq, .int 0, .ref yt, .int 0]))] H := hP
        have hD : va_D A [(y, .inr (7, [.int 0, .ref yo, .ref ya, .ref yv, .ref yg, .int 0, .int 0, .int 0, .int 0, .int 0, .ref yp, .int 0, .int 0, .int 0, .ref yu, .ref yk, .int 0, .int y_6, .int 0, .int 2, .int 0, .int 0, .ref yq, .int 0, .ref yt, .int 0]))] := hD
        refine lv_goto (tgt := 55) hx hb dX7_set_44 (by decide) ?_
        refine lv_aload_n hx hb dX7_set_55 rfl (lv_at hl 0 rfl) ?_
        refine lv_iconst (v := 0) hx hb dX7_set_56 (by decide) ?_
        refine va_put (D := (dC, dI)) (ci := 7) (v := .int 0) (ty := .int) (C := RX7) (T := TX7) (N := 26) hx hb hts in_X7_set_X7 tyX7 tyX7_ok nmX7 hown hK hP hD hS 0 rfl rfl 19 (by decide) (hts (.fieldLink RX7 34 "WorkspaceBoxModel" "how" "I") (by decide +kernel)) (fun _ h9 => h9) rfl (by decide +kernel) rfl rfl (Nat.le_of_ble_eq_true rfl) dX7_set_57 (fun H locs hP hD hS => ?_)
        have hP : va_P (dC, dI) vwCl [(y, .inr (7, [.int 0, .ref yo, .ref ya, .ref yv, .ref yg, .int 0, .int 0, .int 0, .int 0, .int 0, .ref yp, .int 0, .int 0, .int 0, .ref yu, .ref yk, .int 0, .int y_6, .int 0, .int 0, .int 0, .int 0, .ref yq, .int 0, .ref yt, .int 0]))] H := hP
        have hD : va_D A [(y, .inr (7, [.int 0, .ref yo, .ref ya, .ref yv, .ref yg, .int 0, .int 0, .int 0, .int 0, .int 0, .ref yp, .int 0, .int 0, .int 0, .ref yu, .ref yk, .int 0, .int y_6, .int 0, .int 0, .int 0, .int 0, .ref yq, .int 0, .ref yt, .int 0]))] := hD
        refine lv_iconst (v := 1) hx hb dX7_set_60 (by decide) ?_
        have hP9 := hP.sub (ws' := []) [] rfl
        have hD9 := hD.sub (ws' := []) [] (by decide) rfl
        have hK9 := hK.sub (tys' := []) [] rfl
        exact W.zret (v := 1) hx hb hr rfl (fun t ht hW => ⟨⟨1, (), rfl, by (first | decide | ((try subst_vars); (try dsimp only); (try simp only [fa_lt, fa_le, fa_eq, tI_m1, tI_0, tI_1, tI_2, tI_3, tI_4, tI_5, tI_7, tI_8, tI_10, tI_15, tI_16, tI_20, tI_31, tI_125, tI_191, tI_255, tI_256, tI_980, tI_1000, tI_4095, tI_4096, tI_8191, tI_8192, tI_16383, tI_16384, tI_32767, tI_32768, tI_33791, tI_33792, tI_40959, tI_40960, tI_65535, tI_65536] at hw_2); (try simp only [fa_lt, fa_le, fa_eq, tI_m1, tI_0, tI_1, tI_2, tI_3, tI_4, tI_5, tI_7, tI_8, tI_10, tI_15, tI_16, tI_20, tI_31, tI_125, tI_191, tI_255, tI_256, tI_980, tI_1000, tI_4095, tI_4096, tI_8191, tI_8192, tI_16383, tI_16384, tI_32767, tI_32768, tI_33791, tI_33792, tI_40959, tI_40960, tI_65535, tI_65536] at h8); (try simp only [fa_lt, fa_le, fa_eq, tI_m1, tI_0, tI_1, tI_2, tI_3, tI_4, tI_5, tI_7, tI_8, tI_10, tI_15, tI_16, tI_20, tI_31, tI_125, tI_191, tI_255, tI_256, tI_980, tI_1000, tI_4095, tI_4096, tI_8191, tI_8192, tI_16383, tI_16384, tI_32767, tI_32768, tI_33791, tI_33792, tI_40959, tI_40960, tI_65535, tI_65536] at h9); (try simp only [fa_lt, fa_le, fa_eq, tI_m1, tI_0, tI_1, tI_2, tI_3, tI_4, tI_5, tI_7, tI_8, tI_10, tI_15, tI_16, tI_20, tI_31, tI_125, tI_191, tI_255, tI_256, tI_980, tI_1000, tI_4095, tI_4096, tI_8191, tI_8192, tI_16383, tI_16384, tI_32767, tI_32768, tI_33791, tI_33792, tI_40959, tI_40960, tI_65535, tI_65536] at c17_3); (try simp only [fa_lt, fa_le, fa_eq, tI_m1, tI_0, tI_1, tI_2, tI_3, tI_4, tI_5, tI_7, tI_8, tI_10, tI_15, tI_16, tI_20, tI_31, tI_125, tI_191, tI_255, tI_256, tI_980, tI_1000, tI_4095, tI_4096, tI_8191, tI_8192, tI_16383, tI_16384, tI_32767, tI_32768, tI_33791, tI_33792, tI_40959, tI_40960, tI_65535, tI_65536] at c33_4); (have k0 := tI_0); (have k1 := tI_1); (have k2 := tI_2); (have k3 := tI_3); unfold sp_set; (repeat' split) <;> first | rfl | omega | (simp only [fa_lt, fa_le, fa_eq, tI_m1, tI_0, tI_1, tI_2, tI_3, tI_4, tI_5, tI_7, tI_8, tI_10, tI_15, tI_16, tI_20, tI_31, tI_125, tI_191, tI_255, tI_256, tI_980, tI_1000, tI_4095, tI_4096, tI_8191, tI_8192, tI_16383, tI_16384, tI_32767, tI_32768, tI_33791, tI_33792, tI_40959, tI_40960, tI_65535, tI_65536]; omega))), by rw [ht]; exact hP9, va_K.moved hW.alike hK9, hD9⟩, hS.F ht⟩) hS.2.2 dX7_set_61
    · refine lv_aload_n hx hb dX7_set_20 rfl (lv_at hl 0 rfl) ?_
      refine lv_iload_n hx hb dX7_set_21 rfl (lv_at hl 2 rfl) ?_
      refine lv_ldc hx hb hown (hts (.constant RX7 72 (65534)) (by decide +kernel)) dX7_set_22 ?_
      refine lv_iand hx hb dX7_set_24 ?_
      refine lv_topi (fun y_7 ey_7 => ?_)
      refine va_put (D := (dC, dI)) (ci := 7) (v := .int y_7) (ty := .int) (C := RX7) (T := TX7) (N := 26) hx hb hts in_X7_set_X7 tyX7 tyX7_ok nmX7 hown hK hP hD hS 0 rfl rfl 16 (by decide) (hts (.fieldLink RX7 128 "WorkspaceBoxModel" "pc" "I") (by decide +kernel)) (fun _ h9 => h9) rfl (by decide +kernel) rfl rfl (Nat.le_of_ble_eq_true rfl) dX7_set_25 (fun H locs hP hD hS => ?_)
      have hP : va_P (dC, dI) vwCl [(y, .inr (7, [.int 0, .ref yo, .ref ya, .ref yv, .ref yg, .int 0, .int 0, .int 0, .int 0, .int 0, .ref yp, .int 0, .int 0, .int 0, .ref yu, .ref yk, .int y_7, .int 0, .int 0, .int 2, .int 0, .int 0, .ref yq, .int 0, .ref yt, .int 0]))] H := hP
      have hD : va_D A [(y, .inr (7, [.int 0, .ref yo, .ref ya, .ref yv, .ref yg, .int 0, .int 0, .int 0, .int 0, .int 0, .ref yp, .int 0, .int 0, .int 0, .ref yu, .ref yk, .int y_7, .int 0, .int 0, .int 2, .int 0, .int 0, .ref yq, .int 0, .ref yt, .int 0]))] := hD
      refine lv_goto (tgt := 55) hx hb dX7_set_28 (by decide) ?_
      refine lv_aload_n hx hb dX7_set_55 rfl (lv_at hl 0 rfl) ?_
      refine lv_iconst (v := 0) hx hb dX7_set_56 (by decide) ?_
      refine va_put (D := (dC, dI)) (ci := 7) (v := .int 0) (ty := .int) (C := RX7) (T := TX7) (N := 26) hx hb hts in_X7_set_X7 tyX7 tyX7_ok nmX7 hown hK hP hD hS 0 rfl rfl 19 (by decide) (hts (.fieldLink RX7 34 "WorkspaceBoxModel" "how" "I") (by decide +kernel)) (fun _ h9 => h9) rfl (by decide +kernel) rfl rfl (Nat.le_of_ble_eq_true rfl) dX7_set_57 (fun H locs hP hD hS => ?_)
      have hP : va_P (dC, dI) vwCl [(y, .inr (7, [.int 0, .ref yo, .ref ya, .ref yv, .ref yg, .int 0, .int 0, .int 0, .int 0, .int 0, .ref yp, .int 0, .int 0, .int 0, .ref yu, .ref yk, .int y_7, .int 0, .int 0, .int 0, .int 0, .int 0, .ref yq, .int 0, .ref yt, .int 0]))] H := hP
      have hD : va_D A [(y, .inr (7, [.int 0, .ref yo, .ref ya, .ref yv, .ref yg, .int 0, .int 0, .int 0, .int 0, .int 0, .ref yp, .int 0, .int 0, .int 0, .ref yu, .ref yk, .int y_7, .int 0, .int 0, .int 0, .int 0, .int 0, .ref yq, .int 0, .ref yt, .int 0]))] := hD
      refine lv_iconst (v := 1) hx hb dX7_set_60 (by decide) ?_
      have hP9 := hP.sub (ws' := []) [] rfl
      have hD9 := hD.sub (ws' := []) [] (by decide) rfl
      have hK9 := hK.sub (tys' := []) [] rfl
      exact W.zret (v := 1) hx hb hr rfl (fun t ht hW => ⟨⟨1, (), rfl, by (first | decide | ((try subst_vars); (try dsimp only); (try simp only [fa_lt, fa_le, fa_eq, tI_m1, tI_0, tI_1, tI_2, tI_3, tI_4, tI_5, tI_7, tI_8, tI_10, tI_15, tI_16, tI_20, tI_31, tI_125, tI_191, tI_255, tI_256, tI_980, tI_1000, tI_4095, tI_4096, tI_8191, tI_8192, tI_16383, tI_16384, tI_32767, tI_32768, tI_33791, tI_33792, tI_40959, tI_40960, tI_65535, tI_65536] at hw_2); (try simp only [fa_lt, fa_le, fa_eq, tI_m1, tI_0, tI_1, tI_2, tI_3, tI_4, tI_5, tI_7, tI_8, tI_10, tI_15, tI_16, tI_20, tI_31, tI_125, tI_191, tI_255, tI_256, tI_980, tI_1000, tI_4095, tI_4096, tI_8191, tI_8192, tI_16383, tI_16384, tI_32767, tI_32768, tI_33791, tI_33792, tI_40959, tI_40960, tI_65535, tI_65536] at h8); (try simp only [fa_lt, fa_le, fa_eq, tI_m1, tI_0, tI_1, tI_2, tI_3, tI_4, tI_5, tI_7, tI_8, tI_10, tI_15, tI_16, tI_20, tI_31, tI_125, tI_191, tI_255, tI_256, tI_980, tI_1000, tI_4095, tI_4096, tI_8191, tI_8192, tI_16383, tI_16384, tI_32767, tI_32768, tI_33791, tI_33792, tI_40959, tI_40960, tI_65535, tI_65536] at h9); (try simp only [fa_lt, fa_le, fa_eq, tI_m1, tI_0, tI_1, tI_2, tI_3, tI_4, tI_5, tI_7, tI_8, tI_10, tI_15, tI_16, tI_20, tI_31, tI_125, tI_191, tI_255, tI_256, tI_980, tI_1000, tI_4095, tI_4096, tI_8191, tI_8192, tI_16383, tI_16384, tI_32767, tI_32768, tI_33791, tI_33792, tI_40959, tI_40960, tI_65535, tI_65536] at c17_3); (have k0 := tI_0); (have k1 := tI_1); (have k2 := tI_2); (have k3 := tI_3); unfold sp_set; (repeat' split) <;> first | rfl | omega | (simp only [fa_lt, fa_le, fa_eq, tI_m1, tI_0, tI_1, tI_2, tI_3, tI_4, tI_5, tI_7, tI_8, tI_10, tI_15, tI_16, tI_20, tI_31, tI_125, tI_191, tI_255, tI_256, tI_980, tI_1000, tI_4095, tI_4096, tI_8191, tI_8192, tI_16383, tI_16384, tI_32767, tI_32768, tI_33791, tI_33792, tI_40959, tI_40960, tI_65535, tI_65536]; omega))), by rw [ht]; exact hP9, va_K.moved hW.alike hK9, hD9⟩, hS.F ht⟩) hS.2.2 dX7_set_61
  · refine lv_if_ne (tgt := 16) hx hb dX7_set_11 (by decide) (fun h => absurd h (by decide)) (fun _ => ?_)
    refine lv_iconst (v := 0) hx hb dX7_set_14 (by decide) ?_
    have hP9 := hP.sub (ws' := []) [] rfl
    have hD9 := hD.sub (ws' := []) [] (by decide) rfl
    have hK9 := hK.sub (tys' := []) [] rfl
    exact W.zret (v := 0) hx hb hr rfl (fun t ht hW => ⟨⟨0, (), rfl, by (first | decide | ((try subst_vars); (try dsimp only); (try simp only [fa_lt, fa_le, fa_eq, tI_m1, tI_0, tI_1, tI_2, tI_3, tI_4, tI_5, tI_7, tI_8, tI_10, tI_15, tI_16, tI_20, tI_31, tI_125, tI_191, tI_255, tI_256, tI_980, tI_1000, tI_4095, tI_4096, tI_8191, tI_8192, tI_16383, tI_16384, tI_32767, tI_32768, tI_33791, tI_33792, tI_40959, tI_40960, tI_65535, tI_65536] at hw_2); (try simp only [fa_lt, fa_le, fa_eq, tI_m1, tI_0, tI_1, tI_2, tI_3, tI_4, tI_5, tI_7, tI_8, tI_10, tI_15, tI_16, tI_20, tI_31, tI_125, tI_191, tI_255, tI_256, tI_980, tI_1000, tI_4095, tI_4096, tI_8191, tI_8192, tI_16383, tI_16384, tI_32767, tI_32768, tI_33791, tI_33792, tI_40959, tI_40960, tI_65535, tI_65536] at h8); (have k0 := tI_0); (have k1 := tI_1); (have k2 := tI_2); (have k3 := tI_3); unfold sp_set; (repeat' split) <;> first | rfl | omega | (simp only [fa_lt, fa_le, fa_eq, tI_m1, tI_0, tI_1, tI_2, tI_3, tI_4, tI_5, tI_7, tI_8, tI_10, tI_15, tI_16, tI_20, tI_31, tI_125, tI_191, tI_255, tI_256, tI_980, tI_1000, tI_4095, tI_4096, tI_8191, tI_8192, tI_16383, tI_16384, tI_32767, tI_32768, tI_33791, tI_33792, tI_40959, tI_40960, tI_65535, tI_65536]; omega))), by rw [ht]; exact hP9, va_K.moved hW.alike hK9, hD9⟩, hS.F ht⟩) hS.2.2 dX7_set_15

theorem in_X7_picture_X7 : ∀ w ∈ wsX70, w ∈ wsX7_picture := by decide +kernel
set_option maxHeartbeats 1000000 in
set_option maxRecDepth 100000 in
theorem m_picture (l : Launch) (dC : Nat → ClassId) (dI : Nat → Nat → Nat) (y yo ya yv yg yp yu yk yq yt : Nat) (eo ea ev eg ep eu ek eq et : ClassId) (p0 : Int32) (sz : Nat)  : Met l yX7_picture wsX7_picture ({ frames := 1, cells := 0, slots := 0, locals := 22 }) (va_Pc [.ref y, .int p0] (fun U => U.heap.size = sz ∧ va_P (dC, dI) vwCl [(y, .inr (7, [.int 0, .ref yo, .ref ya, .ref yv, .ref yg, .int 0, .int 0, .int 0, .int 0, .int 0, .ref yp, .int 0, .int 0, .int 0, .ref yu, .ref yk, .int 0, .int 0, .int 0, .int 2, .int 0, .int 0, .ref yq, .int 0, .ref yt, .int 0])), (yp, .inl (ep, 8, .inl (fun _ => 0)))] U.heap ∧ va_K (dC, dI) vwCl [(ep, .int)] U ∧ va_D (fun _ => True) [(y, .inr (7, [.int 0, .ref yo, .ref ya, .ref yv, .ref yg, .int 0, .int 0, .int 0, .int 0, .int 0, .ref yp, .int 0, .int 0, .int 0, .ref yu, .ref yk, .int 0, .int 0, .int 0, .int 2, .int 0, .int 0, .ref yq, .int 0, .ref yt, .int 0])), (yp, .inl (ep, 8, .inl (fun _ => 0)))])) (va_Qi (fun (r : Int32) (_ : Unit) => r = sp_picture p0) (fun (u : Unit) (t : State) => va_P (dC, dI) vwCl [] t.heap ∧ va_K (dC, dI) vwCl [] t ∧ va_D (va_A [(y, .inr (7, [.int 0, .ref yo, .ref ya, .ref yv, .ref yg, .int 0, .int 0, .int 0, .int 0, .int 0, .ref yp, .int 0, .int 0, .int 0, .ref yu, .ref yk, .int 0, .int 0, .int 0, .int 2, .int 0, .int 0, .ref yq, .int 0, .ref yt, .int 0])), (yp, .inl (ep, 8, .inl (fun _ => 0)))] sz) []) (va_A [(y, .inr (7, [.int 0, .ref yo, .ref ya, .ref yv, .ref yg, .int 0, .int 0, .int 0, .int 0, .int 0, .ref yp, .int 0, .int 0, .int 0, .ref yu, .ref yk, .int 0, .int 0, .int 0, .int 2, .int 0, .int 0, .ref yq, .int 0, .ref yt, .int 0])), (yp, .inl (ep, 8, .inl (fun _ => 0)))] sz)) 0 0 (va_A [(y, .inr (7, [.int 0, .ref yo, .ref ya, .ref yv, .ref yg, .int 0, .int 0, .int 0, .int 0, .int 0, .ref yp, .int 0, .int 0, .int 0, .ref yu, .ref yk, .int 0, .int 0, .int 0, .int 2, .int 0, .int 0, .ref yq, .int 0, .ref yt, .int 0])), (yp, .inl (ep, 8, .inl (fun _ => 0)))] sz) := by
  refine Met.ofW (cc := cX7_picture) (maxL := 2) (ret := (some .int)) (by decide) rfl ?_
  intro p e s m args below meth c s₁ B hml hv
  obtain ⟨rfl, hsz, hP, hK, hD0⟩ := hv
  have hx := B.exec
  have hb := B.bytes
  have hr := B.returns
  have hts := atoms_spec (ws := wsX7_picture) B.pre
  have hown : s.vm.findClass RX7 = some m.cls := findClass_of_methodNamed B.named
  have hlocks := B.notSynchronized
  subst hsz
  have hD := hD0.self (sz := s.heap.size)
  generalize hAe : va_A [(y, .inr (7, [.int 0, .ref yo, .ref ya, .ref yv, .ref yg, .int 0, .int 0, .int 0, .int 0, .int 0, .ref yp, .int 0, .int 0, .int 0, .ref yu, .ref yk, .int 0, .int 0, .int 0, .int 2, .int 0, .int 0, .ref yq, .int 0, .ref yt, .int 0])), (yp, .inl (ep, 8, .inl (fun _ => 0)))] s.heap.size = A at hD ⊢
  have hA : ∀ q : Nat, s.heap.size ≤ q → A q := fun q h => by rw [← hAe]; exact Or.inr h
  have hS : va_S A s.heap s.heap [] := va_S.rf
  have hP : va_P (dC, dI) vwCl [(y, .inr (7, [.int 0, .ref yo, .ref ya, .ref yv, .ref yg, .int 0, .int 0, .int 0, .int 0, .int 0, .ref yp, .int 0, .int 0, .int 0, .ref yu, .ref yk, .int 0, .int 0, .int 0, .int 2, .int 0, .int 0, .ref yq, .int 0, .ref yt, .int 0])), (yp, .inl (ep, 8, .inl (fun _ => 0)))] s.heap := hP
  have hl := lv_entry ([.ref y, .int p0]) (n := 2) (Nat.le_of_ble_eq_true rfl)
  rw [lg_entry_eq]
  generalize (lg_sl ([.ref y, .int p0]) ++ List.replicate (2 - (lg_sl ([.ref y, .int p0])).length) Slot.unset).toArray = ls at hl ⊢
  have hl : lv_has ls 2 [(0, .ref y), (1, .int p0)] := hl
  refine lv_aload_n hx hb dX7_picture_0 rfl (lv_at hl 0 rfl) ?_
  refine lv_iconst (v := 0) hx hb dX7_picture_1 (by decide) ?_
  refine va_put (D := (dC, dI)) (ci := 7) (v := .int 0) (ty := .int) (C := RX7) (T := TX7) (N := 26) hx hb hts in_X7_picture_X7 tyX7 tyX7_ok nmX7 hown hK hP hD hS 0 rfl rfl 0 (by decide) (hts (.fieldLink RX7 44 "WorkspaceBoxModel" "thrown" "I") (by decide +kernel)) (fun _ h9 => h9) rfl (by decide +kernel) rfl rfl (Nat.le_of_ble_eq_true rfl) dX7_picture_2 (fun H locs hP hD hS => ?_)
  have hP : va_P (dC, dI) vwCl [(y, .inr (7, [.int 0, .ref yo, .ref ya, .ref yv, .ref yg, .int 0, .int 0, .int 0, .int 0, .int 0, .ref yp, .int 0, .int 0, .int 0, .ref yu, .ref yk, .int 0, .int 0, .int 0, .int 2, .int 0, .int 0, .ref yq, .int 0, .ref yt, .int 0])), (yp, .inl (ep, 8, .inl (fun _ => 0)))] H := hP
  have hD : va_D A [(y, .inr (7, [.int 0, .ref yo, .ref ya, .ref yv, .ref yg, .int 0, .int 0, .int 0, .int 0, .int 0, .ref yp, .int 0, .int 0, .int 0, .ref yu, .ref yk, .int 0, .int 0, .int 0, .int 2, .int 0, .int 0, .ref yq, .int 0, .ref yt, .int 0])), (yp, .inl (ep, 8, .inl (fun _ => 0)))] := hD
  refine lv_iload_n hx hb dX7_picture_5 rfl (lv_at hl 1 rfl) ?_
  refine lv_bipush (v := 8) hx hb dX7_picture_6 (by decide) ?_
  refine lv_bipush (v := 15) hx hb dX7_picture_8 (by decide) ?_
  have hPc := hP.sub (ws' := []) [] rfl
  have hDc := hD.sub (ws' := []) [] (by decide) rfl
  have hKc := hK.sub (tys' := []) [] rfl
  have hFc := va_free (wc := []) hD hS hA [] rfl
  refine va_calli (va_runS (As := [.int p0, .int 8, .int 15]) (rest := []) ⟨hx, hb, hml, hown, hts⟩ (m_in l dC dI y yo ya yv yg yp yu yk yq yt eo ea ev eg ep eu ek eq et p0 8 15 H.size) (va_cwS 3 hts gX7_picture_X7_in rfl rfl rfl (by decide +kernel) ⟨Nat.le_of_ble_eq_true rfl, Nat.le_of_ble_eq_true rfl⟩) ⟨fun a U g mk q => by obtain ⟨q0, q1, qP, qK, qD⟩ := q; exact ⟨q0, q1, qP, va_K.moved (u := U) (U := U.calling g mk a) (Vm.Alike.refl U.vm) qK, qD⟩, fun U hU hW => ⟨rfl, by rw [hU], by rw [hU]; exact hPc, va_K.moved hW.alike hKc, hDc.weaken (fun _ _ _ _ => trivial)⟩⟩ rfl rfl hl.1 rfl (lv_room (Nat.le_of_ble_eq_true rfl)) dX7_picture_10 ⟨Nat.le_of_ble_eq_true rfl, Nat.le_of_ble_eq_true rfl⟩) hS (fun q _ h => hFc q h) hFc (fun r_1 u t H1 locs ht hvm hw hB hz1 hk1 hS => ?_)
  obtain ⟨hP1, hK1, hD1⟩ := hB
  rw [ht] at hP1
  have hK1 := va_K.moved hvm.symm hK1
  try dsimp only at hw
  obtain ⟨hP, hD⟩ := va_join (wr := [(y, .inr (7, [.int 0, .ref yo, .ref ya, .ref yv, .ref yg, .int 0, .int 0, .int 0, .int 0, .int 0, .ref yp, .int 0, .int 0, .int 0, .ref yu, .ref yk, .int 0, .int 0, .int 0, .int 2, .int 0, .int 0, .ref yq, .int 0, .ref yt, .int 0])), (yp, .inl (ep, 8, .inl (fun _ => 0)))]) (w1 := []) hP hD [] [0, 1] rfl rfl (by decide) (by decide) hk1 hFc hP1 hD1
  have hK := (hK.sub (tys' := [(ep, .int)]) [0] rfl).app hK1
  generalize H1 = H at hP hS ⊢
  have hP : va_P (dC, dI) vwCl [(y, .inr (7, [.int 0, .ref yo, .ref ya, .ref yv, .ref yg, .int 0, .int 0, .int 0, .int 0, .int 0, .ref yp, .int 0, .int 0, .int 0, .ref yu, .ref yk, .int 0, .int 0, .int 0, .int 2, .int 0, .int 0, .ref yq, .int 0, .ref yt, .int 0])), (yp, .inl (ep, 8, .inl (fun _ => 0)))] H := hP
  have hD : va_D A [(y, .inr (7, [.int 0, .ref yo, .ref ya, .ref yv, .ref yg, .int 0, .int 0, .int 0, .int 0, .int 0, .ref yp, .int 0, .int 0, .int 0, .ref yu, .ref yk, .int 0, .int 0, .int 0, .int 2, .int 0, .int 0, .ref yq, .int 0, .ref yt, .int 0])), (yp, .inl (ep, 8, .inl (fun _ => 0)))] := hD
  have hK : va_K (dC, dI) vwCl [(ep, .int)] s := hK
  have hw_2 := hw
  rcases hw_2 with ⟨rfl, h8, h9⟩ | ⟨rfl, h8⟩
  · refine lv_if_eq (tgt := 26) hx hb dX7_picture_13 (by decide) (fun h => absurd h (by decide)) (fun _ => ?_)
    refine lv_aload_n hx hb dX7_picture_16 rfl (lv_at hl 0 rfl) ?_
    refine va_get (D := (dC, dI)) (ci := 7) (v := .ref yp) (C := RX7) (T := TX7) (N := 26) hx hb hts in_X7_picture_X7 hown hK hP 0 rfl rfl 10 (by decide) (hts (.fieldLink RX7 23 "WorkspaceBoxModel" "pictures" "[I") (by decide +kernel)) (fun _ h9 => h9) rfl dX7_picture_17 ?_
    refine lv_iload_n hx hb dX7_picture_20 rfl (lv_at hl 1 rfl) ?_
    refine lv_bipush (v := 8) hx hb dX7_picture_21 (by decide) ?_
    refine lv_isub hx hb dX7_picture_23 ?_
    refine lv_topi (fun y_3 ey_3 => ?_)
    refine va_iald hx hb hK hP 1 0 rfl rfl (by subst_vars; exact in_pic h8 (Int32.not_lt.mp h9)) dX7_picture_24 ?_
    refine lv_topi (fun y_4 ey_4 => ?_)
    obtain rfl : y_4 = 0 := ey_4
    have hP9 := hP.sub (ws' := []) [] rfl
    have hD9 := hD.sub (ws' := []) [] (by decide) rfl
    have hK9 := hK.sub (tys' := []) [] rfl
    exact W.iret (v := 0) hx hb hr (fun t ht hW => ⟨⟨0, (), rfl, by (first | decide | ((try subst_vars); (try dsimp only); (try simp only [fa_lt, fa_le, fa_eq, tI_m1, tI_0, tI_1, tI_2, tI_3, tI_4, tI_5, tI_7, tI_8, tI_10, tI_15, tI_16, tI_20, tI_31, tI_125, tI_191, tI_255, tI_256, tI_980, tI_1000, tI_4095, tI_4096, tI_8191, tI_8192, tI_16383, tI_16384, tI_32767, tI_32768, tI_33791, tI_33792, tI_40959, tI_40960, tI_65535, tI_65536] at hw_2); (try simp only [fa_lt, fa_le, fa_eq, tI_m1, tI_0, tI_1, tI_2, tI_3, tI_4, tI_5, tI_7, tI_8, tI_10, tI_15, tI_16, tI_20, tI_31, tI_125, tI_191, tI_255, tI_256, tI_980, tI_1000, tI_4095, tI_4096, tI_8191, tI_8192, tI_16383, tI_16384, tI_32767, tI_32768, tI_33791, tI_33792, tI_40959, tI_40960, tI_65535, tI_65536] at h8); (try simp only [fa_lt, fa_le, fa_eq, tI_m1, tI_0, tI_1, tI_2, tI_3, tI_4, tI_5, tI_7, tI_8, tI_10, tI_15, tI_16, tI_20, tI_31, tI_125, tI_191, tI_255, tI_256, tI_980, tI_1000, tI_4095, tI_4096, tI_8191, tI_8192, tI_16383, tI_16384, tI_32767, tI_32768, tI_33791, tI_33792, tI_40959, tI_40960, tI_65535, tI_65536] at h9); (have k0 := tI_0); (have k1 := tI_1); (have k2 := tI_2); (have k3 := tI_3); unfold sp_picture; (repeat' split) <;> first | rfl | omega | (simp only [fa_lt, fa_le, fa_eq, tI_m1, tI_0, tI_1, tI_2, tI_3, tI_4, tI_5, tI_7, tI_8, tI_10, tI_15, tI_16, tI_20, tI_31, tI_125, tI_191, tI_255, tI_256, tI_980, tI_1000, tI_4095, tI_4096, tI_8191, tI_8192, tI_16383, tI_16384, tI_32767, tI_32768, tI_33791, tI_33792, tI_40959, tI_40960, tI_65535, tI_65536]; omega))), by rw [ht]; exact hP9, va_K.moved hW.alike hK9, hD9⟩, hS.F ht⟩) hS.2.2 dX7_picture_25
  · refine lv_if_eq (tgt := 26) hx hb dX7_picture_13 (by decide) (fun _ => ?_) (fun h => absurd (by decide) h)
    refine lv_iload_n hx hb dX7_picture_26 rfl (lv_at hl 1 rfl) ?_
    rcases sw_0_3 p0 with c27_5 | rfl | rfl | rfl | rfl
    · refine lv_tableOut (tgt := 92) hx hb dX7_picture_27 c27_5 (by decide) ?_
      refine lv_iconst (v := (-1)) hx hb dX7_picture_92 (by decide) ?_
      have hP9 := hP.sub (ws' := []) [] rfl
      have hD9 := hD.sub (ws' := []) [] (by decide) rfl
      have hK9 := hK.sub (tys' := []) [] rfl
      exact W.iret (v := (-1)) hx hb hr (fun t ht hW => ⟨⟨(-1), (), rfl, by (first | decide | ((try subst_vars); (try dsimp only); (try simp only [fa_lt, fa_le, fa_eq, tI_m1, tI_0, tI_1, tI_2, tI_3, tI_4, tI_5, tI_7, tI_8, tI_10, tI_15, tI_16, tI_20, tI_31, tI_125, tI_191, tI_255, tI_256, tI_980, tI_1000, tI_4095, tI_4096, tI_8191, tI_8192, tI_16383, tI_16384, tI_32767, tI_32768, tI_33791, tI_33792, tI_40959, tI_40960, tI_65535, tI_65536] at hw_2); (try simp only [fa_lt, fa_le, fa_eq, tI_m1, tI_0, tI_1, tI_2, tI_3, tI_4, tI_5, tI_7, tI_8, tI_10, tI_15, tI_16, tI_20, tI_31, tI_125, tI_191, tI_255, tI_256, tI_980, tI_1000, tI_4095, tI_4096, tI_8191, tI_8192, tI_16383, tI_16384, tI_32767, tI_32768, tI_33791, tI_33792, tI_40959, tI_40960, tI_65535, tI_65536] at h8); (try simp only [fa_lt, fa_le, fa_eq, tI_m1, tI_0, tI_1, tI_2, tI_3, tI_4, tI_5, tI_7, tI_8, tI_10, tI_15, tI_16, tI_20, tI_31, tI_125, tI_191, tI_255, tI_256, tI_980, tI_1000, tI_4095, tI_4096, tI_8191, tI_8192, tI_16383, tI_16384, tI_32767, tI_32768, tI_33791, tI_33792, tI_40959, tI_40960, tI_65535, tI_65536] at c27_5); (have k0 := tI_0); (have k1 := tI_1); (have k2 := tI_2); (have k3 := tI_3); unfold sp_picture; (repeat' split) <;> first | rfl | omega | (simp only [fa_lt, fa_le, fa_eq, tI_m1, tI_0, tI_1, tI_2, tI_3, tI_4, tI_5, tI_7, tI_8, tI_10, tI_15, tI_16, tI_20, tI_31, tI_125, tI_191, tI_255, tI_256, tI_980, tI_1000, tI_4095, tI_4096, tI_8191, tI_8192, tI_16383, tI_16384, tI_32767, tI_32768, tI_33791, tI_33792, tI_40959, tI_40960, tI_65535, tI_65536]; omega))), by rw [ht]; exact hP9, va_K.moved hW.alike hK9, hD9⟩, hS.F ht⟩) hS.2.2 dX7_picture_93
    · refine lv_tableIn (tgt := 56) hx hb dX7_picture_27 (by decide) (by decide) rfl (by decide) ?_
      refine lv_aload_n hx hb dX7_picture_56 rfl (lv_at hl 0 rfl) ?_
      refine va_get (D := (dC, dI)) (ci := 7) (v := .int 0) (C := RX7) (T := TX7) (N := 26) hx hb hts in_X7_picture_X7 hown hK hP 0 rfl rfl 5 (by decide) (hts (.fieldLink RX7 80 "WorkspaceBoxModel" "pictureAt" "I") (by decide +kernel)) (fun _ h9 => h9) rfl dX7_picture_57 ?_
      have hP9 := hP.sub (ws' := []) [] rfl
      have hD9 := hD.sub (ws' := []) [] (by decide) rfl
      have hK9 := hK.sub (tys' := []) [] rfl
      exact W.iret (v := 0) hx hb hr (fun t ht hW => ⟨⟨0, (), rfl, by (first | decide | ((try subst_vars); (try dsimp only); (try simp only [fa_lt, fa_le, fa_eq, tI_m1, tI_0, tI_1, tI_2, tI_3, tI_4, tI_5, tI_7, tI_8, tI_10, tI_15, tI_16, tI_20, tI_31, tI_125, tI_191, tI_255, tI_256, tI_980, tI_1000, tI_4095, tI_4096, tI_8191, tI_8192, tI_16383, tI_16384, tI_32767, tI_32768, tI_33791, tI_33792, tI_40959, tI_40960, tI_65535, tI_65536] at hw_2); (try simp only [fa_lt, fa_le, fa_eq, tI_m1, tI_0, tI_1, tI_2, tI_3, tI_4, tI_5, tI_7, tI_8, tI_10, tI_15, tI_16, tI_20, tI_31, tI_125, tI_191, tI_255, tI_256, tI_980, tI_1000, tI_4095, tI_4096, tI_8191, tI_8192, tI_16383, tI_16384, tI_32767, tI_32768, tI_33791, tI_33792, tI_40959, tI_40960, tI_65535, tI_65536] at h8); (have k0 := tI_0); (have k1 := tI_1); (have k2 := tI_2); (have k3 := tI_3); unfold sp_picture; (repeat' split) <;> first | rfl | omega | (simp only [fa_lt, fa_le, fa_eq, tI_m1, tI_0, tI_1, tI_2, tI_3, tI_4, tI_5, tI_7, tI_8, tI_10, tI_15, tI_16, tI_20, tI_31, tI_125, tI_191, tI_255, tI_256, tI_980, tI_1000, tI_4095, tI_4096, tI_8191, tI_8192, tI_16383, tI_16384, tI_32767, tI_32768, tI_33791, tI_33792, tI_40959, tI_40960, tI_65535, tI_65536]; omega))), by rw [ht]; exact hP9, va_K.moved hW.alike hK9, hD9⟩, hS.F ht⟩) hS.2.2 dX7_picture_60
    · refine lv_tableIn (tgt := 61) hx hb dX7_picture_27 (by decide) (by decide) rfl (by decide) ?_
      refine lv_aload_n hx hb dX7_picture_61 rfl (lv_at hl 0 rfl) ?_
      refine va_get (D := (dC, dI)) (ci := 7) (v := .int 0) (C := RX7) (T := TX7) (N := 26) hx hb hts in_X7_picture_X7 hown hK hP 0 rfl rfl 6 (by decide) (hts (.fieldLink RX7 83 "WorkspaceBoxModel" "pictureBuffer" "I") (by decide +kernel)) (fun _ h9 => h9) rfl dX7_picture_62 ?_
      have hP9 := hP.sub (ws' := []) [] rfl
      have hD9 := hD.sub (ws' := []) [] (by decide) rfl
      have hK9 := hK.sub (tys' := []) [] rfl
      exact W.iret (v := 0) hx hb hr (fun t ht hW => ⟨⟨0, (), rfl, by (first | decide | ((try subst_vars); (try dsimp only); (try simp only [fa_lt, fa_le, fa_eq, tI_m1, tI_0, tI_1, tI_2, tI_3, tI_4, tI_5, tI_7, tI_8, tI_10, tI_15, tI_16, tI_20, tI_31, tI_125, tI_191, tI_255, tI_256, tI_980, tI_1000, tI_4095, tI_4096, tI_8191, tI_8192, tI_16383, tI_16384, tI_32767, tI_32768, tI_33791, tI_33792, tI_40959, tI_40960, tI_65535, tI_65536] at hw_2); (try simp only [fa_lt, fa_le, fa_eq, tI_m1, tI_0, tI_1, tI_2, tI_3, tI_4, tI_5, tI_7, tI_8, tI_10, tI_15, tI_16, tI_20, tI_31, tI_125, tI_191, tI_255, tI_256, tI_980, tI_1000, tI_4095, tI_4096, tI_8191, tI_8192, tI_16383, tI_16384, tI_32767, tI_32768, tI_33791, tI_33792, tI_40959, tI_40960, tI_65535, tI_65536] at h8); (have k0 := tI_0); (have k1 := tI_1); (have k2 := tI_2); (have k3 := tI_3); unfold sp_picture; (repeat' split) <;> first | rfl | omega | (simp only [fa_lt, fa_le, fa_eq, tI_m1, tI_0, tI_1, tI_2, tI_3, tI_4, tI_5, tI_7, tI_8, tI_10, tI_15, tI_16, tI_20, tI_31, tI_125, tI_191, tI_255, tI_256, tI_980, tI_1000, tI_4095, tI_4096, tI_8191, tI_8192, tI_16383, tI_16384, tI_32767, tI_32768, tI_33791, tI_33792, tI_40959, tI_40960, tI_65535, tI_65536]; omega))), by rw [ht]; exact hP9, va_K.moved hW.alike hK9, hD9⟩, hS.F ht⟩) hS.2.2 dX7_picture_65
    · refine lv_tableIn (tgt := 66) hx hb dX7_picture_27 (by decide) (by decide) rfl (by decide) ?_
      refine lv_aload_n hx hb dX7_picture_66 rfl (lv_at hl 0 rfl) ?_
      refine va_get (D := (dC, dI)) (ci := 7) (v := .int 0) (C := RX7) (T := TX7) (N := 26) hx hb hts in_X7_picture_X7 hown hK hP 0 rfl rfl 8 (by decide) (hts (.fieldLink RX7 95 "WorkspaceBoxModel" "pictureFull" "Z") (by decide +kernel)) (fun _ h9 => h9) rfl dX7_picture_67 ?_
      refine lv_if_eq (tgt := 77) hx hb dX7_picture_70 (by decide) (fun _ => ?_) (fun h => absurd (by decide) h)
      refine lv_iconst (v := 0) hx hb dX7_picture_77 (by decide) ?_
      have hP9 := hP.sub (ws' := []) [] rfl
      have hD9 := hD.sub (ws' := []) [] (by decide) rfl
      have hK9 := hK.sub (tys' := []) [] rfl
      exact W.iret (v := 0) hx hb hr (fun t ht hW => ⟨⟨0, (), rfl, by (first | decide | ((try subst_vars); (try dsimp only); (try simp only [fa_lt, fa_le, fa_eq, tI_m1, tI_0, tI_1, tI_2, tI_3, tI_4, tI_5, tI_7, tI_8, tI_10, tI_15, tI_16, tI_20, tI_31, tI_125, tI_191, tI_255, tI_256, tI_980, tI_1000, tI_4095, tI_4096, tI_8191, tI_8192, tI_16383, tI_16384, tI_32767, tI_32768, tI_33791, tI_33792, tI_40959, tI_40960, tI_65535, tI_65536] at hw_2); (try simp only [fa_lt, fa_le, fa_eq, tI_m1, tI_0, tI_1, tI_2, tI_3, tI_4, tI_5, tI_7, tI_8, tI_10, tI_15, tI_16, tI_20, tI_31, tI_125, tI_191, tI_255, tI_256, tI_980, tI_1000, tI_4095, tI_4096, tI_8191, tI_8192, tI_16383, tI_16384, tI_32767, tI_32768, tI_33791, tI_33792, tI_40959, tI_40960, tI_65535, tI_65536] at h8); (have k0 := tI_0); (have k1 := tI_1); (have k2 := tI_2); (have k3 := tI_3); unfold sp_picture; (repeat' split) <;> first | rfl | omega | (simp only [fa_lt, fa_le, fa_eq, tI_m1, tI_0, tI_1, tI_2, tI_3, tI_4, tI_5, tI_7, tI_8, tI_10, tI_15, tI_16, tI_20, tI_31, tI_125, tI_191, tI_255, tI_256, tI_980, tI_1000, tI_4095, tI_4096, tI_8191, tI_8192, tI_16383, tI_16384, tI_32767, tI_32768, tI_33791, tI_33792, tI_40959, tI_40960, tI_65535, tI_65536]; omega))), by rw [ht]; exact hP9, va_K.moved hW.alike hK9, hD9⟩, hS.F ht⟩) hS.2.2 dX7_picture_78
    · refine lv_tableIn (tgt := 79) hx hb dX7_picture_27 (by decide) (by decide) rfl (by decide) ?_
      refine lv_aload_n hx hb dX7_picture_79 rfl (lv_at hl 0 rfl) ?_
      refine va_get (D := (dC, dI)) (ci := 7) (v := .int 0) (C := RX7) (T := TX7) (N := 26) hx hb hts in_X7_picture_X7 hown hK hP 0 rfl rfl 9 (by decide) (hts (.fieldLink RX7 99 "WorkspaceBoxModel" "shown" "Z") (by decide +kernel)) (fun _ h9 => h9) rfl dX7_picture_80 ?_
      refine lv_if_eq (tgt := 90) hx hb dX7_picture_83 (by decide) (fun _ => ?_) (fun h => absurd (by decide) h)
      refine lv_iconst (v := 0) hx hb dX7_picture_90 (by decide) ?_
      have hP9 := hP.sub (ws' := []) [] rfl
      have hD9 := hD.sub (ws' := []) [] (by decide) rfl
      have hK9 := hK.sub (tys' := []) [] rfl
      exact W.iret (v := 0) hx hb hr (fun t ht hW => ⟨⟨0, (), rfl, by (first | decide | ((try subst_vars); (try dsimp only); (try simp only [fa_lt, fa_le, fa_eq, tI_m1, tI_0, tI_1, tI_2, tI_3, tI_4, tI_5, tI_7, tI_8, tI_10, tI_15, tI_16, tI_20, tI_31, tI_125, tI_191, tI_255, tI_256, tI_980, tI_1000, tI_4095, tI_4096, tI_8191, tI_8192, tI_16383, tI_16384, tI_32767, tI_32768, tI_33791, tI_33792, tI_40959, tI_40960, tI_65535, tI_65536] at hw_2); (try simp only [fa_lt, fa_le, fa_eq, tI_m1, tI_0, tI_1, tI_2, tI_3, tI_4, tI_5, tI_7, tI_8, tI_10, tI_15, tI_16, tI_20, tI_31, tI_125, tI_191, tI_255, tI_256, tI_980, tI_1000, tI_4095, tI_4096, tI_8191, tI_8192, tI_16383, tI_16384, tI_32767, tI_32768, tI_33791, tI_33792, tI_40959, tI_40960, tI_65535, tI_65536] at h8); (have k0 := tI_0); (have k1 := tI_1); (have k2 := tI_2); (have k3 := tI_3); unfold sp_picture; (repeat' split) <;> first | rfl | omega | (simp only [fa_lt, fa_le, fa_eq, tI_m1, tI_0, tI_1, tI_2, tI_3, tI_4, tI_5, tI_7, tI_8, tI_10, tI_15, tI_16, tI_20, tI_31, tI_125, tI_191, tI_255, tI_256, tI_980, tI_1000, tI_4095, tI_4096, tI_8191, tI_8192, tI_16383, tI_16384, tI_32767, tI_32768, tI_33791, tI_33792, tI_40959, tI_40960, tI_65535, tI_65536]; omega))), by rw [ht]; exact hP9, va_K.moved hW.alike hK9, hD9⟩, hS.F ht⟩) hS.2.2 dX7_picture_91

theorem in_X7_grom_X7 : ∀ w ∈ wsX70, w ∈ wsX7_grom := by decide +kernel
set_option maxHeartbeats 1000000 in
set_option maxRecDepth 100000 in
theorem m_grom (l : Launch) (dC : Nat → ClassId) (dI : Nat → Nat → Nat) (y yo ya yv yg yp yu yk yq yt : Nat) (eo ea ev eg ep eu ek eq et : ClassId) (p0 : Int32) (sz : Nat)  : Met l yX7_grom wsX7_grom ({ frames := 0, cells := 0, slots := 0, locals := 0 }) (va_Pc [.ref y, .int p0] (fun U => U.heap.size = sz ∧ va_P (dC, dI) vwCl [(y, .inr (7, [.int 0, .ref yo, .ref ya, .ref yv, .ref yg, .int 0, .int 0, .int 0, .int 0, .int 0, .ref yp, .int 0, .int 0, .int 0, .ref yu, .ref yk, .int 0, .int 0, .int 0, .int 2, .int 0, .int 0, .ref yq, .int 0, .ref yt, .int 0]))] U.heap ∧ va_K (dC, dI) vwCl [] U ∧ va_D (fun _ => True) [(y, .inr (7, [.int 0, .ref yo, .ref ya, .ref yv, .ref yg, .int 0, .int 0, .int 0, .int 0, .int 0, .ref yp, .int 0, .int 0, .int 0, .ref yu, .ref yk, .int 0, .int 0, .int 0, .int 2, .int 0, .int 0, .ref yq, .int 0, .ref yt, .int 0]))])) (va_Qi (fun (r : Int32) (_ : Unit) => r = sp_grom p0) (fun (u : Unit) (t : State) => va_P (dC, dI) vwCl [] t.heap ∧ va_K (dC, dI) vwCl [] t ∧ va_D (va_A [(y, .inr (7, [.int 0, .ref yo, .ref ya, .ref yv, .ref yg, .int 0, .int 0, .int 0, .int 0, .int 0, .ref yp, .int 0, .int 0, .int 0, .ref yu, .ref yk, .int 0, .int 0, .int 0, .int 2, .int 0, .int 0, .ref yq, .int 0, .ref yt, .int 0]))] sz) []) (va_A [(y, .inr (7, [.int 0, .ref yo, .ref ya, .ref yv, .ref yg, .int 0, .int 0, .int 0, .int 0, .int 0, .ref yp, .int 0, .int 0, .int 0, .ref yu, .ref yk, .int 0, .int 0, .int 0, .int 2, .int 0, .int 0, .ref yq, .int 0, .ref yt, .int 0]))] sz)) 0 0 (va_A [(y, .inr (7, [.int 0, .ref yo, .ref ya, .ref yv, .ref yg, .int 0, .int 0, .int 0, .int 0, .int 0, .ref yp, .int 0, .int 0, .int 0, .ref yu, .ref yk, .int 0, .int 0, .int 0, .int 2, .int 0, .int 0, .ref yq, .int 0, .ref yt, .int 0]))] sz) := by
  refine Met.ofW (cc := cX7_grom) (maxL := 2) (ret := (some .int)) (by decide) rfl ?_
  intro p e s m args below meth c s₁ B hml hv
  obtain ⟨rfl, hsz, hP, hK, hD0⟩ := hv
  have hx := B.exec
  have hb := B.bytes
  have hr := B.returns
  have hts := atoms_spec (ws := wsX7_grom) B.pre
  have hown : s.vm.findClass RX7 = some m.cls := findClass_of_methodNamed B.named
  have hlocks := B.notSynchronized
  subst hsz
  have hD := hD0.self (sz := s.heap.size)
  generalize hAe : va_A [(y, .inr (7, [.int 0, .ref yo, .ref ya, .ref yv, .ref yg, .int 0, .int 0, .int 0, .int 0, .int 0, .ref yp, .int 0, .int 0, .int 0, .ref yu, .ref yk, .int 0, .int 0, .int 0, .int 2, .int 0, .int 0, .ref yq, .int 0, .ref yt, .int 0]))] s.heap.size = A at hD ⊢
  have hA : ∀ q : Nat, s.heap.size ≤ q → A q := fun q h => by rw [← hAe]; exact Or.inr h
  have hS : va_S A s.heap s.heap [] := va_S.rf
  have hP : va_P (dC, dI) vwCl [(y, .inr (7, [.int 0, .ref yo, .ref ya, .ref yv, .ref yg, .int 0, .int 0, .int 0, .int 0, .int 0, .ref yp, .int 0, .int 0, .int 0, .ref yu, .ref yk, .int 0, .int 0, .int 0, .int 2, .int 0, .int 0, .ref yq, .int 0, .ref yt, .int 0]))] s.heap := hP
  have hl := lv_entry ([.ref y, .int p0]) (n := 2) (Nat.le_of_ble_eq_true rfl)
  rw [lg_entry_eq]
  generalize (lg_sl ([.ref y, .int p0]) ++ List.replicate (2 - (lg_sl ([.ref y, .int p0])).length) Slot.unset).toArray = ls at hl ⊢
  have hl : lv_has ls 2 [(0, .ref y), (1, .int p0)] := hl
  refine lv_aload_n hx hb dX7_grom_0 rfl (lv_at hl 0 rfl) ?_
  refine lv_iconst (v := 0) hx hb dX7_grom_1 (by decide) ?_
  refine va_put (D := (dC, dI)) (ci := 7) (v := .int 0) (ty := .int) (C := RX7) (T := TX7) (N := 26) hx hb hts in_X7_grom_X7 tyX7 tyX7_ok nmX7 hown hK hP hD hS 0 rfl rfl 0 (by decide) (hts (.fieldLink RX7 44 "WorkspaceBoxModel" "thrown" "I") (by decide +kernel)) (fun _ h9 => h9) rfl (by decide +kernel) rfl rfl (Nat.le_of_ble_eq_true rfl) dX7_grom_2 (fun H locs hP hD hS => ?_)
  have hP : va_P (dC, dI) vwCl [(y, .inr (7, [.int 0, .ref yo, .ref ya, .ref yv, .ref yg, .int 0, .int 0, .int 0, .int 0, .int 0, .ref yp, .int 0, .int 0, .int 0, .ref yu, .ref yk, .int 0, .int 0, .int 0, .int 2, .int 0, .int 0, .ref yq, .int 0, .ref yt, .int 0]))] H := hP
  have hD : va_D A [(y, .inr (7, [.int 0, .ref yo, .ref ya, .ref yv, .ref yg, .int 0, .int 0, .int 0, .int 0, .int 0, .ref yp, .int 0, .int 0, .int 0, .ref yu, .ref yk, .int 0, .int 0, .int 0, .int 2, .int 0, .int 0, .ref yq, .int 0, .ref yt, .int 0]))] := hD
  refine lv_iload_n hx hb dX7_grom_5 rfl (lv_at hl 1 rfl) ?_
  refine lv_if_ne (tgt := 16) hx hb dX7_grom_6 (by decide) (fun c6_1 => ?_) (fun c6_1 => ?_)
  · refine lv_iload_n hx hb dX7_grom_16 rfl (lv_at hl 1 rfl) ?_
    refine lv_iconst (v := 1) hx hb dX7_grom_17 (by decide) ?_
    refine lv_icmp_ne (tgt := 28) hx hb dX7_grom_18 (by decide) (fun c18_2 => ?_) (fun c18_2 => ?_)
    · refine lv_iload_n hx hb dX7_grom_28 rfl (lv_at hl 1 rfl) ?_
      refine lv_iconst (v := 2) hx hb dX7_grom_29 (by decide) ?_
      refine lv_icmp_ne (tgt := 48) hx hb dX7_grom_30 (by decide) (fun c30_3 => ?_) (fun c30_3 => ?_)
      · refine lv_iconst (v := (-1)) hx hb dX7_grom_48 (by decide) ?_
        have hP9 := hP.sub (ws' := []) [] rfl
        have hD9 := hD.sub (ws' := []) [] (by decide) rfl
        have hK9 := hK.sub (tys' := []) [] rfl
        exact W.iret (v := (-1)) hx hb hr (fun t ht hW => ⟨⟨(-1), (), rfl, by (first | decide | ((try subst_vars); (try dsimp only); (try simp only [fa_lt, fa_le, fa_eq, tI_m1, tI_0, tI_1, tI_2, tI_3, tI_4, tI_5, tI_7, tI_8, tI_10, tI_15, tI_16, tI_20, tI_31, tI_125, tI_191, tI_255, tI_256, tI_980, tI_1000, tI_4095, tI_4096, tI_8191, tI_8192, tI_16383, tI_16384, tI_32767, tI_32768, tI_33791, tI_33792, tI_40959, tI_40960, tI_65535, tI_65536] at c6_1); (try simp only [fa_lt, fa_le, fa_eq, tI_m1, tI_0, tI_1, tI_2, tI_3, tI_4, tI_5, tI_7, tI_8, tI_10, tI_15, tI_16, tI_20, tI_31, tI_125, tI_191, tI_255, tI_256, tI_980, tI_1000, tI_4095, tI_4096, tI_8191, tI_8192, tI_16383, tI_16384, tI_32767, tI_32768, tI_33791, tI_33792, tI_40959, tI_40960, tI_65535, tI_65536] at c18_2); (try simp only [fa_lt, fa_le, fa_eq, tI_m1, tI_0, tI_1, tI_2, tI_3, tI_4, tI_5, tI_7, tI_8, tI_10, tI_15, tI_16, tI_20, tI_31, tI_125, tI_191, tI_255, tI_256, tI_980, tI_1000, tI_4095, tI_4096, tI_8191, tI_8192, tI_16383, tI_16384, tI_32767, tI_32768, tI_33791, tI_33792, tI_40959, tI_40960, tI_65535, tI_65536] at c30_3); (have k0 := tI_0); (have k1 := tI_1); (have k2 := tI_2); (have k3 := tI_3); unfold sp_grom; (repeat' split) <;> first | rfl | omega | (simp only [fa_lt, fa_le, fa_eq, tI_m1, tI_0, tI_1, tI_2, tI_3, tI_4, tI_5, tI_7, tI_8, tI_10, tI_15, tI_16, tI_20, tI_31, tI_125, tI_191, tI_255, tI_256, tI_980, tI_1000, tI_4095, tI_4096, tI_8191, tI_8192, tI_16383, tI_16384, tI_32767, tI_32768, tI_33791, tI_33792, tI_40959, tI_40960, tI_65535, tI_65536]; omega))), by rw [ht]; exact hP9, va_K.moved hW.alike hK9, hD9⟩, hS.F ht⟩) hS.2.2 dX7_grom_49
      · refine lv_aload_n hx hb dX7_grom_33 rfl (lv_at hl 0 rfl) ?_
        refine va_get (D := (dC, dI)) (ci := 7) (v := .int 0) (C := RX7) (T := TX7) (N := 26) hx hb hts in_X7_grom_X7 hown hK hP 0 rfl rfl 13 (by decide) (hts (.fieldLink RX7 105 "WorkspaceBoxModel" "gromFull" "Z") (by decide +kernel)) (fun _ h9 => h9) rfl dX7_grom_34 ?_
        refine lv_if_eq (tgt := 44) hx hb dX7_grom_37 (by decide) (fun _ => ?_) (fun h => absurd (by decide) h)
        refine lv_iconst (v := 0) hx hb dX7_grom_44 (by decide) ?_
        refine lv_goto (tgt := 49) hx hb dX7_grom_45 (by decide) ?_
        have hP9 := hP.sub (ws' := []) [] rfl
        have hD9 := hD.sub (ws' := []) [] (by decide) rfl
        have hK9 := hK.sub (tys' := []) [] rfl
        exact W.iret (v := 0) hx hb hr (fun t ht hW => ⟨⟨0, (), rfl, by (first | decide | ((try subst_vars); (try dsimp only); (try simp only [fa_lt, fa_le, fa_eq, tI_m1, tI_0, tI_1, tI_2, tI_3, tI_4, tI_5, tI_7, tI_8, tI_10, tI_15, tI_16, tI_20, tI_31, tI_125, tI_191, tI_255, tI_256, tI_980, tI_1000, tI_4095, tI_4096, tI_8191, tI_8192, tI_16383, tI_16384, tI_32767, tI_32768, tI_33791, tI_33792, tI_40959, tI_40960, tI_65535, tI_65536] at c6_1); (try simp only [fa_lt, fa_le, fa_eq, tI_m1, tI_0, tI_1, tI_2, tI_3, tI_4, tI_5, tI_7, tI_8, tI_10, tI_15, tI_16, tI_20, tI_31, tI_125, tI_191, tI_255, tI_256, tI_980, tI_1000, tI_4095, tI_4096, tI_8191, tI_8192, tI_16383, tI_16384, tI_32767, tI_32768, tI_33791, tI_33792, tI_40959, tI_40960, tI_65535, tI_65536] at c18_2); (try simp only [fa_lt, fa_le, fa_eq, tI_m1, tI_0, tI_1, tI_2, tI_3, tI_4, tI_5, tI_7, tI_8, tI_10, tI_15, tI_16, tI_20, tI_31, tI_125, tI_191, tI_255, tI_256, tI_980, tI_1000, tI_4095, tI_4096, tI_8191, tI_8192, tI_16383, tI_16384, tI_32767, tI_32768, tI_33791, tI_33792, tI_40959, tI_40960, tI_65535, tI_65536] at c30_3); (have k0 := tI_0); (have k1 := tI_1); (have k2 := tI_2); (have k3 := tI_3); unfold sp_grom; (repeat' split) <;> first | rfl | omega | (simp only [fa_lt, fa_le, fa_eq, tI_m1, tI_0, tI_1, tI_2, tI_3, tI_4, tI_5, tI_7, tI_8, tI_10, tI_15, tI_16, tI_20, tI_31, tI_125, tI_191, tI_255, tI_256, tI_980, tI_1000, tI_4095, tI_4096, tI_8191, tI_8192, tI_16383, tI_16384, tI_32767, tI_32768, tI_33791, tI_33792, tI_40959, tI_40960, tI_65535, tI_65536]; omega))), by rw [ht]; exact hP9, va_K.moved hW.alike hK9, hD9⟩, hS.F ht⟩) hS.2.2 dX7_grom_49
    · refine lv_aload_n hx hb dX7_grom_21 rfl (lv_at hl 0 rfl) ?_
      refine va_get (D := (dC, dI)) (ci := 7) (v := .int 0) (C := RX7) (T := TX7) (N := 26) hx hb hts in_X7_grom_X7 hown hK hP 0 rfl rfl 12 (by decide) (hts (.fieldLink RX7 89 "WorkspaceBoxModel" "gromBuffer" "I") (by decide +kernel)) (fun _ h9 => h9) rfl dX7_grom_22 ?_
      refine lv_goto (tgt := 49) hx hb dX7_grom_25 (by decide) ?_
      have hP9 := hP.sub (ws' := []) [] rfl
      have hD9 := hD.sub (ws' := []) [] (by decide) rfl
      have hK9 := hK.sub (tys' := []) [] rfl
      exact W.iret (v := 0) hx hb hr (fun t ht hW => ⟨⟨0, (), rfl, by (first | decide | ((try subst_vars); (try dsimp only); (try simp only [fa_lt, fa_le, fa_eq, tI_m1, tI_0, tI_1, tI_2, tI_3, tI_4, tI_5, tI_7, tI_8, tI_10, tI_15, tI_16, tI_20, tI_31, tI_125, tI_191, tI_255, tI_256, tI_980, tI_1000, tI_4095, tI_4096, tI_8191, tI_8192, tI_16383, tI_16384, tI_32767, tI_32768, tI_33791, tI_33792, tI_40959, tI_40960, tI_65535, tI_65536] at c6_1); (try simp only [fa_lt, fa_le, fa_eq, tI_m1, tI_0, tI_1, tI_2, tI_3, tI_4, tI_5, tI_7, tI_8, tI_10, tI_15, tI_16, tI_20, tI_31, tI_125, tI_191, tI_255, tI_256, tI_980, tI_1000, tI_4095, tI_4096, tI_8191, tI_8192, tI_16383, tI_16384, tI_32767, tI_32768, tI_33791, tI_33792, tI_40959, tI_40960, tI_65535, tI_65536] at c18_2); (have k0 := tI_0); (have k1 := tI_1); (have k2 := tI_2); (have k3 := tI_3); unfold sp_grom; (repeat' split) <;> first | rfl | omega | (simp only [fa_lt, fa_le, fa_eq, tI_m1, tI_0, tI_1, tI_2, tI_3, tI_4, tI_5, tI_7, tI_8, tI_10, tI_15, tI_16, tI_20, tI_31, tI_125, tI_191, tI_255, tI_256, tI_980, tI_1000, tI_4095, tI_4096, tI_8191, tI_8192, tI_16383, tI_16384, tI_32767, tI_32768, tI_33791, tI_33792, tI_40959, tI_40960, tI_65535, tI_65536]; omega))), by rw [ht]; exact hP9, va_K.moved hW.alike hK9, hD9⟩, hS.F ht⟩) hS.2.2 dX7_grom_49
  · refine lv_aload_n hx hb dX7_grom_9 rfl (lv_at hl 0 rfl) ?_
    refine va_get (D := (dC, dI)) (ci := 7) (v := .int 0) (C := RX7) (T := TX7) (N := 26) hx hb hts in_X7_grom_X7 hown hK hP 0 rfl rfl 11 (by decide) (hts (.fieldLink RX7 86 "WorkspaceBoxModel" "gromAt" "I") (by decide +kernel)) (fun _ h9 => h9) rfl dX7_grom_10 ?_
    refine lv_goto (tgt := 49) hx hb dX7_grom_13 (by decide) ?_
    have hP9 := hP.sub (ws' := []) [] rfl
    have hD9 := hD.sub (ws' := []) [] (by decide) rfl
    have hK9 := hK.sub (tys' := []) [] rfl
    exact W.iret (v := 0) hx hb hr (fun t ht hW => ⟨⟨0, (), rfl, by (first | decide | ((try subst_vars); (try dsimp only); (try simp only [fa_lt, fa_le, fa_eq, tI_m1, tI_0, tI_1, tI_2, tI_3, tI_4, tI_5, tI_7, tI_8, tI_10, tI_15, tI_16, tI_20, tI_31, tI_125, tI_191, tI_255, tI_256, tI_980, tI_1000, tI_4095, tI_4096, tI_8191, tI_8192, tI_16383, tI_16384, tI_32767, tI_32768, tI_33791, tI_33792, tI_40959, tI_40960, tI_65535, tI_65536] at c6_1); (have k0 := tI_0); (have k1 := tI_1); (have k2 := tI_2); (have k3 := tI_3); unfold sp_grom; (repeat' split) <;> first | rfl | omega | (simp only [fa_lt, fa_le, fa_eq, tI_m1, tI_0, tI_1, tI_2, tI_3, tI_4, tI_5, tI_7, tI_8, tI_10, tI_15, tI_16, tI_20, tI_31, tI_125, tI_191, tI_255, tI_256, tI_980, tI_1000, tI_4095, tI_4096, tI_8191, tI_8192, tI_16383, tI_16384, tI_32767, tI_32768, tI_33791, tI_33792, tI_40959, tI_40960, tI_65535, tI_65536]; omega))), by rw [ht]; exact hP9, va_K.moved hW.alike hK9, hD9⟩, hS.F ht⟩) hS.2.2 dX7_grom_49

theorem in_X7_frame_X7 : ∀ w ∈ wsX70, w ∈ wsX7_frame := by decide +kernel
set_option maxHeartbeats 1000000 in
set_option maxRecDepth 100000 in
theorem m_frame (l : Launch) (dC : Nat → ClassId) (dI : Nat → Nat → Nat) (y yo ya yv yg yp yu yk yq yt : Nat) (eo ea ev eg ep eu ek eq et : ClassId) (sz : Nat)  : Met l yX7_frame wsX7_frame ({ frames := 0, cells := 0, slots := 0, locals := 0 }) (va_Pc [.ref y] (fun U => U.heap.size = sz ∧ va_P (dC, dI) vwCl [(y, .inr (7, [.int 0, .ref yo, .ref ya, .ref yv, .ref yg, .int 0, .int 0, .int 0, .int 0, .int 0, .ref yp, .int 0, .int 0, .int 0, .ref yu, .ref yk, .int 0, .int 0, .int 0, .int 2, .int 0, .int 0, .ref yq, .int 0, .ref yt, .int 0]))] U.heap ∧ va_K (dC, dI) vwCl [] U ∧ va_D (fun _ => True) [(y, .inr (7, [.int 0, .ref yo, .ref ya, .ref yv, .ref yg, .int 0, .int 0, .int 0, .int 0, .int 0, .ref yp, .int 0, .int 0, .int 0, .ref yu, .ref yk, .int 0, .int 0, .int 0, .int 2, .int 0, .int 0, .ref yq, .int 0, .ref yt, .int 0]))])) (va_Qv (fun (_ : Unit) => True) (fun (u : Unit) (t : State) => va_P (dC, dI) vwCl [] t.heap ∧ va_K (dC, dI) vwCl [] t ∧ va_D (va_A [(y, .inr (7, [.int 0, .ref yo, .ref ya, .ref yv, .ref yg, .int 0, .int 0, .int 0, .int 0, .int 0, .ref yp, .int 0, .int 0, .int 0, .ref yu, .ref yk, .int 0, .int 0, .int 0, .int 2, .int 0, .int 0, .ref yq, .int 0, .ref yt, .int 0]))] sz) []) (va_A [(y, .inr (7, [.int 0, .ref yo, .ref ya, .ref yv, .ref yg, .int 0, .int 0, .int 0, .int 0, .int 0, .ref yp, .int 0, .int 0, .int 0, .ref yu, .ref yk, .int 0, .int 0, .int 0, .int 2, .int 0, .int 0, .ref yq, .int 0, .ref yt, .int 0]))] sz)) 0 0 (va_A [(y, .inr (7, [.int 0, .ref yo, .ref ya, .ref yv, .ref yg, .int 0, .int 0, .int 0, .int 0, .int 0, .ref yp, .int 0, .int 0, .int 0, .ref yu, .ref yk, .int 0, .int 0, .int 0, .int 2, .int 0, .int 0, .ref yq, .int 0, .ref yt, .int 0]))] sz) := by
  refine Met.ofW (cc := cX7_frame) (maxL := 1) (ret := none) (by decide) rfl ?_
  intro p e s m args below meth c s₁ B hml hv
  obtain ⟨rfl, hsz, hP, hK, hD0⟩ := hv
  have hx := B.exec
  have hb := B.bytes
  have hr := B.returns
  have hts := atoms_spec (ws := wsX7_frame) B.pre
  have hown : s.vm.findClass RX7 = some m.cls := findClass_of_methodNamed B.named
  have hlocks := B.notSynchronized
  subst hsz
  have hD := hD0.self (sz := s.heap.size)
  generalize hAe : va_A [(y, .inr (7, [.int 0, .ref yo, .ref ya, .ref yv, .ref yg, .int 0, .int 0, .int 0, .int 0, .int 0, .ref yp, .int 0, .int 0, .int 0, .ref yu, .ref yk, .int 0, .int 0, .int 0, .int 2, .int 0, .int 0, .ref yq, .int 0, .ref yt, .int 0]))] s.heap.size = A at hD ⊢
  have hA : ∀ q : Nat, s.heap.size ≤ q → A q := fun q h => by rw [← hAe]; exact Or.inr h
  have hS : va_S A s.heap s.heap [] := va_S.rf
  have hP : va_P (dC, dI) vwCl [(y, .inr (7, [.int 0, .ref yo, .ref ya, .ref yv, .ref yg, .int 0, .int 0, .int 0, .int 0, .int 0, .ref yp, .int 0, .int 0, .int 0, .ref yu, .ref yk, .int 0, .int 0, .int 0, .int 2, .int 0, .int 0, .ref yq, .int 0, .ref yt, .int 0]))] s.heap := hP
  have hl := lv_entry ([.ref y]) (n := 1) (Nat.le_of_ble_eq_true rfl)
  rw [lg_entry_eq]
  generalize (lg_sl ([.ref y]) ++ List.replicate (1 - (lg_sl ([.ref y])).length) Slot.unset).toArray = ls at hl ⊢
  have hl : lv_has ls 1 [(0, .ref y)] := hl
  refine lv_aload_n hx hb dX7_frame_0 rfl (lv_at hl 0 rfl) ?_
  refine lv_iconst (v := 0) hx hb dX7_frame_1 (by decide) ?_
  refine va_put (D := (dC, dI)) (ci := 7) (v := .int 0) (ty := .int) (C := RX7) (T := TX7) (N := 26) hx hb hts in_X7_frame_X7 tyX7 tyX7_ok nmX7 hown hK hP hD hS 0 rfl rfl 0 (by decide) (hts (.fieldLink RX7 44 "WorkspaceBoxModel" "thrown" "I") (by decide +kernel)) (fun _ h9 => h9) rfl (by decide +kernel) rfl rfl (Nat.le_of_ble_eq_true rfl) dX7_frame_2 (fun H locs hP hD hS => ?_)
  have hP : va_P (dC, dI) vwCl [(y, .inr (7, [.int 0, .ref yo, .ref ya, .ref yv, .ref yg, .int 0, .int 0, .int 0, .int 0, .int 0, .ref yp, .int 0, .int 0, .int 0, .ref yu, .ref yk, .int 0, .int 0, .int 0, .int 2, .int 0, .int 0, .ref yq, .int 0, .ref yt, .int 0]))] H := hP
  have hD : va_D A [(y, .inr (7, [.int 0, .ref yo, .ref ya, .ref yv, .ref yg, .int 0, .int 0, .int 0, .int 0, .int 0, .ref yp, .int 0, .int 0, .int 0, .ref yu, .ref yk, .int 0, .int 0, .int 0, .int 2, .int 0, .int 0, .ref yq, .int 0, .ref yt, .int 0]))] := hD
  refine lv_aload_n hx hb dX7_frame_5 rfl (lv_at hl 0 rfl) ?_
  refine lv_iconst (v := 1) hx hb dX7_frame_6 (by decide) ?_
  refine va_put (D := (dC, dI)) (ci := 7) (v := .int 1) (ty := .boolean) (C := RX7) (T := TX7) (N := 26) hx hb hts in_X7_frame_X7 tyX7 tyX7_ok nmX7 hown hK hP hD hS 0 rfl rfl 9 (by decide) (hts (.fieldLink RX7 99 "WorkspaceBoxModel" "shown" "Z") (by decide +kernel)) (fun _ h9 => h9) rfl (by decide +kernel) rfl rfl (Nat.le_of_ble_eq_true rfl) dX7_frame_7 (fun H locs hP hD hS => ?_)
  have hP : va_P (dC, dI) vwCl [(y, .inr (7, [.int 0, .ref yo, .ref ya, .ref yv, .ref yg, .int 0, .int 0, .int 0, .int 0, .int 1, .ref yp, .int 0, .int 0, .int 0, .ref yu, .ref yk, .int 0, .int 0, .int 0, .int 2, .int 0, .int 0, .ref yq, .int 0, .ref yt, .int 0]))] H := hP
  have hD : va_D A [(y, .inr (7, [.int 0, .ref yo, .ref ya, .ref yv, .ref yg, .int 0, .int 0, .int 0, .int 0, .int 1, .ref yp, .int 0, .int 0, .int 0, .ref yu, .ref yk, .int 0, .int 0, .int 0, .int 2, .int 0, .int 0, .ref yq, .int 0, .ref yt, .int 0]))] := hD
  have hP9 := hP.sub (ws' := []) [] rfl
  have hD9 := hD.sub (ws' := []) [] (by decide) rfl
  have hK9 := hK.sub (tys' := []) [] rfl
  exact W.vret hx hb hr (fun t ht hW => ⟨⟨(), rfl, trivial, by rw [ht]; exact hP9, va_K.moved hW.alike hK9, hD9⟩, hS.F ht⟩) hS.2.2 dX7_frame_10

theorem in_X7_interrupt_X7 : ∀ w ∈ wsX70, w ∈ wsX7_interrupt := by decide +kernel
set_option maxHeartbeats 1000000 in
set_option maxRecDepth 100000 in
theorem m_interrupt (l : Launch) (dC : Nat → ClassId) (dI : Nat → Nat → Nat) (y yo ya yv yg yp yu yk yq yt : Nat) (eo ea ev eg ep eu ek eq et : ClassId) (p0 : Int32) (sz : Nat)  : Met l yX7_interrupt wsX7_interrupt ({ frames := 1, cells := 0, slots := 0, locals := 22 }) (va_Pc [.ref y, .int p0] (fun U => U.heap.size = sz ∧ va_P (dC, dI) vwCl [(y, .inr (7, [.int 0, .ref yo, .ref ya, .ref yv, .ref yg, .int 0, .int 0, .int 0, .int 0, .int 0, .ref yp, .int 0, .int 0, .int 0, .ref yu, .ref yk, .int 0, .int 0, .int 0, .int 2, .int 0, .int 0, .ref yq, .int 0, .ref yt, .int 0])), (yq, .inl (eq, 16, .inl (fun _ => 0)))] U.heap ∧ va_K (dC, dI) vwCl [(eq, .boolean)] U ∧ va_D (fun _ => True) [(y, .inr (7, [.int 0, .ref yo, .ref ya, .ref yv, .ref yg, .int 0, .int 0, .int 0, .int 0, .int 0, .ref yp, .int 0, .int 0, .int 0, .ref yu, .ref yk, .int 0, .int 0, .int 0, .int 2, .int 0, .int 0, .ref yq, .int 0, .ref yt, .int 0])), (yq, .inl (eq, 16, .inl (fun _ => 0)))])) (va_Qi (fun (r : Int32) (_ : Unit) => r = sp_interrupt p0) (fun (u : Unit) (t : State) => va_P (dC, dI) vwCl [] t.heap ∧ va_K (dC, dI) vwCl [] t ∧ va_D (va_A [(y, .inr (7, [.int 0, .ref yo, .ref ya, .ref yv, .ref yg, .int 0, .int 0, .int 0, .int 0, .int 0, .ref yp, .int 0, .int 0, .int 0, .ref yu, .ref yk, .int 0, .int 0, .int 0, .int 2, .int 0, .int 0, .ref yq, .int 0, .ref yt, .int 0])), (yq, .inl (eq, 16, .inl (fun _ => 0)))] sz) []) (va_A [(y, .inr (7, [.int 0, .ref yo, .ref ya, .ref yv, .ref yg, .int 0, .int 0, .int 0, .int 0, .int 0, .ref yp, .int 0, .int 0, .int 0, .ref yu, .ref yk, .int 0, .int 0, .int 0, .int 2, .int 0, .int 0, .ref yq, .int 0, .ref yt, .int 0])), (yq, .inl (eq, 16, .inl (fun _ => 0)))] sz)) 0 0 (va_A [(y, .inr (7, [.int 0, .ref yo, .ref ya, .ref yv, .ref yg, .int 0, .int 0, .int 0, .int 0, .int 0, .ref yp, .int 0, .int 0, .int 0, .ref yu, .ref yk, .int 0, .int 0, .int 0, .int 2, .int 0, .int 0, .ref yq, .int 0, .ref yt, .int 0])), (yq, .inl (eq, 16, .inl (fun _ => 0)))] sz) := by
  refine Met.ofW (cc := cX7_interrupt) (maxL := 2) (ret := (some .boolean)) (by decide) rfl ?_
  intro p e s m args below meth c s₁ B hml hv
  obtain ⟨rfl, hsz, hP, hK, hD0⟩ := hv
  have hx := B.exec
  have hb := B.bytes
  have hr := B.returns
  have hts := atoms_spec (ws := wsX7_interrupt) B.pre
  have hown : s.vm.findClass RX7 = some m.cls := findClass_of_methodNamed B.named
  have hlocks := B.notSynchronized
  subst hsz
  have hD := hD0.self (sz := s.heap.size)
  generalize hAe : va_A [(y, .inr (7, [.int 0, .ref yo, .ref ya, .ref yv, .ref yg, .int 0, .int 0, .int 0, .int 0, .int 0, .ref yp, .int 0, .int 0, .int 0, .ref yu, .ref yk, .int 0, .int 0, .int 0, .int 2, .int 0, .int 0, .ref yq, .int 0, .ref yt, .int 0])), (yq, .inl (eq, 16, .inl (fun _ => 0)))] s.heap.size = A at hD ⊢
  have hA : ∀ q : Nat, s.heap.size ≤ q → A q := fun q h => by rw [← hAe]; exact Or.inr h
  have hS : va_S A s.heap s.heap [] := va_S.rf
  have hP : va_P (dC, dI) vwCl [(y, .inr (7, [.int 0, .ref yo, .ref ya, .ref yv, .ref yg, .int 0, .int 0, .int 0, .int 0, .int 0, .ref yp, .int 0, .int 0, .int 0, .ref yu, .ref yk, .int 0, .int 0, .int 0, .int 2, .int 0, .int 0, .ref yq, .int 0, .ref yt, .int 0])), (yq, .inl (eq, 16, .inl (fun _ => 0)))] s.heap := hP
  have hl := lv_entry ([.ref y, .int p0]) (n := 2) (Nat.le_of_ble_eq_true rfl)
  rw [lg_entry_eq]
  generalize (lg_sl ([.ref y, .int p0]) ++ List.replicate (2 - (lg_sl ([.ref y, .int p0])).length) Slot.unset).toArray = ls at hl ⊢
  have hl : lv_has ls 2 [(0, .ref y), (1, .int p0)] := hl
  refine lv_aload_n hx hb dX7_interrupt_0 rfl (lv_at hl 0 rfl) ?_
  refine lv_iconst (v := 0) hx hb dX7_interrupt_1 (by decide) ?_
  refine va_put (D := (dC, dI)) (ci := 7) (v := .int 0) (ty := .int) (C := RX7) (T := TX7) (N := 26) hx hb hts in_X7_interrupt_X7 tyX7 tyX7_ok nmX7 hown hK hP hD hS 0 rfl rfl 0 (by decide) (hts (.fieldLink RX7 44 "WorkspaceBoxModel" "thrown" "I") (by decide +kernel)) (fun _ h9 => h9) rfl (by decide +kernel) rfl rfl (Nat.le_of_ble_eq_true rfl) dX7_interrupt_2 (fun H locs hP hD hS => ?_)
  have hP : va_P (dC, dI) vwCl [(y, .inr (7, [.int 0, .ref yo, .ref ya, .ref yv, .ref yg, .int 0, .int 0, .int 0, .int 0, .int 0, .ref yp, .int 0, .int 0, .int 0, .ref yu, .ref yk, .int 0, .int 0, .int 0, .int 2, .int 0, .int 0, .ref yq, .int 0, .ref yt, .int 0])), (yq, .inl (eq, 16, .inl (fun _ => 0)))] H := hP
  have hD : va_D A [(y, .inr (7, [.int 0, .ref yo, .ref ya, .ref yv, .ref yg, .int 0, .int 0, .int 0, .int 0, .int 0, .ref yp, .int 0, .int 0, .int 0, .ref yu, .ref yk, .int 0, .int 0, .int 0, .int 2, .int 0, .int 0, .ref yq, .int 0, .ref yt, .int 0])), (yq, .inl (eq, 16, .inl (fun _ => 0)))] := hD
  refine lv_iload_n hx hb dX7_interrupt_5 rfl (lv_at hl 1 rfl) ?_
  refine lv_iconst (v := 2) hx hb dX7_interrupt_6 (by decide) ?_
  refine lv_bipush (v := 15) hx hb dX7_interrupt_7 (by decide) ?_
  have hPc := hP.sub (ws' := []) [] rfl
  have hDc := hD.sub (ws' := []) [] (by decide) rfl
  have hKc := hK.sub (tys' := []) [] rfl
  have hFc := va_free (wc := []) hD hS hA [] rfl
  refine va_calli (va_runS (As := [.int p0, .int 2, .int 15]) (rest := []) ⟨hx, hb, hml, hown, hts⟩ (m_in l dC dI y yo ya yv yg yp yu yk yq yt eo ea ev eg ep eu ek eq et p0 2 15 H.size) (va_cwS 3 hts gX7_interrupt_X7_in rfl rfl rfl (by decide +kernel) ⟨Nat.le_of_ble_eq_true rfl, Nat.le_of_ble_eq_true rfl⟩) ⟨fun a U g mk q => by obtain ⟨q0, q1, qP, qK, qD⟩ := q; exact ⟨q0, q1, qP, va_K.moved (u := U) (U := U.calling g mk a) (Vm.Alike.refl U.vm) qK, qD⟩, fun U hU hW => ⟨rfl, by rw [hU], by rw [hU]; exact hPc, va_K.moved hW.alike hKc, hDc.weaken (fun _ _ _ _ => trivial)⟩⟩ rfl rfl hl.1 rfl (lv_room (Nat.le_of_ble_eq_true rfl)) dX7_interrupt_9 ⟨Nat.le_of_ble_eq_true rfl, Nat.le_of_ble_eq_true rfl⟩) hS (fun q _ h => hFc q h) hFc (fun r_1 u t H1 locs ht hvm hw hB hz1 hk1 hS => ?_)
  obtain ⟨hP1, hK1, hD1⟩ := hB
  rw [ht] at hP1
  have hK1 := va_K.moved hvm.symm hK1
  try dsimp only at hw
  obtain ⟨hP, hD⟩ := va_join (wr := [(y, .inr (7, [.int 0, .ref yo, .ref ya, .ref yv, .ref yg, .int 0, .int 0, .int 0, .int 0, .int 0, .ref yp, .int 0, .int 0, .int 0, .ref yu, .ref yk, .int 0, .int 0, .int 0, .int 2, .int 0, .int 0, .ref yq, .int 0, .ref yt, .int 0])), (yq, .inl (eq, 16, .inl (fun _ => 0)))]) (w1 := []) hP hD [] [0, 1] rfl rfl (by decide) (by decide) hk1 hFc hP1 hD1
  have hK := (hK.sub (tys' := [(eq, .boolean)]) [0] rfl).app hK1
  generalize H1 = H at hP hS ⊢
  have hP : va_P (dC, dI) vwCl [(y, .inr (7, [.int 0, .ref yo, .ref ya, .ref yv, .ref yg, .int 0, .int 0, .int 0, .int 0, .int 0, .ref yp, .int 0, .int 0, .int 0, .ref yu, .ref yk, .int 0, .int 0, .int 0, .int 2, .int 0, .int 0, .ref yq, .int 0, .ref yt, .int 0])), (yq, .inl (eq, 16, .inl (fun _ => 0)))] H := hP
  have hD : va_D A [(y, .inr (7, [.int 0, .ref yo, .ref ya, .ref yv, .ref yg, .int 0, .int 0, .int 0, .int 0, .int 0, .ref yp, .int 0, .int 0, .int 0, .ref yu, .ref yk, .int 0, .int 0, .int 0, .int 2, .int 0, .int 0, .ref yq, .int 0, .ref yt, .int 0])), (yq, .inl (eq, 16, .inl (fun _ => 0)))] := hD
  have hK : va_K (dC, dI) vwCl [(eq, .boolean)] s := hK
  have hw_2 := hw
  rcases hw_2 with ⟨rfl, h8, h9⟩ | ⟨rfl, h8⟩
  · refine lv_if_ne (tgt := 17) hx hb dX7_interrupt_12 (by decide) (fun _ => ?_) (fun h => absurd h (by decide))
    refine lv_aload_n hx hb dX7_interrupt_17 rfl (lv_at hl 0 rfl) ?_
    refine va_get (D := (dC, dI)) (ci := 7) (v := .ref yq) (C := RX7) (T := TX7) (N := 26) hx hb hts in_X7_interrupt_X7 hown hK hP 0 rfl rfl 22 (by decide) (hts (.fieldLink RX7 38 "WorkspaceBoxModel" "asked" "[Z") (by decide +kernel)) (fun _ h9 => h9) rfl dX7_interrupt_18 ?_
    refine lv_iload_n hx hb dX7_interrupt_21 rfl (lv_at hl 1 rfl) ?_
    refine lv_iconst (v := 1) hx hb dX7_interrupt_22 (by decide) ?_
    refine va_zast hx hb hK hP hD hS 1 0 rfl rfl (vp_in_iff.mpr (by (try simp only [fa_lt, fa_le, fa_eq, tI_m1, tI_0, tI_1, tI_2, tI_3, tI_4, tI_5, tI_7, tI_8, tI_10, tI_15, tI_16, tI_20, tI_31, tI_125, tI_191, tI_255, tI_256, tI_980, tI_1000, tI_4095, tI_4096, tI_8191, tI_8192, tI_16383, tI_16384, tI_32767, tI_32768, tI_33791, tI_33792, tI_40959, tI_40960, tI_65535, tI_65536] at hw_2); (try simp only [fa_lt, fa_le, fa_eq, tI_m1, tI_0, tI_1, tI_2, tI_3, tI_4, tI_5, tI_7, tI_8, tI_10, tI_15, tI_16, tI_20, tI_31, tI_125, tI_191, tI_255, tI_256, tI_980, tI_1000, tI_4095, tI_4096, tI_8191, tI_8192, tI_16383, tI_16384, tI_32767, tI_32768, tI_33791, tI_33792, tI_40959, tI_40960, tI_65535, tI_65536] at h8); (try simp only [fa_lt, fa_le, fa_eq, tI_m1, tI_0, tI_1, tI_2, tI_3, tI_4, tI_5, tI_7, tI_8, tI_10, tI_15, tI_16, tI_20, tI_31, tI_125, tI_191, tI_255, tI_256, tI_980, tI_1000, tI_4095, tI_4096, tI_8191, tI_8192, tI_16383, tI_16384, tI_32767, tI_32768, tI_33791, tI_33792, tI_40959, tI_40960, tI_65535, tI_65536] at h9); (try simp only [fa_lt, fa_le, fa_eq, tI_m1, tI_0, tI_1, tI_2, tI_3, tI_4, tI_5, tI_7, tI_8, tI_10, tI_15, tI_16, tI_20, tI_31, tI_125, tI_191, tI_255, tI_256, tI_980, tI_1000, tI_4095, tI_4096, tI_8191, tI_8192, tI_16383, tI_16384, tI_32767, tI_32768, tI_33791, tI_33792, tI_40959, tI_40960, tI_65535, tI_65536]); omega)) dX7_interrupt_23 (fun H locs hP hD hS => ?_)
    obtain ⟨f_3, ef_3⟩ : ∃ g, g = upd (fun _ => 0) (p0 : Int32).toNatClampNeg (vp_nar .boolean 1) := ⟨_, rfl⟩
    have hP : va_P (dC, dI) vwCl [(y, .inr (7, [.int 0, .ref yo, .ref ya, .ref yv, .ref yg, .int 0, .int 0, .int 0, .int 0, .int 0, .ref yp, .int 0, .int 0, .int 0, .ref yu, .ref yk, .int 0, .int 0, .int 0, .int 2, .int 0, .int 0, .ref yq, .int 0, .ref yt, .int 0])), (yq, .inl (eq, 16, .inl (f_3)))] H := by rw [ef_3]; exact hP
    have hD : va_D A [(y, .inr (7, [.int 0, .ref yo, .ref ya, .ref yv, .ref yg, .int 0, .int 0, .int 0, .int 0, .int 0, .ref yp, .int 0, .int 0, .int 0, .ref yu, .ref yk, .int 0, .int 0, .int 0, .int 2, .int 0, .int 0, .ref yq, .int 0, .ref yt, .int 0])), (yq, .inl (eq, 16, .inl (f_3)))] := by rw [ef_3]; exact hD
    refine lv_iconst (v := 1) hx hb dX7_interrupt_24 (by decide) ?_
    have hP9 := hP.sub (ws' := []) [] rfl
    have hD9 := hD.sub (ws' := []) [] (by decide) rfl
    have hK9 := hK.sub (tys' := []) [] rfl
    exact W.zret (v := 1) hx hb hr rfl (fun t ht hW => ⟨⟨1, (), rfl, by (first | decide | ((try subst_vars); (try dsimp only); (try simp only [fa_lt, fa_le, fa_eq, tI_m1, tI_0, tI_1, tI_2, tI_3, tI_4, tI_5, tI_7, tI_8, tI_10, tI_15, tI_16, tI_20, tI_31, tI_125, tI_191, tI_255, tI_256, tI_980, tI_1000, tI_4095, tI_4096, tI_8191, tI_8192, tI_16383, tI_16384, tI_32767, tI_32768, tI_33791, tI_33792, tI_40959, tI_40960, tI_65535, tI_65536] at hw_2); (try simp only [fa_lt, fa_le, fa_eq, tI_m1, tI_0, tI_1, tI_2, tI_3, tI_4, tI_5, tI_7, tI_8, tI_10, tI_15, tI_16, tI_20, tI_31, tI_125, tI_191, tI_255, tI_256, tI_980, tI_1000, tI_4095, tI_4096, tI_8191, tI_8192, tI_16383, tI_16384, tI_32767, tI_32768, tI_33791, tI_33792, tI_40959, tI_40960, tI_65535, tI_65536] at h8); (try simp only [fa_lt, fa_le, fa_eq, tI_m1, tI_0, tI_1, tI_2, tI_3, tI_4, tI_5, tI_7, tI_8, tI_10, tI_15, tI_16, tI_20, tI_31, tI_125, tI_191, tI_255, tI_256, tI_980, tI_1000, tI_4095, tI_4096, tI_8191, tI_8192, tI_16383, tI_16384, tI_32767, tI_32768, tI_33791, tI_33792, tI_40959, tI_40960, tI_65535, tI_65536] at h9); (have k0 := tI_0); (have k1 := tI_1); (have k2 := tI_2); (have k3 := tI_3); unfold sp_interrupt; (repeat' split) <;> first | rfl | omega | (simp only [fa_lt, fa_le, fa_eq, tI_m1, tI_0, tI_1, tI_2, tI_3, tI_4, tI_5, tI_7, tI_8, tI_10, tI_15, tI_16, tI_20, tI_31, tI_125, tI_191, tI_255, tI_256, tI_980, tI_1000, tI_4095, tI_4096, tI_8191, tI_8192, tI_16383, tI_16384, tI_32767, tI_32768, tI_33791, tI_33792, tI_40959, tI_40960, tI_65535, tI_65536]; omega))), by rw [ht]; exact hP9, va_K.moved hW.alike hK9, hD9⟩, hS.F ht⟩) hS.2.2 dX7_interrupt_25
  · refine lv_if_ne (tgt := 17) hx hb dX7_interrupt_12 (by decide) (fun h => absurd h (by decide)) (fun _ => ?_)
    refine lv_iconst (v := 0) hx hb dX7_interrupt_15 (by decide) ?_
    have hP9 := hP.sub (ws' := []) [] rfl
    have hD9 := hD.sub (ws' := []) [] (by decide) rfl
    have hK9 := hK.sub (tys' := []) [] rfl
    exact W.zret (v := 0) hx hb hr rfl (fun t ht hW => ⟨⟨0, (), rfl, by (first | decide | ((try subst_vars); (try dsimp only); (try simp only [fa_lt, fa_le, fa_eq, tI_m1, tI_0, tI_1, tI_2, tI_3, tI_4, tI_5, tI_7, tI_8, tI_10, tI_15, tI_16, tI_20, tI_31, tI_125, tI_191, tI_255, tI_256, tI_980, tI_1000, tI_4095, tI_4096, tI_8191, tI_8192, tI_16383, tI_16384, tI_32767, tI_32768, tI_33791, tI_33792, tI_40959, tI_40960, tI_65535, tI_65536] at hw_2); (try simp only [fa_lt, fa_le, fa_eq, tI_m1, tI_0, tI_1, tI_2, tI_3, tI_4, tI_5, tI_7, tI_8, tI_10, tI_15, tI_16, tI_20, tI_31, tI_125, tI_191, tI_255, tI_256, tI_980, tI_1000, tI_4095, tI_4096, tI_8191, tI_8192, tI_16383, tI_16384, tI_32767, tI_32768, tI_33791, tI_33792, tI_40959, tI_40960, tI_65535, tI_65536] at h8); (have k0 := tI_0); (have k1 := tI_1); (have k2 := tI_2); (have k3 := tI_3); unfold sp_interrupt; (repeat' split) <;> first | rfl | omega | (simp only [fa_lt, fa_le, fa_eq, tI_m1, tI_0, tI_1, tI_2, tI_3, tI_4, tI_5, tI_7, tI_8, tI_10, tI_15, tI_16, tI_20, tI_31, tI_125, tI_191, tI_255, tI_256, tI_980, tI_1000, tI_4095, tI_4096, tI_8191, tI_8192, tI_16383, tI_16384, tI_32767, tI_32768, tI_33791, tI_33792, tI_40959, tI_40960, tI_65535, tI_65536]; omega))), by rw [ht]; exact hP9, va_K.moved hW.alike hK9, hD9⟩, hS.F ht⟩) hS.2.2 dX7_interrupt_16

theorem in_X7_key_X7 : ∀ w ∈ wsX70, w ∈ wsX7_key := by decide +kernel
set_option maxHeartbeats 1000000 in
set_option maxRecDepth 100000 in
theorem m_key (l : Launch) (dC : Nat → ClassId) (dI : Nat → Nat → Nat) (y yo ya yv yg yp yu yk yq yt : Nat) (eo ea ev eg ep eu ek eq et : ClassId) (p0 : Int32) (p1 : Int32) (p2 : Int32) (sz : Nat)  : Met l yX7_key wsX7_key ({ frames := 1, cells := 0, slots := 0, locals := 22 }) (va_Pc [.ref y, .int p0, .int p1, .int p2] (fun U => U.heap.size = sz ∧ va_P (dC, dI) vwCl [(y, .inr (7, [.int 0, .ref yo, .ref ya, .ref yv, .ref yg, .int 0, .int 0, .int 0, .int 0, .int 0, .ref yp, .int 0, .int 0, .int 0, .ref yu, .ref yk, .int 0, .int 0, .int 0, .int 2, .int 0, .int 0, .ref yq, .int 0, .ref yt, .int 0])), (yk, .inl (ek, 64, .inl (fun _ => 0)))] U.heap ∧ va_K (dC, dI) vwCl [(ek, .boolean)] U ∧ va_D (fun _ => True) [(y, .inr (7, [.int 0, .ref yo, .ref ya, .ref yv, .ref yg, .int 0, .int 0, .int 0, .int 0, .int 0, .ref yp, .int 0, .int 0, .int 0, .ref yu, .ref yk, .int 0, .int 0, .int 0, .int 2, .int 0, .int 0, .ref yq, .int 0, .ref yt, .int 0])), (yk, .inl (ek, 64, .inl (fun _ => 0)))])) (va_Qi (fun (r : Int32) (_ : Unit) => r = sp_key p0 p1) (fun (u : Unit) (t : State) => va_P (dC, dI) vwCl [] t.heap ∧ va_K (dC, dI) vwCl [] t ∧ va_D (va_A [(y, .inr (7, [.int 0, .ref yo, .ref ya, .ref yv, .ref yg, .int 0, .int 0, .int 0, .int 0, .int 0, .ref yp, .int 0, .int 0, .int 0, .ref yu, .ref yk, .int 0, .int 0, .int 0, .int 2, .int 0, .int 0, .ref yq, .int 0, .ref yt, .int 0])), (yk, .inl (ek, 64, .inl (fun _ => 0)))] sz) []) (va_A [(y, .inr (7, [.int 0, .ref yo, .ref ya, .ref yv, .ref yg, .int 0, .int 0, .int 0, .int 0, .int 0, .ref yp, .int 0, .int 0, .int 0, .ref yu, .ref yk, .int 0, .int 0, .int 0, .int 2, .int 0, .int 0, .ref yq, .int 0, .ref yt, .int 0])), (yk, .inl (ek, 64, .inl (fun _ => 0)))] sz)) 0 0 (va_A [(y, .inr (7, [.int 0, .ref yo, .ref ya, .ref yv, .ref yg, .int 0, .int 0, .int 0, .int 0, .int 0, .ref yp, .int 0, .int 0, .int 0, .ref yu, .ref yk, .int 0, .int 0, .int 0, .int 2, .int 0, .int 0, .ref yq, .int 0, .ref yt, .int 0])), (yk, .inl (ek, 64, .inl (fun _ => 0)))] sz) := by
  refine Met.ofW (cc := cX7_key) (maxL := 4) (ret := (some .boolean)) (by decide) rfl ?_
  intro p e s m args below meth c s₁ B hml hv
  obtain ⟨rfl, hsz, hP, hK, hD0⟩ := hv
  have hx := B.exec
  have hb := B.bytes
  have hr := B.returns
  have hts := atoms_spec (ws := wsX7_key) B.pre
  have hown : s.vm.findClass RX7 = some m.cls := findClass_of_methodNamed B.named
  have hlocks := B.notSynchronized
  subst hsz
  have hD := hD0.self (sz := s.heap.size)
  generalize hAe : va_A [(y, .inr (7, [.int 0, .ref yo, .ref ya, .ref yv, .ref yg, .int 0, .int 0, .int 0, .int 0, .int 0, .ref yp, .int 0, .int 0, .int 0, .ref yu, .ref yk, .int 0, .int 0, .int 0, .int 2, .int 0, .int 0, .ref yq, .int 0, .ref yt, .int 0])), (yk, .inl (ek, 64, .inl (fun _ => 0)))] s.heap.size = A at hD ⊢
  have hA : ∀ q : Nat, s.heap.size ≤ q → A q := fun q h => by rw [← hAe]; exact Or.inr h
  have hS : va_S A s.heap s.heap [] := va_S.rf
  have hP : va_P (dC, dI) vwCl [(y, .inr (7, [.int 0, .ref yo, .ref ya, .ref yv, .ref yg, .int 0, .int 0, .int 0, .int 0, .int 0, .ref yp, .int 0, .int 0, .int 0, .ref yu, .ref yk, .int 0, .int 0, .int 0, .int 2, .int 0, .int 0, .ref yq, .int 0, .ref yt, .int 0])), (yk, .inl (ek, 64, .inl (fun _ => 0)))] s.heap := hP
  have hl := lv_entry ([.ref y, .int p0, .int p1, .int p2]) (n := 4) (Nat.le_of_ble_eq_true rfl)
  rw [lg_entry_eq]
  generalize (lg_sl ([.ref y, .int p0, .int p1, .int p2]) ++ List.replicate (4 - (lg_sl ([.ref y, .int p0, .int p1, .int p2])).length) Slot.unset).toArray = ls at hl ⊢
  have hl : lv_has ls 4 [(0, .ref y), (1, .int p0), (2, .int p1), (3, .int p2)] := hl
  refine lv_aload_n hx hb dX7_key_0 rfl (lv_at hl 0 rfl) ?_
  refine lv_iconst (v := 0) hx hb dX7_key_1 (by decide) ?_
  refine va_put (D := (dC, dI)) (ci := 7) (v := .int 0) (ty := .int) (C := RX7) (T := TX7) (N := 26) hx hb hts in_X7_key_X7 tyX7 tyX7_ok nmX7 hown hK hP hD hS 0 rfl rfl 0 (by decide) (hts (.fieldLink RX7 44 "WorkspaceBoxModel" "thrown" "I") (by decide +kernel)) (fun _ h9 => h9) rfl (by decide +kernel) rfl rfl (Nat.le_of_ble_eq_true rfl) dX7_key_2 (fun H locs hP hD hS => ?_)
  have hP : va_P (dC, dI) vwCl [(y, .inr (7, [.int 0, .ref yo, .ref ya, .ref yv, .ref yg, .int 0, .int 0, .int 0, .int 0, .int 0, .ref yp, .int 0, .int 0, .int 0, .ref yu, .ref yk, .int 0, .int 0, .int 0, .int 2, .int 0, .int 0, .ref yq, .int 0, .ref yt, .int 0])), (yk, .inl (ek, 64, .inl (fun _ => 0)))] H := hP
  have hD : va_D A [(y, .inr (7, [.int 0, .ref yo, .ref ya, .ref yv, .ref yg, .int 0, .int 0, .int 0, .int 0, .int 0, .ref yp, .int 0, .int 0, .int 0, .ref yu, .ref yk, .int 0, .int 0, .int 0, .int 2, .int 0, .int 0, .ref yq, .int 0, .ref yt, .int 0])), (yk, .inl (ek, 64, .inl (fun _ => 0)))] := hD
  refine lv_iload_n hx hb dX7_key_5 rfl (lv_at hl 1 rfl) ?_
  refine lv_iconst (v := 0) hx hb dX7_key_6 (by decide) ?_
  refine lv_bipush (v := 7) hx hb dX7_key_7 (by decide) ?_
  have hPc := hP.sub (ws' := []) [] rfl
  have hDc := hD.sub (ws' := []) [] (by decide) rfl
  have hKc := hK.sub (tys' := []) [] rfl
  have hFc := va_free (wc := []) hD hS hA [] rfl
  refine va_calli (va_runS (As := [.int p0, .int 0, .int 7]) (rest := []) ⟨hx, hb, hml, hown, hts⟩ (m_in l dC dI y yo ya yv yg yp yu yk yq yt eo ea ev eg ep eu ek eq et p0 0 7 H.size) (va_cwS 3 hts gX7_key_X7_in rfl rfl rfl (by decide +kernel) ⟨Nat.le_of_ble_eq_true rfl, Nat.le_of_ble_eq_true rfl⟩) ⟨fun a U g mk q => by obtain ⟨q0, q1, qP, qK, qD⟩ := q; exact ⟨q0, q1, qP, va_K.moved (u := U) (U := U.calling g mk a) (Vm.Alike.refl U.vm) qK, qD⟩, fun U hU hW => ⟨rfl, by rw [hU], by rw [hU]; exact hPc, va_K.moved hW.alike hKc, hDc.weaken (fun _ _ _ _ => trivial)⟩⟩ rfl rfl hl.1 rfl (lv_room (Nat.le_of_ble_eq_true rfl)) dX7_key_9 ⟨Nat.le_of_ble_eq_true rfl, Nat.le_of_ble_eq_true rfl⟩) hS (fun q _ h => hFc q h) hFc (fun r_1 u t H1 locs ht hvm hw hB hz1 hk1 hS => ?_)
  obtain ⟨hP1, hK1, hD1⟩ := hB
  rw [ht] at hP1
  have hK1 := va_K.moved hvm.symm hK1
  try dsimp only at hw
  obtain ⟨hP, hD⟩ := va_join (wr := [(y, .inr (7, [.int 0, .ref yo, .ref ya, .ref yv, .ref yg, .int 0, .int 0, .int 0, .int 0, .int 0, .ref yp, .int 0, .int 0, .int 0, .ref yu, .ref yk, .int 0, .int 0, .int 0, .int 2, .int 0, .int 0, .ref yq, .int 0, .ref yt, .int 0])), (yk, .inl (ek, 64, .inl (fun _ => 0)))]) (w1 := []) hP hD [] [0, 1] rfl rfl (by decide) (by decide) hk1 hFc hP1 hD1
  have hK := (hK.sub (tys' := [(ek, .boolean)]) [0] rfl).app hK1
  generalize H1 = H at hP hS ⊢
  have hP : va_P (dC, dI) vwCl [(y, .inr (7, [.int 0, .ref yo, .ref ya, .ref yv, .ref yg, .int 0, .int 0, .int 0, .int 0, .int 0, .ref yp, .int 0, .int 0, .int 0, .ref yu, .ref yk, .int 0, .int 0, .int 0, .int 2, .int 0, .int 0, .ref yq, .int 0, .ref yt, .int 0])), (yk, .inl (ek, 64, .inl (fun _ => 0)))] H := hP
  have hD : va_D A [(y, .inr (7, [.int 0, .ref yo, .ref ya, .ref yv, .ref yg, .int 0, .int 0, .int 0, .int 0, .int 0, .ref yp, .int 0, .int 0, .int 0, .ref yu, .ref yk, .int 0, .int 0, .int 0, .int 2, .int 0, .int 0, .ref yq, .int 0, .ref yt, .int 0])), (yk, .inl (ek, 64, .inl (fun _ => 0)))] := hD
  have hK : va_K (dC, dI) vwCl [(ek, .boolean)] s := hK
  have hw_2 := hw
  rcases hw_2 with ⟨rfl, h6, h7⟩ | ⟨rfl, h6⟩
  · refine lv_if_eq (tgt := 25) hx hb dX7_key_12 (by decide) (fun h => absurd h (by decide)) (fun _ => ?_)
    refine lv_iload_n hx hb dX7_key_15 rfl (lv_at hl 2 rfl) ?_
    refine lv_iconst (v := 0) hx hb dX7_key_16 (by decide) ?_
    refine lv_bipush (v := 7) hx hb dX7_key_17 (by decide) ?_
    have hPc := hP.sub (ws' := []) [] rfl
    have hDc := hD.sub (ws' := []) [] (by decide) rfl
    have hKc := hK.sub (tys' := []) [] rfl
    have hFc := va_free (wc := []) hD hS hA [] rfl
    refine va_calli (va_runS (As := [.int p1, .int 0, .int 7]) (rest := []) ⟨hx, hb, hml, hown, hts⟩ (m_in l dC dI y yo ya yv yg yp yu yk yq yt eo ea ev eg ep eu ek eq et p1 0 7 H.size) (va_cwS 3 hts gX7_key_X7_in rfl rfl rfl (by decide +kernel) ⟨Nat.le_of_ble_eq_true rfl, Nat.le_of_ble_eq_true rfl⟩) ⟨fun a U g mk q => by obtain ⟨q0, q1, qP, qK, qD⟩ := q; exact ⟨q0, q1, qP, va_K.moved (u := U) (U := U.calling g mk a) (Vm.Alike.refl U.vm) qK, qD⟩, fun U hU hW => ⟨rfl, by rw [hU], by rw [hU]; exact hPc, va_K.moved hW.alike hKc, hDc.weaken (fun _ _ _ _ => trivial)⟩⟩ rfl rfl hl.1 rfl (lv_room (Nat.le_of_ble_eq_true rfl)) dX7_key_19 ⟨Nat.le_of_ble_eq_true rfl, Nat.le_of_ble_eq_true rfl⟩) hS (fun q _ h => hFc q h) hFc (fun r_3 u t H1 locs ht hvm hw hB hz1 hk1 hS => ?_)
    obtain ⟨hP1, hK1, hD1⟩ := hB
    rw [ht] at hP1
    have hK1 := va_K.moved hvm.symm hK1
    try dsimp only at hw
    obtain ⟨hP, hD⟩ := va_join (wr := [(y, .inr (7, [.int 0, .ref yo, .ref ya, .ref yv, .ref yg, .int 0, .int 0, .int 0, .int 0, .int 0, .ref yp, .int 0, .int 0, .int 0, .ref yu, .ref yk, .int 0, .int 0, .int 0, .int 2, .int 0, .int 0, .ref yq, .int 0, .ref yt, .int 0])), (yk, .inl (ek, 64, .inl (fun _ => 0)))]) (w1 := []) hP hD [] [0, 1] rfl rfl (by decide) (by decide) hk1 hFc hP1 hD1
    have hK := (hK.sub (tys' := [(ek, .boolean)]) [0] rfl).app hK1
    generalize H1 = H at hP hS ⊢
    have hP : va_P (dC, dI) vwCl [(y, .inr (7, [.int 0, .ref yo, .ref ya, .ref yv, .ref yg, .int 0, .int 0, .int 0, .int 0, .int 0, .ref yp, .int 0, .int 0, .int 0, .ref yu, .ref yk, .int 0, .int 0, .int 0, .int 2, .int 0, .int 0, .ref yq, .int 0, .ref yt, .int 0])), (yk, .inl (ek, 64, .inl (fun _ => 0)))] H := hP
    have hD : va_D A [(y, .inr (7, [.int 0, .ref yo, .ref ya, .ref yv, .ref yg, .int 0, .int 0, .int 0, .int 0, .int 0, .ref yp, .int 0, .int 0, .int 0, .ref yu, .ref yk, .int 0, .int 0, .int 0, .int 2, .int 0, .int 0, .ref yq, .int 0, .ref yt, .int 0])), (yk, .inl (ek, 64, .inl (fun _ => 0)))] := hD
    have hK : va_K (dC, dI) vwCl [(ek, .boolean)] s := hK
    have hw_4 := hw
    rcases hw_4 with ⟨rfl, h8, h9⟩ | ⟨rfl, h8⟩
    · refine lv_if_ne (tgt := 27) hx hb dX7_key_22 (by decide) (fun _ => ?_) (fun h => absurd h (by decide))
      refine lv_aload_n hx hb dX7_key_27 rfl (lv_at hl 0 rfl) ?_
      refine va_get (D := (dC, dI)) (ci := 7) (v := .ref yk) (C := RX7) (T := TX7) (N := 26) hx hb hts in_X7_key_X7 hown hK hP 0 rfl rfl 15 (by decide) (hts (.fieldLink RX7 31 "WorkspaceBoxModel" "keys" "[Z") (by decide +kernel)) (fun _ h9 => h9) rfl dX7_key_28 ?_
      refine lv_bipush (v := 8) hx hb dX7_key_31 (by decide) ?_
      refine lv_iload_n hx hb dX7_key_33 rfl (lv_at hl 1 rfl) ?_
      refine lv_imul hx hb dX7_key_34 ?_
      refine lv_topi (fun y_5 ey_5 => ?_)
      refine lv_iload_n hx hb dX7_key_35 rfl (lv_at hl 2 rfl) ?_
      refine lv_iadd hx hb dX7_key_36 ?_
      refine lv_topi (fun y_6 ey_6 => ?_)
      refine lv_iload_n hx hb dX7_key_37 rfl (lv_at hl 3 rfl) ?_
      refine va_zast hx hb hK hP hD hS 1 0 rfl rfl (by subst_vars; exact in_key h6 h7 h8 h9) dX7_key_38 (fun H locs hP hD hS => ?_)
      obtain ⟨f_7, ef_7⟩ : ∃ g, g = upd (fun _ => 0) (y_6 : Int32).toNatClampNeg (vp_nar .boolean p2) := ⟨_, rfl⟩
      have hP : va_P (dC, dI) vwCl [(y, .inr (7, [.int 0, .ref yo, .ref ya, .ref yv, .ref yg, .int 0, .int 0, .int 0, .int 0, .int 0, .ref yp, .int 0, .int 0, .int 0, .ref yu, .ref yk, .int 0, .int 0, .int 0, .int 2, .int 0, .int 0, .ref yq, .int 0, .ref yt, .int 0])), (yk, .inl (ek, 64, .inl (f_7)))] H := by rw [ef_7]; exact hP
      have hD : va_D A [(y, .inr (7, [.int 0, .ref yo, .ref ya, .ref yv, .ref yg, .int 0, .int 0, .int 0, .int 0, .int 0, .ref yp, .int 0, .int 0, .int 0, .ref yu, .ref yk, .int 0, .int 0, .int 0, .int 2, .int 0, .int 0, .ref yq, .int 0, .ref yt, .int 0])), (yk, .inl (ek, 64, .inl (f_7)))] := by rw [ef_7]; exact hD
      refine lv_iconst (v := 1) hx hb dX7_key_39 (by decide) ?_
      have hP9 := hP.sub (ws' := []) [] rfl
      have hD9 := hD.sub (ws' := []) [] (by decide) rfl
      have hK9 := hK.sub (tys' := []) [] rfl
      exact W.zret (v := 1) hx hb hr rfl (fun t ht hW => ⟨⟨1, (), rfl, by (first | decide | ((try subst_vars); (try dsimp only); (try simp only [fa_lt, fa_le, fa_eq, tI_m1, tI_0, tI_1, tI_2, tI_3, tI_4, tI_5, tI_7, tI_8, tI_10, tI_15, tI_16, tI_20, tI_31, tI_125, tI_191, tI_255, tI_256, tI_980, tI_1000, tI_4095, tI_4096, tI_8191, tI_8192, tI_16383, tI_16384, tI_32767, tI_32768, tI_33791, tI_33792, tI_40959, tI_40960, tI_65535, tI_65536] at hw_2); (try simp only [fa_lt, fa_le, fa_eq, tI_m1, tI_0, tI_1, tI_2, tI_3, tI_4, tI_5, tI_7, tI_8, tI_10, tI_15, tI_16, tI_20, tI_31, tI_125, tI_191, tI_255, tI_256, tI_980, tI_1000, tI_4095, tI_4096, tI_8191, tI_8192, tI_16383, tI_16384, tI_32767, tI_32768, tI_33791, tI_33792, tI_40959, tI_40960, tI_65535, tI_65536] at h6); (try simp only [fa_lt, fa_le, fa_eq, tI_m1, tI_0, tI_1, tI_2, tI_3, tI_4, tI_5, tI_7, tI_8, tI_10, tI_15, tI_16, tI_20, tI_31, tI_125, tI_191, tI_255, tI_256, tI_980, tI_1000, tI_4095, tI_4096, tI_8191, tI_8192, tI_16383, tI_16384, tI_32767, tI_32768, tI_33791, tI_33792, tI_40959, tI_40960, tI_65535, tI_65536] at h7); (try simp only [fa_lt, fa_le, fa_eq, tI_m1, tI_0, tI_1, tI_2, tI_3, tI_4, tI_5, tI_7, tI_8, tI_10, tI_15, tI_16, tI_20, tI_31, tI_125, tI_191, tI_255, tI_256, tI_980, tI_1000, tI_4095, tI_4096, tI_8191, tI_8192, tI_16383, tI_16384, tI_32767, tI_32768, tI_33791, tI_33792, tI_40959, tI_40960, tI_65535, tI_65536] at hw_4); (try simp only [fa_lt, fa_le, fa_eq, tI_m1, tI_0, tI_1, tI_2, tI_3, tI_4, tI_5, tI_7, tI_8, tI_10, tI_15, tI_16, tI_20, tI_31, tI_125, tI_191, tI_255, tI_256, tI_980, tI_1000, tI_4095, tI_4096, tI_8191, tI_8192, tI_16383, tI_16384, tI_32767, tI_32768, tI_33791, tI_33792, tI_40959, tI_40960, tI_65535, tI_65536] at h8); (try simp only [fa_lt, fa_le, fa_eq, tI_m1, tI_0, tI_1, tI_2, tI_3, tI_4, tI_5, tI_7, tI_8, tI_10, tI_15, tI_16, tI_20, tI_31, tI_125, tI_191, tI_255, tI_256, tI_980, tI_1000, tI_4095, tI_4096, tI_8191, tI_8192, tI_16383, tI_16384, tI_32767, tI_32768, tI_33791, tI_33792, tI_40959, tI_40960, tI_65535, tI_65536] at h9); (have k0 := tI_0); (have k1 := tI_1); (have k2 := tI_2); (have k3 := tI_3); unfold sp_key; (repeat' split) <;> first | rfl | omega | (simp only [fa_lt, fa_le, fa_eq, tI_m1, tI_0, tI_1, tI_2, tI_3, tI_4, tI_5, tI_7, tI_8, tI_10, tI_15, tI_16, tI_20, tI_31, tI_125, tI_191, tI_255, tI_256, tI_980, tI_1000, tI_4095, tI_4096, tI_8191, tI_8192, tI_16383, tI_16384, tI_32767, tI_32768, tI_33791, tI_33792, tI_40959, tI_40960, tI_65535, tI_65536]; omega))), by rw [ht]; exact hP9, va_K.moved hW.alike hK9, hD9⟩, hS.F ht⟩) hS.2.2 dX7_key_40
    · refine lv_if_ne (tgt := 27) hx hb dX7_key_22 (by decide) (fun h => absurd h (by decide)) (fun _ => ?_)
      refine lv_iconst (v := 0) hx hb dX7_key_25 (by decide) ?_
      have hP9 := hP.sub (ws' := []) [] rfl
      have hD9 := hD.sub (ws' := []) [] (by decide) rfl
      have hK9 := hK.sub (tys' := []) [] rfl
      exact W.zret (v := 0) hx hb hr rfl (fun t ht hW => ⟨⟨0, (), rfl, by (first | decide | ((try subst_vars); (try dsimp only); (try simp only [fa_lt, fa_le, fa_eq, tI_m1, tI_0, tI_1, tI_2, tI_3, tI_4, tI_5, tI_7, tI_8, tI_10, tI_15, tI_16, tI_20, tI_31, tI_125, tI_191, tI_255, tI_256, tI_980, tI_1000, tI_4095, tI_4096, tI_8191, tI_8192, tI_16383, tI_16384, tI_32767, tI_32768, tI_33791, tI_33792, tI_40959, tI_40960, tI_65535, tI_65536] at hw_2); (try simp only [fa_lt, fa_le, fa_eq, tI_m1, tI_0, tI_1, tI_2, tI_3, tI_4, tI_5, tI_7, tI_8, tI_10, tI_15, tI_16, tI_20, tI_31, tI_125, tI_191, tI_255, tI_256, tI_980, tI_1000, tI_4095, tI_4096, tI_8191, tI_8192, tI_16383, tI_16384, tI_32767, tI_32768, tI_33791, tI_33792, tI_40959, tI_40960, tI_65535, tI_65536] at h6); (try simp only [fa_lt, fa_le, fa_eq, tI_m1, tI_0, tI_1, tI_2, tI_3, tI_4, tI_5, tI_7, tI_8, tI_10, tI_15, tI_16, tI_20, tI_31, tI_125, tI_191, tI_255, tI_256, tI_980, tI_1000, tI_4095, tI_4096, tI_8191, tI_8192, tI_16383, tI_16384, tI_32767, tI_32768, tI_33791, tI_33792, tI_40959, tI_40960, tI_65535, tI_65536] at h7); (try simp only [fa_lt, fa_le, fa_eq, tI_m1, tI_0, tI_1, tI_2, tI_3, tI_4, tI_5, tI_7, tI_8, tI_10, tI_15, tI_16, tI_20, tI_31, tI_125, tI_191, tI_255, tI_256, tI_980, tI_1000, tI_4095, tI_4096, tI_8191, tI_8192, tI_16383, tI_16384, tI_32767, tI_32768, tI_33791, tI_33792, tI_40959, tI_40960, tI_65535, tI_65536] at hw_4); (try simp only [fa_lt, fa_le, fa_eq, tI_m1, tI_0, tI_1, tI_2, tI_3, tI_4, tI_5, tI_7, tI_8, tI_10, tI_15, tI_16, tI_20, tI_31, tI_125, tI_191, tI_255, tI_256, tI_980, tI_1000, tI_4095, tI_4096, tI_8191, tI_8192, tI_16383, tI_16384, tI_32767, tI_32768, tI_33791, tI_33792, tI_40959, tI_40960, tI_65535, tI_65536] at h8); (have k0 := tI_0); (have k1 := tI_1); (have k2 := tI_2); (have k3 := tI_3); unfold sp_key; (repeat' split) <;> first | rfl | omega | (simp only [fa_lt, fa_le, fa_eq, tI_m1, tI_0, tI_1, tI_2, tI_3, tI_4, tI_5, tI_7, tI_8, tI_10, tI_15, tI_16, tI_20, tI_31, tI_125, tI_191, tI_255, tI_256, tI_980, tI_1000, tI_4095, tI_4096, tI_8191, tI_8192, tI_16383, tI_16384, tI_32767, tI_32768, tI_33791, tI_33792, tI_40959, tI_40960, tI_65535, tI_65536]; omega))), by rw [ht]; exact hP9, va_K.moved hW.alike hK9, hD9⟩, hS.F ht⟩) hS.2.2 dX7_key_26
  · refine lv_if_eq (tgt := 25) hx hb dX7_key_12 (by decide) (fun _ => ?_) (fun h => absurd (by decide) h)
    refine lv_iconst (v := 0) hx hb dX7_key_25 (by decide) ?_
    have hP9 := hP.sub (ws' := []) [] rfl
    have hD9 := hD.sub (ws' := []) [] (by decide) rfl
    have hK9 := hK.sub (tys' := []) [] rfl
    exact W.zret (v := 0) hx hb hr rfl (fun t ht hW => ⟨⟨0, (), rfl, by (first | decide | ((try subst_vars); (try dsimp only); (try simp only [fa_lt, fa_le, fa_eq, tI_m1, tI_0, tI_1, tI_2, tI_3, tI_4, tI_5, tI_7, tI_8, tI_10, tI_15, tI_16, tI_20, tI_31, tI_125, tI_191, tI_255, tI_256, tI_980, tI_1000, tI_4095, tI_4096, tI_8191, tI_8192, tI_16383, tI_16384, tI_32767, tI_32768, tI_33791, tI_33792, tI_40959, tI_40960, tI_65535, tI_65536] at hw_2); (try simp only [fa_lt, fa_le, fa_eq, tI_m1, tI_0, tI_1, tI_2, tI_3, tI_4, tI_5, tI_7, tI_8, tI_10, tI_15, tI_16, tI_20, tI_31, tI_125, tI_191, tI_255, tI_256, tI_980, tI_1000, tI_4095, tI_4096, tI_8191, tI_8192, tI_16383, tI_16384, tI_32767, tI_32768, tI_33791, tI_33792, tI_40959, tI_40960, tI_65535, tI_65536] at h6); (have k0 := tI_0); (have k1 := tI_1); (have k2 := tI_2); (have k3 := tI_3); unfold sp_key; (repeat' split) <;> first | rfl | omega | (simp only [fa_lt, fa_le, fa_eq, tI_m1, tI_0, tI_1, tI_2, tI_3, tI_4, tI_5, tI_7, tI_8, tI_10, tI_15, tI_16, tI_20, tI_31, tI_125, tI_191, tI_255, tI_256, tI_980, tI_1000, tI_4095, tI_4096, tI_8191, tI_8192, tI_16383, tI_16384, tI_32767, tI_32768, tI_33791, tI_33792, tI_40959, tI_40960, tI_65535, tI_65536]; omega))), by rw [ht]; exact hP9, va_K.moved hW.alike hK9, hD9⟩, hS.F ht⟩) hS.2.2 dX7_key_26

