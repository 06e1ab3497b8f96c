def wq_X7_run : List Cond := .code yX7_run cX7_run 4 (some .int) :: ([.fieldLink RX7 44 "WorkspaceBoxModel" "thrown" "I", .fieldLink RX7 34 "WorkspaceBoxModel" "how" "I", .methodLink RX7 47 yX7_in, .static yX7_in, .initialized RX7, .code yX7_in cX7_in 3 (some .boolean)] ++ wsX70)
set_option maxRecDepth 20000 in
theorem gX7_run_X7_in : GoodIn wq_X7_run (va_wsS RX7 47 yX7_in wsX7_in) := goodIn_of _ (by decide +kernel)

theorem in_X7_run_X7 : ∀ w ∈ wsX70, w ∈ wq_X7_run := by decide +kernel
set_option maxHeartbeats 1000000 in
set_option maxRecDepth 100000 in
theorem m_run (l : Launch) (dC : Nat → ClassId) (dI : Nat → Nat → Nat) (y yo ya yv yg yp yu yk yq yt : Nat) (eo ea ev eg ep eu ek eq et : ClassId) (p0 : Int32) (sz : Nat)  : Met l yX7_run wq_X7_run ({ frames := 1, cells := 0, slots := 0, locals := 22 }) (va_Pc [.ref y, .int p0] (fun U => U.heap.size = sz ∧ va_P (dC, dI) vwCl [(y, .inr (7, [.int 0, .ref yo, .ref ya, .ref yv, .ref yg, .int 0, .int 0, .int 0, .int 0, .int 0, .ref yp, .int 0, .int 0, .int 0, .ref yu, .ref yk, .int 0, .int 0, .int 0, .int 2, .int 0, .int 0, .ref yq, .int 0, .ref yt, .int 0]))] U.heap ∧ va_K (dC, dI) vwCl [] U ∧ va_D (fun _ => True) [(y, .inr (7, [.int 0, .ref yo, .ref ya, .ref yv, .ref yg, .int 0, .int 0, .int 0, .int 0, .int 0, .ref yp, .int 0, .int 0, .int 0, .ref yu, .ref yk, .int 0, .int 0, .int 0, .int 2, .int 0, .int 0, .ref yq, .int 0, .ref yt, .int 0]))])) (va_Qi (fun (r : Int32) (u : Int32) => r = 0 ∧ u = sp_thr 2000 p0) (fun (u : Int32) (t : State) => va_P (dC, dI) vwCl [(y, .inr (7, [.int u, .ref yo, .ref ya, .ref yv, .ref yg, .int 0, .int 0, .int 0, .int 0, .int 0, .ref yp, .int 0, .int 0, .int 0, .ref yu, .ref yk, .int 0, .int 0, .int 0, .int 2, .int 0, .int 0, .ref yq, .int 0, .ref yt, .int 0]))] t.heap ∧ va_K (dC, dI) vwCl [] t ∧ va_D (va_A [(y, .inr (7, [.int 0, .ref yo, .ref ya, .ref yv, .ref yg, .int 0, .int 0, .int 0, .int 0, .int 0, .ref yp, .int 0, .int 0, .int 0, .ref yu, .ref yk, .int 0, .int 0, .int 0, .int 2, .int 0, .int 0, .ref yq, .int 0, .ref yt, .int 0]))] sz) [(y, .inr (7, [.int u, .ref yo, .ref ya, .ref yv, .ref yg, .int 0, .int 0, .int 0, .int 0, .int 0, .ref yp, .int 0, .int 0, .int 0, .ref yu, .ref yk, .int 0, .int 0, .int 0, .int 2, .int 0, .int 0, .ref yq, .int 0, .ref yt, .int 0]))]) (va_A [(y, .inr (7, [.int 0, .ref yo, .ref ya, .ref yv, .ref yg, .int 0, .int 0, .int 0, .int 0, .int 0, .ref yp, .int 0, .int 0, .int 0, .ref yu, .ref yk, .int 0, .int 0, .int 0, .int 2, .int 0, .int 0, .ref yq, .int 0, .ref yt, .int 0]))] sz)) 0 0 (va_A [(y, .inr (7, [.int 0, .ref yo, .ref ya, .ref yv, .ref yg, .int 0, .int 0, .int 0, .int 0, .int 0, .ref yp, .int 0, .int 0, .int 0, .ref yu, .ref yk, .int 0, .int 0, .int 0, .int 2, .int 0, .int 0, .ref yq, .int 0, .ref yt, .int 0]))] sz) := by
  refine Met.ofW (cc := cX7_run) (maxL := 4) (ret := (some .int)) (by decide) rfl ?_
  intro p e s m args below meth c s₁ B hml hv
  obtain ⟨rfl, hsz, hP, hK, hD0⟩ := hv
  have hx := B.exec
  have hb := B.bytes
  have hr := B.returns
  have hts := atoms_spec (ws := wq_X7_run) B.pre
  have hown : s.vm.findClass RX7 = some m.cls := findClass_of_methodNamed B.named
  have hlocks := B.notSynchronized
  subst hsz
  have hD := hD0.self (sz := s.heap.size)
  generalize hAe : va_A [(y, .inr (7, [.int 0, .ref yo, .ref ya, .ref yv, .ref yg, .int 0, .int 0, .int 0, .int 0, .int 0, .ref yp, .int 0, .int 0, .int 0, .ref yu, .ref yk, .int 0, .int 0, .int 0, .int 2, .int 0, .int 0, .ref yq, .int 0, .ref yt, .int 0]))] s.heap.size = A at hD ⊢
  have hA : ∀ q : Nat, s.heap.size ≤ q → A q := fun q h => by rw [← hAe]; exact Or.inr h
  have hS : va_S A s.heap s.heap [] := va_S.rf
  have hP : va_P (dC, dI) vwCl [(y, .inr (7, [.int 0, .ref yo, .ref ya, .ref yv, .ref yg, .int 0, .int 0, .int 0, .int 0, .int 0, .ref yp, .int 0, .int 0, .int 0, .ref yu, .ref yk, .int 0, .int 0, .int 0, .int 2, .int 0, .int 0, .ref yq, .int 0, .ref yt, .int 0]))] s.heap := hP
  have hl := lv_entry ([.ref y, .int p0]) (n := 4) (Nat.le_of_ble_eq_true rfl)
  rw [lg_entry_eq]
  generalize (lg_sl ([.ref y, .int p0]) ++ List.replicate (4 - (lg_sl ([.ref y, .int p0])).length) Slot.unset).toArray = ls at hl ⊢
  have hl : lv_has ls 4 [(0, .ref y), (1, .int p0)] := hl
  refine lv_aload_n hx hb dX7_run_0 rfl (lv_at hl 0 rfl) ?_
  refine lv_iload_n hx hb dX7_run_1 rfl (lv_at hl 1 rfl) ?_
  refine lv_iconst (v := 0) hx hb dX7_run_2 (by decide) ?_
  refine lv_sipush (v := 2000) hx hb dX7_run_3 (by decide) ?_
  have hPc := hP.sub (ws' := []) [] rfl
  have hDc := hD.sub (ws' := []) [] (by decide) rfl
  have hKc := hK.sub (tys' := []) [] rfl
  have hFc := va_free (wc := []) hD hS hA [] rfl
  refine va_calli (va_runS (As := [.int p0, .int 0, .int 2000]) (rest := [.ref y]) ⟨hx, hb, hml, hown, hts⟩ (m_in l dC dI y yo ya yv yg yp yu yk yq yt eo ea ev eg ep eu ek eq et p0 0 2000 s.heap.size) (va_cwS 3 hts gX7_run_X7_in rfl rfl rfl (by decide +kernel) ⟨Nat.le_of_ble_eq_true rfl, Nat.le_of_ble_eq_true rfl⟩) ⟨fun a U g mk q => by obtain ⟨q0, q1, qP, qK, qD⟩ := q; exact ⟨q0, q1, qP, va_K.moved (u := U) (U := U.calling g mk a) (Vm.Alike.refl U.vm) qK, qD⟩, fun U hU hW => ⟨rfl, by rw [hU], by rw [hU]; exact hPc, va_K.moved hW.alike hKc, hDc.weaken (fun _ _ _ _ => trivial)⟩⟩ rfl rfl hl.1 rfl (lv_room (Nat.le_of_ble_eq_true rfl)) dX7_run_6 ⟨Nat.le_of_ble_eq_true rfl, Nat.le_of_ble_eq_true rfl⟩) hS (fun q _ h => hFc q h) hFc (fun r_1 u t H1 locs ht hvm hw hB hz1 hk1 hS => ?_)
  obtain ⟨hP1, hK1, hD1⟩ := hB
  rw [ht] at hP1
  have hK1 := va_K.moved hvm.symm hK1
  try dsimp only at hw
  obtain ⟨hP, hD⟩ := va_join (wr := [(y, .inr (7, [.int 0, .ref yo, .ref ya, .ref yv, .ref yg, .int 0, .int 0, .int 0, .int 0, .int 0, .ref yp, .int 0, .int 0, .int 0, .ref yu, .ref yk, .int 0, .int 0, .int 0, .int 2, .int 0, .int 0, .ref yq, .int 0, .ref yt, .int 0]))]) (w1 := []) hP hD [] [0] rfl rfl (by decide) (by decide) hk1 hFc hP1 hD1
  have hK := (hK.sub (tys' := []) [] rfl).app hK1
  generalize H1 = H at hP hS ⊢
  have hP : va_P (dC, dI) vwCl [(y, .inr (7, [.int 0, .ref yo, .ref ya, .ref yv, .ref yg, .int 0, .int 0, .int 0, .int 0, .int 0, .ref yp, .int 0, .int 0, .int 0, .ref yu, .ref yk, .int 0, .int 0, .int 0, .int 2, .int 0, .int 0, .ref yq, .int 0, .ref yt, .int 0]))] H := hP
  have hD : va_D A [(y, .inr (7, [.int 0, .ref yo, .ref ya, .ref yv, .ref yg, .int 0, .int 0, .int 0, .int 0, .int 0, .ref yp, .int 0, .int 0, .int 0, .ref yu, .ref yk, .int 0, .int 0, .int 0, .int 2, .int 0, .int 0, .ref yq, .int 0, .ref yt, .int 0]))] := hD
  have hK : va_K (dC, dI) vwCl [] s := hK
  have hw_2 := hw
  rcases hw_2 with ⟨rfl, h8, h9⟩ | ⟨rfl, h8⟩
  · refine lv_if_eq (tgt := 16) hx hb dX7_run_9 (by decide) (fun h => absurd h (by decide)) (fun _ => ?_)
    refine lv_iconst (v := 0) hx hb dX7_run_12 (by decide) ?_
    refine lv_goto (tgt := 17) hx hb dX7_run_13 (by decide) ?_
    refine va_put (D := (dC, dI)) (ci := 7) (v := .int 0) (ty := .int) (C := RX7) (T := TX7) (N := 26) hx hb hts in_X7_run_X7 tyX7 tyX7_ok nmX7 hown hK hP hD hS 0 rfl rfl 0 (by decide) (hts (.fieldLink RX7 44 "WorkspaceBoxModel" "thrown" "I") (by decide +kernel)) (fun _ h9 => h9) rfl (by decide +kernel) rfl rfl (Nat.le_of_ble_eq_true rfl) dX7_run_17 (fun H locs hP hD hS => ?_)
    have hP : va_P (dC, dI) vwCl [(y, .inr (7, [.int 0, .ref yo, .ref ya, .ref yv, .ref yg, .int 0, .int 0, .int 0, .int 0, .int 0, .ref yp, .int 0, .int 0, .int 0, .ref yu, .ref yk, .int 0, .int 0, .int 0, .int 2, .int 0, .int 0, .ref yq, .int 0, .ref yt, .int 0]))] H := hP
    have hD : va_D A [(y, .inr (7, [.int 0, .ref yo, .ref ya, .ref yv, .ref yg, .int 0, .int 0, .int 0, .int 0, .int 0, .ref yp, .int 0, .int 0, .int 0, .ref yu, .ref yk, .int 0, .int 0, .int 0, .int 2, .int 0, .int 0, .ref yq, .int 0, .ref yt, .int 0]))] := hD
    refine lv_aload_n hx hb dX7_run_20 rfl (lv_at hl 0 rfl) ?_
    refine va_get (D := (dC, dI)) (ci := 7) (v := .int 0) (C := RX7) (T := TX7) (N := 26) hx hb hts in_X7_run_X7 hown hK hP 0 rfl rfl 0 (by decide) (hts (.fieldLink RX7 44 "WorkspaceBoxModel" "thrown" "I") (by decide +kernel)) (fun _ h9 => h9) rfl dX7_run_21 ?_
    refine lv_if_le (tgt := 29) hx hb dX7_run_24 (by decide) (fun _ => ?_) (fun h => absurd (by decide) h)
    refine lv_iconst (v := 0) hx hb dX7_run_29 (by decide) ?_
    refine lv_istore_n (lv' := [(2, .int 0), (0, .ref y), (1, .int p0)]) hx hb dX7_run_30 rfl hl (by decide) rfl (fun ls hl => ?_)
    refine lv_iload_n hx hb dX7_run_31 rfl (lv_at hl 0 rfl) ?_
    refine lv_iload_n hx hb dX7_run_32 rfl (lv_at hl 2 rfl) ?_
    refine lv_icmp_ge (tgt := 107) hx hb dX7_run_33 (by decide) (fun c33_3 => ?_) (fun c33_3 => ?_)
    · refine lv_iload_n hx hb dX7_run_107 rfl (lv_at hl 0 rfl) ?_
      have hP9 := hP.sub (ws' := [(y, .inr (7, [.int 0, .ref yo, .ref ya, .ref yv, .ref yg, .int 0, .int 0, .int 0, .int 0, .int 0, .ref yp, .int 0, .int 0, .int 0, .ref yu, .ref yk, .int 0, .int 0, .int 0, .int 2, .int 0, .int 0, .ref yq, .int 0, .ref yt, .int 0]))]) [0] rfl
      have hD9 := hD.sub (ws' := [(y, .inr (7, [.int 0, .ref yo, .ref ya, .ref yv, .ref yg, .int 0, .int 0, .int 0, .int 0, .int 0, .ref yp, .int 0, .int 0, .int 0, .ref yu, .ref yk, .int 0, .int 0, .int 0, .int 2, .int 0, .int 0, .ref yq, .int 0, .ref yt, .int 0]))]) [0] (by decide) rfl
      have hK9 := hK.sub (tys' := []) [] rfl
      exact W.iret (v := 0) hx hb hr (fun t ht hW => ⟨⟨0, 0, rfl, ⟨rfl, by ((try simp only [fa_lt, fa_le, fa_eq, tI_m1, tI_0, tI_1, tI_2, tI_3, tI_4, tI_5, tI_7, tI_8, tI_10, tI_15, tI_16, tI_20, tI_31, tI_125, tI_191, tI_255, tI_256, tI_980, tI_1000, tI_2000, tI_4095, tI_4096, tI_8191, tI_8192, tI_16383, tI_16384, tI_32767, tI_32768, tI_33791, tI_33792, tI_40959, tI_40960, tI_65535, tI_65536] at hw_2); (try simp only [fa_lt, fa_le, fa_eq, tI_m1, tI_0, tI_1, tI_2, tI_3, tI_4, tI_5, tI_7, tI_8, tI_10, tI_15, tI_16, tI_20, tI_31, tI_125, tI_191, tI_255, tI_256, tI_980, tI_1000, tI_2000, tI_4095, tI_4096, tI_8191, tI_8192, tI_16383, tI_16384, tI_32767, tI_32768, tI_33791, tI_33792, tI_40959, tI_40960, tI_65535, tI_65536] at h8); (try simp only [fa_lt, fa_le, fa_eq, tI_m1, tI_0, tI_1, tI_2, tI_3, tI_4, tI_5, tI_7, tI_8, tI_10, tI_15, tI_16, tI_20, tI_31, tI_125, tI_191, tI_255, tI_256, tI_980, tI_1000, tI_2000, tI_4095, tI_4096, tI_8191, tI_8192, tI_16383, tI_16384, tI_32767, tI_32768, tI_33791, tI_33792, tI_40959, tI_40960, tI_65535, tI_65536] at h9); (try simp only [fa_lt, fa_le, fa_eq, tI_m1, tI_0, tI_1, tI_2, tI_3, tI_4, tI_5, tI_7, tI_8, tI_10, tI_15, tI_16, tI_20, tI_31, tI_125, tI_191, tI_255, tI_256, tI_980, tI_1000, tI_2000, tI_4095, tI_4096, tI_8191, tI_8192, tI_16383, tI_16384, tI_32767, tI_32768, tI_33791, tI_33792, tI_40959, tI_40960, tI_65535, tI_65536] at c33_3); unfold sp_thr; (repeat' split) <;> first | rfl | omega)⟩, by rw [ht]; exact hP9, va_K.moved hW.alike hK9, hD9⟩, hS.F ht⟩) hS.2.2 dX7_run_108
    · refine lv_aload_n hx hb dX7_run_36 rfl (lv_at hl 1 rfl) ?_
      refine va_get (D := (dC, dI)) (ci := 7) (v := .int 2) (C := RX7) (T := TX7) (N := 26) hx hb hts in_X7_run_X7 hown hK hP 0 rfl rfl 19 (by decide) (hts (.fieldLink RX7 34 "WorkspaceBoxModel" "how" "I") (by decide +kernel)) (fun _ h9 => h9) rfl dX7_run_37 ?_
      refine lv_iconst (v := 2) hx hb dX7_run_40 (by decide) ?_
      refine lv_icmp_eq (tgt := 107) hx hb dX7_run_41 (by decide) (fun _ => ?_) (fun h => absurd (by decide) h)
      refine lv_iload_n hx hb dX7_run_107 rfl (lv_at hl 0 rfl) ?_
      have hP9 := hP.sub (ws' := [(y, .inr (7, [.int 0, .ref yo, .ref ya, .ref yv, .ref yg, .int 0, .int 0, .int 0, .int 0, .int 0, .ref yp, .int 0, .int 0, .int 0, .ref yu, .ref yk, .int 0, .int 0, .int 0, .int 2, .int 0, .int 0, .ref yq, .int 0, .ref yt, .int 0]))]) [0] rfl
      have hD9 := hD.sub (ws' := [(y, .inr (7, [.int 0, .ref yo, .ref ya, .ref yv, .ref yg, .int 0, .int 0, .int 0, .int 0, .int 0, .ref yp, .int 0, .int 0, .int 0, .ref yu, .ref yk, .int 0, .int 0, .int 0, .int 2, .int 0, .int 0, .ref yq, .int 0, .ref yt, .int 0]))]) [0] (by decide) rfl
      have hK9 := hK.sub (tys' := []) [] rfl
      exact W.iret (v := 0) hx hb hr (fun t ht hW => ⟨⟨0, 0, rfl, ⟨rfl, by ((try simp only [fa_lt, fa_le, fa_eq, tI_m1, tI_0, tI_1, tI_2, tI_3, tI_4, tI_5, tI_7, tI_8, tI_10, tI_15, tI_16, tI_20, tI_31, tI_125, tI_191, tI_255, tI_256, tI_980, tI_1000, tI_2000, tI_4095, tI_4096, tI_8191, tI_8192, tI_16383, tI_16384, tI_32767, tI_32768, tI_33791, tI_33792, tI_40959, tI_40960, tI_65535, tI_65536] at hw_2); (try simp only [fa_lt, fa_le, fa_eq, tI_m1, tI_0, tI_1, tI_2, tI_3, tI_4, tI_5, tI_7, tI_8, tI_10, tI_15, tI_16, tI_20, tI_31, tI_125, tI_191, tI_255, tI_256, tI_980, tI_1000, tI_2000, tI_4095, tI_4096, tI_8191, tI_8192, tI_16383, tI_16384, tI_32767, tI_32768, tI_33791, tI_33792, tI_40959, tI_40960, tI_65535, tI_65536] at h8); (try simp only [fa_lt, fa_le, fa_eq, tI_m1, tI_0, tI_1, tI_2, tI_3, tI_4, tI_5, tI_7, tI_8, tI_10, tI_15, tI_16, tI_20, tI_31, tI_125, tI_191, tI_255, tI_256, tI_980, tI_1000, tI_2000, tI_4095, tI_4096, tI_8191, tI_8192, tI_16383, tI_16384, tI_32767, tI_32768, tI_33791, tI_33792, tI_40959, tI_40960, tI_65535, tI_65536] at h9); (try simp only [fa_lt, fa_le, fa_eq, tI_m1, tI_0, tI_1, tI_2, tI_3, tI_4, tI_5, tI_7, tI_8, tI_10, tI_15, tI_16, tI_20, tI_31, tI_125, tI_191, tI_255, tI_256, tI_980, tI_1000, tI_2000, tI_4095, tI_4096, tI_8191, tI_8192, tI_16383, tI_16384, tI_32767, tI_32768, tI_33791, tI_33792, tI_40959, tI_40960, tI_65535, tI_65536] at c33_3); unfold sp_thr; (repeat' split) <;> first | rfl | omega)⟩, by rw [ht]; exact hP9, va_K.moved hW.alike hK9, hD9⟩, hS.F ht⟩) hS.2.2 dX7_run_108
  · refine lv_if_eq (tgt := 16) hx hb dX7_run_9 (by decide) (fun _ => ?_) (fun h => absurd (by decide) h)
    refine lv_iconst (v := 1) hx hb dX7_run_16 (by decide) ?_
    refine va_put (D := (dC, dI)) (ci := 7) (v := .int 1) (ty := .int) (C := RX7) (T := TX7) (N := 26) hx hb hts in_X7_run_X7 tyX7 tyX7_ok nmX7 hown hK hP hD hS 0 rfl rfl 0 (by decide) (hts (.fieldLink RX7 44 "WorkspaceBoxModel" "thrown" "I") (by decide +kernel)) (fun _ h9 => h9) rfl (by decide +kernel) rfl rfl (Nat.le_of_ble_eq_true rfl) dX7_run_17 (fun H locs hP hD hS => ?_)
    have hP : va_P (dC, dI) vwCl [(y, .inr (7, [.int 1, .ref yo, .ref ya, .ref yv, .ref yg, .int 0, .int 0, .int 0, .int 0, .int 0, .ref yp, .int 0, .int 0, .int 0, .ref yu, .ref yk, .int 0, .int 0, .int 0, .int 2, .int 0, .int 0, .ref yq, .int 0, .ref yt, .int 0]))] H := hP
    have hD : va_D A [(y, .inr (7, [.int 1, .ref yo, .ref ya, .ref yv, .ref yg, .int 0, .int 0, .int 0, .int 0, .int 0, .ref yp, .int 0, .int 0, .int 0, .ref yu, .ref yk, .int 0, .int 0, .int 0, .int 2, .int 0, .int 0, .ref yq, .int 0, .ref yt, .int 0]))] := hD
    refine lv_aload_n hx hb dX7_run_20 rfl (lv_at hl 0 rfl) ?_
    refine va_get (D := (dC, dI)) (ci := 7) (v := .int 1) (C := RX7) (T := TX7) (N := 26) hx hb hts in_X7_run_X7 hown hK hP 0 rfl rfl 0 (by decide) (hts (.fieldLink RX7 44 "WorkspaceBoxModel" "thrown" "I") (by decide +kernel)) (fun _ h9 => h9) rfl dX7_run_21 ?_
    refine lv_if_le (tgt := 29) hx hb dX7_run_24 (by decide) (fun h => absurd h (by decide)) (fun _ => ?_)
    refine lv_iconst (v := 0) hx hb dX7_run_27 (by decide) ?_
    have hP9 := hP.sub (ws' := [(y, .inr (7, [.int 1, .ref yo, .ref ya, .ref yv, .ref yg, .int 0, .int 0, .int 0, .int 0, .int 0, .ref yp, .int 0, .int 0, .int 0, .ref yu, .ref yk, .int 0, .int 0, .int 0, .int 2, .int 0, .int 0, .ref yq, .int 0, .ref yt, .int 0]))]) [0] rfl
    have hD9 := hD.sub (ws' := [(y, .inr (7, [.int 1, .ref yo, .ref ya, .ref yv, .ref yg, .int 0, .int 0, .int 0, .int 0, .int 0, .ref yp, .int 0, .int 0, .int 0, .ref yu, .ref yk, .int 0, .int 0, .int 0, .int 2, .int 0, .int 0, .ref yq, .int 0, .ref yt, .int 0]))]) [0] (by decide) rfl
    have hK9 := hK.sub (tys' := []) [] rfl
    exact W.iret (v := 0) hx hb hr (fun t ht hW => ⟨⟨0, 1, rfl, ⟨rfl, by ((try simp only [fa_lt, fa_le, fa_eq, tI_m1, tI_0, tI_1, tI_2, tI_3, tI_4, tI_5, tI_7, tI_8, tI_10, tI_15, tI_16, tI_20, tI_31, tI_125, tI_191, tI_255, tI_256, tI_980, tI_1000, tI_2000, tI_4095, tI_4096, tI_8191, tI_8192, tI_16383, tI_16384, tI_32767, tI_32768, tI_33791, tI_33792, tI_40959, tI_40960, tI_65535, tI_65536] at hw_2); (try simp only [fa_lt, fa_le, fa_eq, tI_m1, tI_0, tI_1, tI_2, tI_3, tI_4, tI_5, tI_7, tI_8, tI_10, tI_15, tI_16, tI_20, tI_31, tI_125, tI_191, tI_255, tI_256, tI_980, tI_1000, tI_2000, tI_4095, tI_4096, tI_8191, tI_8192, tI_16383, tI_16384, tI_32767, tI_32768, tI_33791, tI_33792, tI_40959, tI_40960, tI_65535, tI_65536] at h8); unfold sp_thr; (repeat' split) <;> first | rfl | omega)⟩, by rw [ht]; exact hP9, va_K.moved hW.alike hK9, hD9⟩, hS.F ht⟩) hS.2.2 dX7_run_28

