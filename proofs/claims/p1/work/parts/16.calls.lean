theorem in_X6_set_X6 : ∀ w ∈ wsX60, w ∈ wsX6_set := by decide +kernel
theorem in_X6_set_X4 : ∀ w ∈ wsX40, w ∈ wsX6_set := by decide +kernel
set_option maxHeartbeats 1000000 in
set_option maxRecDepth 100000 in
theorem k_set (l : Launch) (dC : Nat → ClassId) (dI : Nat → Nat → Nat) (x tb ta pi pb pa pr gr gb ga wi wa me rb ra mb ma qb qa pu : Nat) (ct cp cr cg cw c1 c2 c3 : ClassId) (p0 : Int32) (p1 : Int32) (sz : Nat)  : Met l yX6_set wsX6_set ({ frames := 0, cells := 0, slots := 0, locals := 0 }) (va_Pc [.ref x, .int p0, .int p1] (fun U => U.heap.size = sz ∧ va_P (dC, dI) vwCl [(x, .inr (6, [.ref tb, .ref pi, .ref gr, .ref wi, .ref me, .ref pu, .int 0])), (pu, .inr (4, [.ref me, .ref pi, .ref wi, .int 0, .int 0, .int 0, .int 2, .int 0, .int 0, .int 0, .int 0, .int 0]))] U.heap ∧ va_K (dC, dI) vwCl [] U ∧ va_D (fun _ => True) [(x, .inr (6, [.ref tb, .ref pi, .ref gr, .ref wi, .ref me, .ref pu, .int 0])), (pu, .inr (4, [.ref me, .ref pi, .ref wi, .int 0, .int 0, .int 0, .int 2, .int 0, .int 0, .int 0, .int 0, .int 0]))])) (va_Qi (fun (r : Int32) (_ : Unit) => r = sp_set p0) (fun (u : Unit) (t : State) => va_P (dC, dI) vwCl [] t.heap ∧ va_K (dC, dI) vwCl [] t ∧ va_D (va_A [(x, .inr (6, [.ref tb, .ref pi, .ref gr, .ref wi, .ref me, .ref pu, .int 0])), (pu, .inr (4, [.ref me, .ref pi, .ref wi, .int 0, .int 0, .int 0, .int 2, .int 0, .int 0, .int 0, .int 0, .int 0]))] sz) []) (va_A [(x, .inr (6, [.ref tb, .ref pi, .ref gr, .ref wi, .ref me, .ref pu, .int 0])), (pu, .inr (4, [.ref me, .ref pi, .ref wi, .int 0, .int 0, .int 0, .int 2, .int 0, .int 0, .int 0, .int 0, .int 0]))] sz)) 0 0 (va_A [(x, .inr (6, [.ref tb, .ref pi, .ref gr, .ref wi, .ref me, .ref pu, .int 0])), (pu, .inr (4, [.ref me, .ref pi, .ref wi, .int 0, .int 0, .int 0, .int 2, .int 0, .int 0, .int 0, .int 0, .int 0]))] sz) := by
  refine Met.ofW (cc := cX6_set) (maxL := 3) (ret := (some .boolean)) (by decide) rfl ?_
  intro p e s m args below meth c s₁ B hml hv
  obtain ⟨rfl, hsz, hP, hK, hD0⟩ := hv
  have hx := B.exec
  have hb := B.bytes
  have hr := B.returns
  have hts := atoms_spec (ws := wsX6_set) B.pre
  have hown : s.vm.findClass RX6 = some m.cls := findClass_of_methodNamed B.named
  have hlocks := B.notSynchronized
  subst hsz
  have hD := hD0.self (sz := s.heap.size)
  generalize hAe : va_A [(x, .inr (6, [.ref tb, .ref pi, .ref gr, .ref wi, .ref me, .ref pu, .int 0])), (pu, .inr (4, [.ref me, .ref pi, .ref wi, .int 0, .int 0, .int 0, .int 2, .int 0, .int 0, .int 0, .int 0, .int 0]))] s.heap.size = A at hD ⊢
  have hA : ∀ q : Nat, s.heap.size ≤ q → A q := fun q h => by rw [← hAe]; exact Or.inr h
  have hS : va_S A s.heap s.heap [] := va_S.rf
  have hP : va_P (dC, dI) vwCl [(x, .inr (6, [.ref tb, .ref pi, .ref gr, .ref wi, .ref me, .ref pu, .int 0])), (pu, .inr (4, [.ref me, .ref pi, .ref wi, .int 0, .int 0, .int 0, .int 2, .int 0, .int 0, .int 0, .int 0, .int 0]))] s.heap := hP
  have hl := lv_entry ([.ref x, .int p0, .int p1]) (n := 3) (Nat.le_of_ble_eq_true rfl)
  rw [lg_entry_eq]
  generalize (lg_sl ([.ref x, .int p0, .int p1]) ++ List.replicate (3 - (lg_sl ([.ref x, .int p0, .int p1])).length) Slot.unset).toArray = ls at hl ⊢
  have hl : lv_has ls 3 [(0, .ref x), (1, .int p0), (2, .int p1)] := hl
  refine lv_iload_n hx hb dX6_set_0 rfl (lv_at hl 1 rfl) ?_
  rcases sw_0_2 p0 with c1_1 | rfl | rfl | rfl
  · refine lv_tableOut (tgt := 70) hx hb dX6_set_1 c1_1 (by decide) ?_
    refine lv_iconst (v := 0) hx hb dX6_set_70 (by decide) ?_
    have hP9 := hP.sub (ws' := []) [] rfl
    have hD9 := hD.sub (ws' := []) [] (by decide) rfl
    have hK9 := hK.sub (tys' := []) [] rfl
    exact W.zret (v := 0) hx hb hr rfl (fun t ht hW => ⟨⟨0, (), rfl, by (first | decide | ((try subst_vars); (try dsimp only); (try simp only [fa_lt, fa_le, fa_eq, tI_m1, tI_0, tI_1, tI_2, tI_3, tI_4, tI_5, tI_7, tI_8, tI_10, tI_15, tI_16, tI_20, tI_31, tI_125, tI_191, tI_255, tI_256, tI_980, tI_1000, tI_4095, tI_4096, tI_8191, tI_8192, tI_16383, tI_16384, tI_32767, tI_32768, tI_33791, tI_33792, tI_40959, tI_40960, tI_65535, tI_65536] at c1_1); (have k0 := tI_0); (have k1 := tI_1); (have k2 := tI_2); (have k3 := tI_3); unfold sp_set; (repeat' split) <;> first | rfl | omega | (simp only [fa_lt, fa_le, fa_eq, tI_m1, tI_0, tI_1, tI_2, tI_3, tI_4, tI_5, tI_7, tI_8, tI_10, tI_15, tI_16, tI_20, tI_31, tI_125, tI_191, tI_255, tI_256, tI_980, tI_1000, tI_4095, tI_4096, tI_8191, tI_8192, tI_16383, tI_16384, tI_32767, tI_32768, tI_33791, tI_33792, tI_40959, tI_40960, tI_65535, tI_65536]; omega))), by rw [ht]; exact hP9, va_K.moved hW.alike hK9, hD9⟩, hS.F ht⟩) hS.2.2 dX6_set_71
  · refine lv_tableIn (tgt := 28) hx hb dX6_set_1 (by decide) (by decide) rfl (by decide) ?_
    refine lv_aload_n hx hb dX6_set_28 rfl (lv_at hl 0 rfl) ?_
    refine va_get (D := (dC, dI)) (ci := 6) (v := .ref pu) (C := RX6) (T := TX6) (N := 7) hx hb hts in_X6_set_X6 hown hK hP 0 rfl rfl 5 (by decide) (hts (.fieldLink RX6 55 "WorkspaceBox" "processor" "LWorkspaceBox$Processor;") (by decide +kernel)) (fun _ h9 => h9) rfl dX6_set_29 ?_
    refine lv_iload_n hx hb dX6_set_32 rfl (lv_at hl 2 rfl) ?_
    refine lv_ldc hx hb hown (hts (.constant RX6 133 (65534)) (by decide +kernel)) dX6_set_33 ?_
    refine lv_iand hx hb dX6_set_35 ?_
    refine lv_topi (fun y_2 ey_2 => ?_)
    refine va_put (D := (dC, dI)) (ci := 4) (v := .int y_2) (ty := .int) (C := RX4) (T := TX4) (N := 12) hx hb hts in_X6_set_X4 tyX4 tyX4_ok nmX4 hown hK hP hD hS 1 rfl rfl 3 (by decide) (hts (.fieldLink RX6 109 "WorkspaceBox$Processor" "pc" "I") (by decide +kernel)) (fun _ h9 => h9) rfl (by decide +kernel) rfl rfl (Nat.le_of_ble_eq_true rfl) dX6_set_36 (fun H locs hP hD hS => ?_)
    have hP : va_P (dC, dI) vwCl [(x, .inr (6, [.ref tb, .ref pi, .ref gr, .ref wi, .ref me, .ref pu, .int 0])), (pu, .inr (4, [.ref me, .ref pi, .ref wi, .int y_2, .int 0, .int 0, .int 2, .int 0, .int 0, .int 0, .int 0, .int 0]))] H := hP
    have hD : va_D A [(x, .inr (6, [.ref tb, .ref pi, .ref gr, .ref wi, .ref me, .ref pu, .int 0])), (pu, .inr (4, [.ref me, .ref pi, .ref wi, .int y_2, .int 0, .int 0, .int 2, .int 0, .int 0, .int 0, .int 0, .int 0]))] := hD
    refine lv_goto (tgt := 72) hx hb dX6_set_39 (by decide) ?_
    refine lv_aload_n hx hb dX6_set_72 rfl (lv_at hl 0 rfl) ?_
    refine va_get (D := (dC, dI)) (ci := 6) (v := .ref pu) (C := RX6) (T := TX6) (N := 7) hx hb hts in_X6_set_X6 hown hK hP 0 rfl rfl 5 (by decide) (hts (.fieldLink RX6 55 "WorkspaceBox" "processor" "LWorkspaceBox$Processor;") (by decide +kernel)) (fun _ h9 => h9) rfl dX6_set_73 ?_
    refine lv_iconst (v := 0) hx hb dX6_set_76 (by decide) ?_
    refine va_put (D := (dC, dI)) (ci := 4) (v := .int 0) (ty := .int) (C := RX4) (T := TX4) (N := 12) hx hb hts in_X6_set_X4 tyX4 tyX4_ok nmX4 hown hK hP hD hS 1 rfl rfl 6 (by decide) (hts (.fieldLink RX6 118 "WorkspaceBox$Processor" "mode" "I") (by decide +kernel)) (fun _ h9 => h9) rfl (by decide +kernel) rfl rfl (Nat.le_of_ble_eq_true rfl) dX6_set_77 (fun H locs hP hD hS => ?_)
    have hP : va_P (dC, dI) vwCl [(x, .inr (6, [.ref tb, .ref pi, .ref gr, .ref wi, .ref me, .ref pu, .int 0])), (pu, .inr (4, [.ref me, .ref pi, .ref wi, .int y_2, .int 0, .int 0, .int 0, .int 0, .int 0, .int 0, .int 0, .int 0]))] H := hP
    have hD : va_D A [(x, .inr (6, [.ref tb, .ref pi, .ref gr, .ref wi, .ref me, .ref pu, .int 0])), (pu, .inr (4, [.ref me, .ref pi, .ref wi, .int y_2, .int 0, .int 0, .int 0, .int 0, .int 0, .int 0, .int 0, .int 0]))] := hD
    refine lv_iconst (v := 1) hx hb dX6_set_80 (by decide) ?_
    have hP9 := hP.sub (ws' := []) [] rfl
    have hD9 := hD.sub (ws' := []) [] (by decide) rfl
    have hK9 := hK.sub (tys' := []) [] rfl
    exact W.zret (v := 1) hx hb hr rfl (fun t ht hW => ⟨⟨1, (), rfl, by (first | decide | ((try subst_vars); (try dsimp only); (have k0 := tI_0); (have k1 := tI_1); (have k2 := tI_2); (have k3 := tI_3); unfold sp_set; (repeat' split) <;> first | rfl | omega | (simp only [fa_lt, fa_le, fa_eq, tI_m1, tI_0, tI_1, tI_2, tI_3, tI_4, tI_5, tI_7, tI_8, tI_10, tI_15, tI_16, tI_20, tI_31, tI_125, tI_191, tI_255, tI_256, tI_980, tI_1000, tI_4095, tI_4096, tI_8191, tI_8192, tI_16383, tI_16384, tI_32767, tI_32768, tI_33791, tI_33792, tI_40959, tI_40960, tI_65535, tI_65536]; omega))), by rw [ht]; exact hP9, va_K.moved hW.alike hK9, hD9⟩, hS.F ht⟩) hS.2.2 dX6_set_81
  · refine lv_tableIn (tgt := 42) hx hb dX6_set_1 (by decide) (by decide) rfl (by decide) ?_
    refine lv_aload_n hx hb dX6_set_42 rfl (lv_at hl 0 rfl) ?_
    refine va_get (D := (dC, dI)) (ci := 6) (v := .ref pu) (C := RX6) (T := TX6) (N := 7) hx hb hts in_X6_set_X6 hown hK hP 0 rfl rfl 5 (by decide) (hts (.fieldLink RX6 55 "WorkspaceBox" "processor" "LWorkspaceBox$Processor;") (by decide +kernel)) (fun _ h9 => h9) rfl dX6_set_43 ?_
    refine lv_iload_n hx hb dX6_set_46 rfl (lv_at hl 2 rfl) ?_
    refine lv_ldc hx hb hown (hts (.constant RX6 133 (65534)) (by decide +kernel)) dX6_set_47 ?_
    refine lv_iand hx hb dX6_set_49 ?_
    refine lv_topi (fun y_3 ey_3 => ?_)
    refine va_put (D := (dC, dI)) (ci := 4) (v := .int y_3) (ty := .int) (C := RX4) (T := TX4) (N := 12) hx hb hts in_X6_set_X4 tyX4 tyX4_ok nmX4 hown hK hP hD hS 1 rfl rfl 4 (by decide) (hts (.fieldLink RX6 112 "WorkspaceBox$Processor" "wp" "I") (by decide +kernel)) (fun _ h9 => h9) rfl (by decide +kernel) rfl rfl (Nat.le_of_ble_eq_true rfl) dX6_set_50 (fun H locs hP hD hS => ?_)
    have hP : va_P (dC, dI) vwCl [(x, .inr (6, [.ref tb, .ref pi, .ref gr, .ref wi, .ref me, .ref pu, .int 0])), (pu, .inr (4, [.ref me, .ref pi, .ref wi, .int 0, .int y_3, .int 0, .int 2, .int 0, .int 0, .int 0, .int 0, .int 0]))] H := hP
    have hD : va_D A [(x, .inr (6, [.ref tb, .ref pi, .ref gr, .ref wi, .ref me, .ref pu, .int 0])), (pu, .inr (4, [.ref me, .ref pi, .ref wi, .int 0, .int y_3, .int 0, .int 2, .int 0, .int 0, .int 0, .int 0, .int 0]))] := hD
    refine lv_goto (tgt := 72) hx hb dX6_set_53 (by decide) ?_
    refine lv_aload_n hx hb dX6_set_72 rfl (lv_at hl 0 rfl) ?_
    refine va_get (D := (dC, dI)) (ci := 6) (v := .ref pu) (C := RX6) (T := TX6) (N := 7) hx hb hts in_X6_set_X6 hown hK hP 0 rfl rfl 5 (by decide) (hts (.fieldLink RX6 55 "WorkspaceBox" "processor" "LWorkspaceBox$Processor;") (by decide +kernel)) (fun _ h9 => h9) rfl dX6_set_73 ?_
    refine lv_iconst (v := 0) hx hb dX6_set_76 (by decide) ?_
    refine va_put (D := (dC, dI)) (ci := 4) (v := .int 0) (ty := .int) (C := RX4) (T := TX4) (N := 12) hx hb hts in_X6_set_X4 tyX4 tyX4_ok nmX4 hown hK hP hD hS 1 rfl rfl 6 (by decide) (hts (.fieldLink RX6 118 "WorkspaceBox$Processor" "mode" "I") (by decide +kernel)) (fun _ h9 => h9) rfl (by decide +kernel) rfl rfl (Nat.le_of_ble_eq_true rfl) dX6_set_77 (fun H locs hP hD hS => ?_)
    have hP : va_P (dC, dI) vwCl [(x, .inr (6, [.ref tb, .ref pi, .ref gr, .ref wi, .ref me, .ref pu, .int 0])), (pu, .inr (4, [.ref me, .ref pi, .ref wi, .int 0, .int y_3, .int 0, .int 0, .int 0, .int 0, .int 0, .int 0, .int 0]))] H := hP
    have hD : va_D A [(x, .inr (6, [.ref tb, .ref pi, .ref gr, .ref wi, .ref me, .ref pu, .int 0])), (pu, .inr (4, [.ref me, .ref pi, .ref wi, .int 0, .int y_3, .int 0, .int 0, .int 0, .int 0, .int 0, .int 0, .int 0]))] := hD
    refine lv_iconst (v := 1) hx hb dX6_set_80 (by decide) ?_
    have hP9 := hP.sub (ws' := []) [] rfl
    have hD9 := hD.sub (ws' := []) [] (by decide) rfl
    have hK9 := hK.sub (tys' := []) [] rfl
    exact W.zret (v := 1) hx hb hr rfl (fun t ht hW => ⟨⟨1, (), rfl, by (first | decide | ((try subst_vars); (try dsimp only); (have k0 := tI_0); (have k1 := tI_1); (have k2 := tI_2); (have k3 := tI_3); unfold sp_set; (repeat' split) <;> first | rfl | omega | (simp only [fa_lt, fa_le, fa_eq, tI_m1, tI_0, tI_1, tI_2, tI_3, tI_4, tI_5, tI_7, tI_8, tI_10, tI_15, tI_16, tI_20, tI_31, tI_125, tI_191, tI_255, tI_256, tI_980, tI_1000, tI_4095, tI_4096, tI_8191, tI_8192, tI_16383, tI_16384, tI_32767, tI_32768, tI_33791, tI_33792, tI_40959, tI_40960, tI_65535, tI_65536]; omega))), by rw [ht]; exact hP9, va_K.moved hW.alike hK9, hD9⟩, hS.F ht⟩) hS.2.2 dX6_set_81
  · refine lv_tableIn (tgt := 56) hx hb dX6_set_1 (by decide) (by decide) rfl (by decide) ?_
    refine lv_aload_n hx hb dX6_set_56 rfl (lv_at hl 0 rfl) ?_
    refine va_get (D := (dC, dI)) (ci := 6) (v := .ref pu) (C := RX6) (T := TX6) (N := 7) hx hb hts in_X6_set_X6 hown hK hP 0 rfl rfl 5 (by decide) (hts (.fieldLink RX6 55 "WorkspaceBox" "processor" "LWorkspaceBox$Processor;") (by decide +kernel)) (fun _ h9 => h9) rfl dX6_set_57 ?_
    refine lv_iload_n hx hb dX6_set_60 rfl (lv_at hl 2 rfl) ?_
    refine lv_ldc hx hb hown (hts (.constant RX6 134 (65039)) (by decide +kernel)) dX6_set_61 ?_
    refine lv_iand hx hb dX6_set_63 ?_
    refine lv_topi (fun y_4 ey_4 => ?_)
    refine va_put (D := (dC, dI)) (ci := 4) (v := .int y_4) (ty := .int) (C := RX4) (T := TX4) (N := 12) hx hb hts in_X6_set_X4 tyX4 tyX4_ok nmX4 hown hK hP hD hS 1 rfl rfl 5 (by decide) (hts (.fieldLink RX6 115 "WorkspaceBox$Processor" "st" "I") (by decide +kernel)) (fun _ h9 => h9) rfl (by decide +kernel) rfl rfl (Nat.le_of_ble_eq_true rfl) dX6_set_64 (fun H locs hP hD hS => ?_)
    have hP : va_P (dC, dI) vwCl [(x, .inr (6, [.ref tb, .ref pi, .ref gr, .ref wi, .ref me, .ref pu, .int 0])), (pu, .inr (4, [.ref me, .ref pi, .ref wi, .int 0, .int 0, .int y_4, .int 2, .int 0, .int 0, .int 0, .int 0, .int 0]))] H := hP
    have hD : va_D A [(x, .inr (6, [.ref tb, .ref pi, .ref gr, .ref wi, .ref me, .ref pu, .int 0])), (pu, .inr (4, [.ref me, .ref pi, .ref wi, .int 0, .int 0, .int y_4, .int 2, .int 0, .int 0, .int 0, .int 0, .int 0]))] := hD
    refine lv_goto (tgt := 72) hx hb dX6_set_67 (by decide) ?_
    refine lv_aload_n hx hb dX6_set_72 rfl (lv_at hl 0 rfl) ?_
    refine va_get (D := (dC, dI)) (ci := 6) (v := .ref pu) (C := RX6) (T := TX6) (N := 7) hx hb hts in_X6_set_X6 hown hK hP 0 rfl rfl 5 (by decide) (hts (.fieldLink RX6 55 "WorkspaceBox" "processor" "LWorkspaceBox$Processor;") (by decide +kernel)) (fun _ h9 => h9) rfl dX6_set_73 ?_
    refine lv_iconst (v := 0) hx hb dX6_set_76 (by decide) ?_
    refine va_put (D := (dC, dI)) (ci := 4) (v := .int 0) (ty := .int) (C := RX4) (T := TX4) (N := 12) hx hb hts in_X6_set_X4 tyX4 tyX4_ok nmX4 hown hK hP hD hS 1 rfl rfl 6 (by decide) (hts (.fieldLink RX6 118 "WorkspaceBox$Processor" "mode" "I") (by decide +kernel)) (fun _ h9 => h9) rfl (by decide +kernel) rfl rfl (Nat.le_of_ble_eq_true rfl) dX6_set_77 (fun H locs hP hD hS => ?_)
    have hP : va_P (dC, dI) vwCl [(x, .inr (6, [.ref tb, .ref pi, .ref gr, .ref wi, .ref me, .ref pu, .int 0])), (pu, .inr (4, [.ref me, .ref pi, .ref wi, .int 0, .int 0, .int y_4, .int 0, .int 0, .int 0, .int 0, .int 0, .int 0]))] H := hP
    have hD : va_D A [(x, .inr (6, [.ref tb, .ref pi, .ref gr, .ref wi, .ref me, .ref pu, .int 0])), (pu, .inr (4, [.ref me, .ref pi, .ref wi, .int 0, .int 0, .int y_4, .int 0, .int 0, .int 0, .int 0, .int 0, .int 0]))] := hD
    refine lv_iconst (v := 1) hx hb dX6_set_80 (by decide) ?_
    have hP9 := hP.sub (ws' := []) [] rfl
    have hD9 := hD.sub (ws' := []) [] (by decide) rfl
    have hK9 := hK.sub (tys' := []) [] rfl
    exact W.zret (v := 1) hx hb hr rfl (fun t ht hW => ⟨⟨1, (), rfl, by (first | decide | ((try subst_vars); (try dsimp only); (have k0 := tI_0); (have k1 := tI_1); (have k2 := tI_2); (have k3 := tI_3); unfold sp_set; (repeat' split) <;> first | rfl | omega | (simp only [fa_lt, fa_le, fa_eq, tI_m1, tI_0, tI_1, tI_2, tI_3, tI_4, tI_5, tI_7, tI_8, tI_10, tI_15, tI_16, tI_20, tI_31, tI_125, tI_191, tI_255, tI_256, tI_980, tI_1000, tI_4095, tI_4096, tI_8191, tI_8192, tI_16383, tI_16384, tI_32767, tI_32768, tI_33791, tI_33792, tI_40959, tI_40960, tI_65535, tI_65536]; omega))), by rw [ht]; exact hP9, va_K.moved hW.alike hK9, hD9⟩, hS.F ht⟩) hS.2.2 dX6_set_81

theorem in_X6_picture_X6 : ∀ w ∈ wsX60, w ∈ wsX6_picture := by decide +kernel
theorem in_X6_picture_X3 : ∀ w ∈ wsX30, w ∈ wsX6_picture := by decide +kernel
set_option maxHeartbeats 1000000 in
set_option maxRecDepth 100000 in
theorem k_picture (l : Launch) (dC : Nat → ClassId) (dI : Nat → Nat → Nat) (x tb ta pi pb pa pr gr gb ga wi wa me rb ra mb ma qb qa pu : Nat) (ct cp cr cg cw c1 c2 c3 : ClassId) (p0 : Int32) (sz : Nat)  : Met l yX6_picture wsX6_picture ({ frames := 0, cells := 0, slots := 0, locals := 0 }) (va_Pc [.ref x, .int p0] (fun U => U.heap.size = sz ∧ va_P (dC, dI) vwCl [(x, .inr (6, [.ref tb, .ref pi, .ref gr, .ref wi, .ref me, .ref pu, .int 0])), (pi, .inr (3, [.ref pb, .ref pr, .int 0, .int 0, .int (-1), .int 0])), (pr, .inl (cr, 8, .inl (fun _ => 0)))] U.heap ∧ va_K (dC, dI) vwCl [(cr, .int)] U ∧ va_D (fun _ => True) [(x, .inr (6, [.ref tb, .ref pi, .ref gr, .ref wi, .ref me, .ref pu, .int 0])), (pi, .inr (3, [.ref pb, .ref pr, .int 0, .int 0, .int (-1), .int 0])), (pr, .inl (cr, 8, .inl (fun _ => 0)))])) (va_Qi (fun (r : Int32) (_ : Unit) => r = sp_picture p0) (fun (u : Unit) (t : State) => va_P (dC, dI) vwCl [] t.heap ∧ va_K (dC, dI) vwCl [] t ∧ va_D (va_A [(x, .inr (6, [.ref tb, .ref pi, .ref gr, .ref wi, .ref me, .ref pu, .int 0])), (pi, .inr (3, [.ref pb, .ref pr, .int 0, .int 0, .int (-1), .int 0])), (pr, .inl (cr, 8, .inl (fun _ => 0)))] sz) []) (va_A [(x, .inr (6, [.ref tb, .ref pi, .ref gr, .ref wi, .ref me, .ref pu, .int 0])), (pi, .inr (3, [.ref pb, .ref pr, .int 0, .int 0, .int (-1), .int 0])), (pr, .inl (cr, 8, .inl (fun _ => 0)))] sz)) 0 0 (va_A [(x, .inr (6, [.ref tb, .ref pi, .ref gr, .ref wi, .ref me, .ref pu, .int 0])), (pi, .inr (3, [.ref pb, .ref pr, .int 0, .int 0, .int (-1), .int 0])), (pr, .inl (cr, 8, .inl (fun _ => 0)))] sz) := by
  refine Met.ofW (cc := cX6_picture) (maxL := 2) (ret := (some .int)) (by decide) rfl ?_
  intro p e s m args below meth c s₁ B hml hv
  obtain ⟨rfl, hsz, hP, hK, hD0⟩ := hv
  have hx := B.exec
  have hb := B.bytes
  have hr := B.returns
  have hts := atoms_spec (ws := wsX6_picture) B.pre
  have hown : s.vm.findClass RX6 = some m.cls := findClass_of_methodNamed B.named
  have hlocks := B.notSynchronized
  subst hsz
  have hD := hD0.self (sz := s.heap.size)
  generalize hAe : va_A [(x, .inr (6, [.ref tb, .ref pi, .ref gr, .ref wi, .ref me, .ref pu, .int 0])), (pi, .inr (3, [.ref pb, .ref pr, .int 0, .int 0, .int (-1), .int 0])), (pr, .inl (cr, 8, .inl (fun _ => 0)))] s.heap.size = A at hD ⊢
  have hA : ∀ q : Nat, s.heap.size ≤ q → A q := fun q h => by rw [← hAe]; exact Or.inr h
  have hS : va_S A s.heap s.heap [] := va_S.rf
  have hP : va_P (dC, dI) vwCl [(x, .inr (6, [.ref tb, .ref pi, .ref gr, .ref wi, .ref me, .ref pu, .int 0])), (pi, .inr (3, [.ref pb, .ref pr, .int 0, .int 0, .int (-1), .int 0])), (pr, .inl (cr, 8, .inl (fun _ => 0)))] s.heap := hP
  have hl := lv_entry ([.ref x, .int p0]) (n := 2) (Nat.le_of_ble_eq_true rfl)
  rw [lg_entry_eq]
  generalize (lg_sl ([.ref x, .int p0]) ++ List.replicate (2 - (lg_sl ([.ref x, .int p0])).length) Slot.unset).toArray = ls at hl ⊢
  have hl : lv_has ls 2 [(0, .ref x), (1, .int p0)] := hl
  refine lv_iload_n hx hb dX6_picture_0 rfl (lv_at hl 1 rfl) ?_
  rcases sw_0_3 p0 with c1_1 | rfl | rfl | rfl | rfl
  · refine lv_tableOut (tgt := 81) hx hb dX6_picture_1 c1_1 (by decide) ?_
    refine lv_iload_n hx hb dX6_picture_81 rfl (lv_at hl 1 rfl) ?_
    refine lv_bipush (v := 8) hx hb dX6_picture_82 (by decide) ?_
    refine lv_icmp_lt (tgt := 93) hx hb dX6_picture_84 (by decide) (fun c84_2 => ?_) (fun c84_2 => ?_)
    · refine lv_iconst (v := (-1)) hx hb dX6_picture_93 (by decide) ?_
      have hP9 := hP.sub (ws' := []) [] rfl
      have hD9 := hD.sub (ws' := []) [] (by decide) rfl
      have hK9 := hK.sub (tys' := []) [] rfl
      exact W.iret (v := (-1)) hx hb hr (fun t ht hW => ⟨⟨(-1), (), rfl, by (first | decide | ((try subst_vars); (try dsimp only); (try simp only [fa_lt, fa_le, fa_eq, tI_m1, tI_0, tI_1, tI_2, tI_3, tI_4, tI_5, tI_7, tI_8, tI_10, tI_15, tI_16, tI_20, tI_31, tI_125, tI_191, tI_255, tI_256, tI_980, tI_1000, tI_4095, tI_4096, tI_8191, tI_8192, tI_16383, tI_16384, tI_32767, tI_32768, tI_33791, tI_33792, tI_40959, tI_40960, tI_65535, tI_65536] at c1_1); (try simp only [fa_lt, fa_le, fa_eq, tI_m1, tI_0, tI_1, tI_2, tI_3, tI_4, tI_5, tI_7, tI_8, tI_10, tI_15, tI_16, tI_20, tI_31, tI_125, tI_191, tI_255, tI_256, tI_980, tI_1000, tI_4095, tI_4096, tI_8191, tI_8192, tI_16383, tI_16384, tI_32767, tI_32768, tI_33791, tI_33792, tI_40959, tI_40960, tI_65535, tI_65536] at c84_2); (have k0 := tI_0); (have k1 := tI_1); (have k2 := tI_2); (have k3 := tI_3); unfold sp_picture; (repeat' split) <;> first | rfl | omega | (simp only [fa_lt, fa_le, fa_eq, tI_m1, tI_0, tI_1, tI_2, tI_3, tI_4, tI_5, tI_7, tI_8, tI_10, tI_15, tI_16, tI_20, tI_31, tI_125, tI_191, tI_255, tI_256, tI_980, tI_1000, tI_4095, tI_4096, tI_8191, tI_8192, tI_16383, tI_16384, tI_32767, tI_32768, tI_33791, tI_33792, tI_40959, tI_40960, tI_65535, tI_65536]; omega))), by rw [ht]; exact hP9, va_K.moved hW.alike hK9, hD9⟩, hS.F ht⟩) hS.2.2 dX6_picture_94
    · refine lv_iload_n hx hb dX6_picture_87 rfl (lv_at hl 1 rfl) ?_
      refine lv_bipush (v := 15) hx hb dX6_picture_88 (by decide) ?_
      refine lv_icmp_le (tgt := 95) hx hb dX6_picture_90 (by decide) (fun c90_3 => ?_) (fun c90_3 => ?_)
      · refine lv_aload_n hx hb dX6_picture_95 rfl (lv_at hl 0 rfl) ?_
        refine va_get (D := (dC, dI)) (ci := 6) (v := .ref pi) (C := RX6) (T := TX6) (N := 7) hx hb hts in_X6_picture_X6 hown hK hP 0 rfl rfl 1 (by decide) (hts (.fieldLink RX6 21 "WorkspaceBox" "picture" "LWorkspaceBox$Picture;") (by decide +kernel)) (fun _ h9 => h9) rfl dX6_picture_96 ?_
        refine va_get (D := (dC, dI)) (ci := 3) (v := .ref pr) (C := RX3) (T := TX3) (N := 6) hx hb hts in_X6_picture_X3 hown hK hP 1 rfl rfl 1 (by decide) (hts (.fieldLink RX6 148 "WorkspaceBox$Picture" "registers" "[I") (by decide +kernel)) (fun _ h9 => h9) rfl dX6_picture_99 ?_
        refine lv_iload_n hx hb dX6_picture_102 rfl (lv_at hl 1 rfl) ?_
        refine lv_bipush (v := 8) hx hb dX6_picture_103 (by decide) ?_
        refine lv_isub hx hb dX6_picture_105 ?_
        refine lv_topi (fun y_4 ey_4 => ?_)
        refine va_iald hx hb hK hP 2 0 rfl rfl (by subst_vars; exact in_pic (by assumption) (by assumption)) dX6_picture_106 ?_
        refine lv_topi (fun y_5 ey_5 => ?_)
        obtain rfl : y_5 = 0 := ey_5
        have hP9 := hP.sub (ws' := []) [] rfl
        have hD9 := hD.sub (ws' := []) [] (by decide) rfl
        have hK9 := hK.sub (tys' := []) [] rfl
        exact W.iret (v := 0) hx hb hr (fun t ht hW => ⟨⟨0, (), rfl, by (first | decide | ((try subst_vars); (try dsimp only); (try simp only [fa_lt, fa_le, fa_eq, tI_m1, tI_0, tI_1, tI_2, tI_3, tI_4, tI_5, tI_7, tI_8, tI_10, tI_15, tI_16, tI_20, tI_31, tI_125, tI_191, tI_255, tI_256, tI_980, tI_1000, tI_4095, tI_4096, tI_8191, tI_8192, tI_16383, tI_16384, tI_32767, tI_32768, tI_33791, tI_33792, tI_40959, tI_40960, tI_65535, tI_65536] at c1_1); (try simp only [fa_lt, fa_le, fa_eq, tI_m1, tI_0, tI_1, tI_2, tI_3, tI_4, tI_5, tI_7, tI_8, tI_10, tI_15, tI_16, tI_20, tI_31, tI_125, tI_191, tI_255, tI_256, tI_980, tI_1000, tI_4095, tI_4096, tI_8191, tI_8192, tI_16383, tI_16384, tI_32767, tI_32768, tI_33791, tI_33792, tI_40959, tI_40960, tI_65535, tI_65536] at c84_2); (try simp only [fa_lt, fa_le, fa_eq, tI_m1, tI_0, tI_1, tI_2, tI_3, tI_4, tI_5, tI_7, tI_8, tI_10, tI_15, tI_16, tI_20, tI_31, tI_125, tI_191, tI_255, tI_256, tI_980, tI_1000, tI_4095, tI_4096, tI_8191, tI_8192, tI_16383, tI_16384, tI_32767, tI_32768, tI_33791, tI_33792, tI_40959, tI_40960, tI_65535, tI_65536] at c90_3); (have k0 := tI_0); (have k1 := tI_1); (have k2 := tI_2); (have k3 := tI_3); unfold sp_picture; (repeat' split) <;> first | rfl | omega | (simp only [fa_lt, fa_le, fa_eq, tI_m1, tI_0, tI_1, tI_2, tI_3, tI_4, tI_5, tI_7, tI_8, tI_10, tI_15, tI_16, tI_20, tI_31, tI_125, tI_191, tI_255, tI_256, tI_980, tI_1000, tI_4095, tI_4096, tI_8191, tI_8192, tI_16383, tI_16384, tI_32767, tI_32768, tI_33791, tI_33792, tI_40959, tI_40960, tI_65535, tI_65536]; omega))), by rw [ht]; exact hP9, va_K.moved hW.alike hK9, hD9⟩, hS.F ht⟩) hS.2.2 dX6_picture_107
      · refine lv_iconst (v := (-1)) hx hb dX6_picture_93 (by decide) ?_
        have hP9 := hP.sub (ws' := []) [] rfl
        have hD9 := hD.sub (ws' := []) [] (by decide) rfl
        have hK9 := hK.sub (tys' := []) [] rfl
        exact W.iret (v := (-1)) hx hb hr (fun t ht hW => ⟨⟨(-1), (), rfl, by (first | decide | ((try subst_vars); (try dsimp only); (try simp only [fa_lt, fa_le, fa_eq, tI_m1, tI_0, tI_1, tI_2, tI_3, tI_4, tI_5, tI_7, tI_8, tI_10, tI_15, tI_16, tI_20, tI_31, tI_125, tI_191, tI_255, tI_256, tI_980, tI_1000, tI_4095, tI_4096, tI_8191, tI_8192, tI_16383, tI_16384, tI_32767, tI_32768, tI_33791, tI_33792, tI_40959, tI_40960, tI_65535, tI_65536] at c1_1); (try simp only [fa_lt, fa_le, fa_eq, tI_m1, tI_0, tI_1, tI_2, tI_3, tI_4, tI_5, tI_7, tI_8, tI_10, tI_15, tI_16, tI_20, tI_31, tI_125, tI_191, tI_255, tI_256, tI_980, tI_1000, tI_4095, tI_4096, tI_8191, tI_8192, tI_16383, tI_16384, tI_32767, tI_32768, tI_33791, tI_33792, tI_40959, tI_40960, tI_65535, tI_65536] at c84_2); (try simp only [fa_lt, fa_le, fa_eq, tI_m1, tI_0, tI_1, tI_2, tI_3, tI_4, tI_5, tI_7, tI_8, tI_10, tI_15, tI_16, tI_20, tI_31, tI_125, tI_191, tI_255, tI_256, tI_980, tI_1000, tI_4095, tI_4096, tI_8191, tI_8192, tI_16383, tI_16384, tI_32767, tI_32768, tI_33791, tI_33792, tI_40959, tI_40960, tI_65535, tI_65536] at c90_3); (have k0 := tI_0); (have k1 := tI_1); (have k2 := tI_2); (have k3 := tI_3); unfold sp_picture; (repeat' split) <;> first | rfl | omega | (simp only [fa_lt, fa_le, fa_eq, tI_m1, tI_0, tI_1, tI_2, tI_3, tI_4, tI_5, tI_7, tI_8, tI_10, tI_15, tI_16, tI_20, tI_31, tI_125, tI_191, tI_255, tI_256, tI_980, tI_1000, tI_4095, tI_4096, tI_8191, tI_8192, tI_16383, tI_16384, tI_32767, tI_32768, tI_33791, tI_33792, tI_40959, tI_40960, tI_65535, tI_65536]; omega))), by rw [ht]; exact hP9, va_K.moved hW.alike hK9, hD9⟩, hS.F ht⟩) hS.2.2 dX6_picture_94
  · refine lv_tableIn (tgt := 32) hx hb dX6_picture_1 (by decide) (by decide) rfl (by decide) ?_
    refine lv_aload_n hx hb dX6_picture_32 rfl (lv_at hl 0 rfl) ?_
    refine va_get (D := (dC, dI)) (ci := 6) (v := .ref pi) (C := RX6) (T := TX6) (N := 7) hx hb hts in_X6_picture_X6 hown hK hP 0 rfl rfl 1 (by decide) (hts (.fieldLink RX6 21 "WorkspaceBox" "picture" "LWorkspaceBox$Picture;") (by decide +kernel)) (fun _ h9 => h9) rfl dX6_picture_33 ?_
    refine va_get (D := (dC, dI)) (ci := 3) (v := .int 0) (C := RX3) (T := TX3) (N := 6) hx hb hts in_X6_picture_X3 hown hK hP 1 rfl rfl 2 (by decide) (hts (.fieldLink RX6 135 "WorkspaceBox$Picture" "address" "I") (by decide +kernel)) (fun _ h9 => h9) rfl dX6_picture_36 ?_
    have hP9 := hP.sub (ws' := []) [] rfl
    have hD9 := hD.sub (ws' := []) [] (by decide) rfl
    have hK9 := hK.sub (tys' := []) [] rfl
    exact W.iret (v := 0) hx hb hr (fun t ht hW => ⟨⟨0, (), rfl, by (first | decide | ((try subst_vars); (try dsimp only); (have k0 := tI_0); (have k1 := tI_1); (have k2 := tI_2); (have k3 := tI_3); unfold sp_picture; (repeat' split) <;> first | rfl | omega | (simp only [fa_lt, fa_le, fa_eq, tI_m1, tI_0, tI_1, tI_2, tI_3, tI_4, tI_5, tI_7, tI_8, tI_10, tI_15, tI_16, tI_20, tI_31, tI_125, tI_191, tI_255, tI_256, tI_980, tI_1000, tI_4095, tI_4096, tI_8191, tI_8192, tI_16383, tI_16384, tI_32767, tI_32768, tI_33791, tI_33792, tI_40959, tI_40960, tI_65535, tI_65536]; omega))), by rw [ht]; exact hP9, va_K.moved hW.alike hK9, hD9⟩, hS.F ht⟩) hS.2.2 dX6_picture_39
  · refine lv_tableIn (tgt := 40) hx hb dX6_picture_1 (by decide) (by decide) rfl (by decide) ?_
    refine lv_aload_n hx hb dX6_picture_40 rfl (lv_at hl 0 rfl) ?_
    refine va_get (D := (dC, dI)) (ci := 6) (v := .ref pi) (C := RX6) (T := TX6) (N := 7) hx hb hts in_X6_picture_X6 hown hK hP 0 rfl rfl 1 (by decide) (hts (.fieldLink RX6 21 "WorkspaceBox" "picture" "LWorkspaceBox$Picture;") (by decide +kernel)) (fun _ h9 => h9) rfl dX6_picture_41 ?_
    refine va_get (D := (dC, dI)) (ci := 3) (v := .int 0) (C := RX3) (T := TX3) (N := 6) hx hb hts in_X6_picture_X3 hown hK hP 1 rfl rfl 3 (by decide) (hts (.fieldLink RX6 138 "WorkspaceBox$Picture" "buffer" "I") (by decide +kernel)) (fun _ h9 => h9) rfl dX6_picture_44 ?_
    have hP9 := hP.sub (ws' := []) [] rfl
    have hD9 := hD.sub (ws' := []) [] (by decide) rfl
    have hK9 := hK.sub (tys' := []) [] rfl
    exact W.iret (v := 0) hx hb hr (fun t ht hW => ⟨⟨0, (), rfl, by (first | decide | ((try subst_vars); (try dsimp only); (have k0 := tI_0); (have k1 := tI_1); (have k2 := tI_2); (have k3 := tI_3); unfold sp_picture; (repeat' split) <;> first | rfl | omega | (simp only [fa_lt, fa_le, fa_eq, tI_m1, tI_0, tI_1, tI_2, tI_3, tI_4, tI_5, tI_7, tI_8, tI_10, tI_15, tI_16, tI_20, tI_31, tI_125, tI_191, tI_255, tI_256, tI_980, tI_1000, tI_4095, tI_4096, tI_8191, tI_8192, tI_16383, tI_16384, tI_32767, tI_32768, tI_33791, tI_33792, tI_40959, tI_40960, tI_65535, tI_65536]; omega))), by rw [ht]; exact hP9, va_K.moved hW.alike hK9, hD9⟩, hS.F ht⟩) hS.2.2 dX6_picture_47
  · refine lv_tableIn (tgt := 48) hx hb dX6_picture_1 (by decide) (by decide) rfl (by decide) ?_
    refine lv_aload_n hx hb dX6_picture_48 rfl (lv_at hl 0 rfl) ?_
    refine va_get (D := (dC, dI)) (ci := 6) (v := .ref pi) (C := RX6) (T := TX6) (N := 7) hx hb hts in_X6_picture_X6 hown hK hP 0 rfl rfl 1 (by decide) (hts (.fieldLink RX6 21 "WorkspaceBox" "picture" "LWorkspaceBox$Picture;") (by decide +kernel)) (fun _ h9 => h9) rfl dX6_picture_49 ?_
    refine va_get (D := (dC, dI)) (ci := 3) (v := .int (-1)) (C := RX3) (T := TX3) (N := 6) hx hb hts in_X6_picture_X3 hown hK hP 1 rfl rfl 4 (by decide) (hts (.fieldLink RX6 141 "WorkspaceBox$Picture" "latch" "I") (by decide +kernel)) (fun _ h9 => h9) rfl dX6_picture_52 ?_
    refine lv_iconst (v := (-1)) hx hb dX6_picture_55 (by decide) ?_
    refine lv_icmp_ne (tgt := 63) hx hb dX6_picture_56 (by decide) (fun h => absurd h (by decide)) (fun _ => ?_)
    refine lv_iconst (v := 0) hx hb dX6_picture_59 (by decide) ?_
    refine lv_goto (tgt := 64) hx hb dX6_picture_60 (by decide) ?_
    have hP9 := hP.sub (ws' := []) [] rfl
    have hD9 := hD.sub (ws' := []) [] (by decide) rfl
    have hK9 := hK.sub (tys' := []) [] rfl
    exact W.iret (v := 0) hx hb hr (fun t ht hW => ⟨⟨0, (), rfl, by (first | decide | ((try subst_vars); (try dsimp only); (have k0 := tI_0); (have k1 := tI_1); (have k2 := tI_2); (have k3 := tI_3); unfold sp_picture; (repeat' split) <;> first | rfl | omega | (simp only [fa_lt, fa_le, fa_eq, tI_m1, tI_0, tI_1, tI_2, tI_3, tI_4, tI_5, tI_7, tI_8, tI_10, tI_15, tI_16, tI_20, tI_31, tI_125, tI_191, tI_255, tI_256, tI_980, tI_1000, tI_4095, tI_4096, tI_8191, tI_8192, tI_16383, tI_16384, tI_32767, tI_32768, tI_33791, tI_33792, tI_40959, tI_40960, tI_65535, tI_65536]; omega))), by rw [ht]; exact hP9, va_K.moved hW.alike hK9, hD9⟩, hS.F ht⟩) hS.2.2 dX6_picture_64
  · refine lv_tableIn (tgt := 65) hx hb dX6_picture_1 (by decide) (by decide) rfl (by decide) ?_
    refine lv_aload_n hx hb dX6_picture_65 rfl (lv_at hl 0 rfl) ?_
    refine va_get (D := (dC, dI)) (ci := 6) (v := .ref pi) (C := RX6) (T := TX6) (N := 7) hx hb hts in_X6_picture_X6 hown hK hP 0 rfl rfl 1 (by decide) (hts (.fieldLink RX6 21 "WorkspaceBox" "picture" "LWorkspaceBox$Picture;") (by decide +kernel)) (fun _ h9 => h9) rfl dX6_picture_66 ?_
    refine va_get (D := (dC, dI)) (ci := 3) (v := .int 0) (C := RX3) (T := TX3) (N := 6) hx hb hts in_X6_picture_X3 hown hK hP 1 rfl rfl 5 (by decide) (hts (.fieldLink RX6 144 "WorkspaceBox$Picture" "shown" "Z") (by decide +kernel)) (fun _ h9 => h9) rfl dX6_picture_69 ?_
    refine lv_if_eq (tgt := 79) hx hb dX6_picture_72 (by decide) (fun _ => ?_) (fun h => absurd (by decide) h)
    refine lv_iconst (v := 0) hx hb dX6_picture_79 (by decide) ?_
    have hP9 := hP.sub (ws' := []) [] rfl
    have hD9 := hD.sub (ws' := []) [] (by decide) rfl
    have hK9 := hK.sub (tys' := []) [] rfl
    exact W.iret (v := 0) hx hb hr (fun t ht hW => ⟨⟨0, (), rfl, by (first | decide | ((try subst_vars); (try dsimp only); (have k0 := tI_0); (have k1 := tI_1); (have k2 := tI_2); (have k3 := tI_3); unfold sp_picture; (repeat' split) <;> first | rfl | omega | (simp only [fa_lt, fa_le, fa_eq, tI_m1, tI_0, tI_1, tI_2, tI_3, tI_4, tI_5, tI_7, tI_8, tI_10, tI_15, tI_16, tI_20, tI_31, tI_125, tI_191, tI_255, tI_256, tI_980, tI_1000, tI_4095, tI_4096, tI_8191, tI_8192, tI_16383, tI_16384, tI_32767, tI_32768, tI_33791, tI_33792, tI_40959, tI_40960, tI_65535, tI_65536]; omega))), by rw [ht]; exact hP9, va_K.moved hW.alike hK9, hD9⟩, hS.F ht⟩) hS.2.2 dX6_picture_80

theorem in_X6_grom_X6 : ∀ w ∈ wsX60, w ∈ wsX6_grom := by decide +kernel
theorem in_X6_grom_X1 : ∀ w ∈ wsX10, w ∈ wsX6_grom := by decide +kernel
set_option maxHeartbeats 1000000 in
set_option maxRecDepth 100000 in
theorem k_grom (l : Launch) (dC : Nat → ClassId) (dI : Nat → Nat → Nat) (x tb ta pi pb pa pr gr gb ga wi wa me rb ra mb ma qb qa pu : Nat) (ct cp cr cg cw c1 c2 c3 : ClassId) (p0 : Int32) (sz : Nat)  : Met l yX6_grom wsX6_grom ({ frames := 0, cells := 0, slots := 0, locals := 0 }) (va_Pc [.ref x, .int p0] (fun U => U.heap.size = sz ∧ va_P (dC, dI) vwCl [(x, .inr (6, [.ref tb, .ref pi, .ref gr, .ref wi, .ref me, .ref pu, .int 0])), (gr, .inr (1, [.ref gb, .int 0, .int 0, .int 0]))] U.heap ∧ va_K (dC, dI) vwCl [] U ∧ va_D (fun _ => True) [(x, .inr (6, [.ref tb, .ref pi, .ref gr, .ref wi, .ref me, .ref pu, .int 0])), (gr, .inr (1, [.ref gb, .int 0, .int 0, .int 0]))])) (va_Qi (fun (r : Int32) (_ : Unit) => r = sp_grom p0) (fun (u : Unit) (t : State) => va_P (dC, dI) vwCl [] t.heap ∧ va_K (dC, dI) vwCl [] t ∧ va_D (va_A [(x, .inr (6, [.ref tb, .ref pi, .ref gr, .ref wi, .ref me, .ref pu, .int 0])), (gr, .inr (1, [.ref gb, .int 0, .int 0, .int 0]))] sz) []) (va_A [(x, .inr (6, [.ref tb, .ref pi, .ref gr, .ref wi, .ref me, .ref pu, .int 0])), (gr, .inr (1, [.ref gb, .int 0, .int 0, .int 0]))] sz)) 0 0 (va_A [(x, .inr (6, [.ref tb, .ref pi, .ref gr, .ref wi, .ref me, .ref pu, .int 0])), (gr, .inr (1, [.ref gb, .int 0, .int 0, .int 0]))] sz) := by
  refine Met.ofW (cc := cX6_grom) (maxL := 2) (ret := (some .int)) (by decide) rfl ?_
  intro p e s m args below meth c s₁ B hml hv
  obtain ⟨rfl, hsz, hP, hK, hD0⟩ := hv
  have hx := B.exec
  have hb := B.bytes
  have hr := B.returns
  have hts := atoms_spec (ws := wsX6_grom) B.pre
  have hown : s.vm.findClass RX6 = some m.cls := findClass_of_methodNamed B.named
  have hlocks := B.notSynchronized
  subst hsz
  have hD := hD0.self (sz := s.heap.size)
  generalize hAe : va_A [(x, .inr (6, [.ref tb, .ref pi, .ref gr, .ref wi, .ref me, .ref pu, .int 0])), (gr, .inr (1, [.ref gb, .int 0, .int 0, .int 0]))] s.heap.size = A at hD ⊢
  have hA : ∀ q : Nat, s.heap.size ≤ q → A q := fun q h => by rw [← hAe]; exact Or.inr h
  have hS : va_S A s.heap s.heap [] := va_S.rf
  have hP : va_P (dC, dI) vwCl [(x, .inr (6, [.ref tb, .ref pi, .ref gr, .ref wi, .ref me, .ref pu, .int 0])), (gr, .inr (1, [.ref gb, .int 0, .int 0, .int 0]))] s.heap := hP
  have hl := lv_entry ([.ref x, .int p0]) (n := 2) (Nat.le_of_ble_eq_true rfl)
  rw [lg_entry_eq]
  generalize (lg_sl ([.ref x, .int p0]) ++ List.replicate (2 - (lg_sl ([.ref x, .int p0])).length) Slot.unset).toArray = ls at hl ⊢
  have hl : lv_has ls 2 [(0, .ref x), (1, .int p0)] := hl
  refine lv_iload_n hx hb dX6_grom_0 rfl (lv_at hl 1 rfl) ?_
  rcases sw_0_2 p0 with c1_1 | rfl | rfl | rfl
  · refine lv_tableOut (tgt := 60) hx hb dX6_grom_1 c1_1 (by decide) ?_
    refine lv_iconst (v := (-1)) hx hb dX6_grom_60 (by decide) ?_
    have hP9 := hP.sub (ws' := []) [] rfl
    have hD9 := hD.sub (ws' := []) [] (by decide) rfl
    have hK9 := hK.sub (tys' := []) [] rfl
    exact W.iret (v := (-1)) hx hb hr (fun t ht hW => ⟨⟨(-1), (), rfl, by (first | decide | ((try subst_vars); (try dsimp only); (try simp only [fa_lt, fa_le, fa_eq, tI_m1, tI_0, tI_1, tI_2, tI_3, tI_4, tI_5, tI_7, tI_8, tI_10, tI_15, tI_16, tI_20, tI_31, tI_125, tI_191, tI_255, tI_256, tI_980, tI_1000, tI_4095, tI_4096, tI_8191, tI_8192, tI_16383, tI_16384, tI_32767, tI_32768, tI_33791, tI_33792, tI_40959, tI_40960, tI_65535, tI_65536] at c1_1); (have k0 := tI_0); (have k1 := tI_1); (have k2 := tI_2); (have k3 := tI_3); unfold sp_grom; (repeat' split) <;> first | rfl | omega | (simp only [fa_lt, fa_le, fa_eq, tI_m1, tI_0, tI_1, tI_2, tI_3, tI_4, tI_5, tI_7, tI_8, tI_10, tI_15, tI_16, tI_20, tI_31, tI_125, tI_191, tI_255, tI_256, tI_980, tI_1000, tI_4095, tI_4096, tI_8191, tI_8192, tI_16383, tI_16384, tI_32767, tI_32768, tI_33791, tI_33792, tI_40959, tI_40960, tI_65535, tI_65536]; omega))), by rw [ht]; exact hP9, va_K.moved hW.alike hK9, hD9⟩, hS.F ht⟩) hS.2.2 dX6_grom_61
  · refine lv_tableIn (tgt := 28) hx hb dX6_grom_1 (by decide) (by decide) rfl (by decide) ?_
    refine lv_aload_n hx hb dX6_grom_28 rfl (lv_at hl 0 rfl) ?_
    refine va_get (D := (dC, dI)) (ci := 6) (v := .ref gr) (C := RX6) (T := TX6) (N := 7) hx hb hts in_X6_grom_X6 hown hK hP 0 rfl rfl 2 (by decide) (hts (.fieldLink RX6 28 "WorkspaceBox" "grom" "LWorkspaceBox$Grom;") (by decide +kernel)) (fun _ h9 => h9) rfl dX6_grom_29 ?_
    refine va_get (D := (dC, dI)) (ci := 1) (v := .int 0) (C := RX1) (T := TX1) (N := 4) hx hb hts in_X6_grom_X1 hown hK hP 1 rfl rfl 1 (by decide) (hts (.fieldLink RX6 157 "WorkspaceBox$Grom" "address" "I") (by decide +kernel)) (fun _ h9 => h9) rfl dX6_grom_32 ?_
    have hP9 := hP.sub (ws' := []) [] rfl
    have hD9 := hD.sub (ws' := []) [] (by decide) rfl
    have hK9 := hK.sub (tys' := []) [] rfl
    exact W.iret (v := 0) hx hb hr (fun t ht hW => ⟨⟨0, (), rfl, by (first | decide | ((try subst_vars); (try dsimp only); (have k0 := tI_0); (have k1 := tI_1); (have k2 := tI_2); (have k3 := tI_3); unfold sp_grom; (repeat' split) <;> first | rfl | omega | (simp only [fa_lt, fa_le, fa_eq, tI_m1, tI_0, tI_1, tI_2, tI_3, tI_4, tI_5, tI_7, tI_8, tI_10, tI_15, tI_16, tI_20, tI_31, tI_125, tI_191, tI_255, tI_256, tI_980, tI_1000, tI_4095, tI_4096, tI_8191, tI_8192, tI_16383, tI_16384, tI_32767, tI_32768, tI_33791, tI_33792, tI_40959, tI_40960, tI_65535, tI_65536]; omega))), by rw [ht]; exact hP9, va_K.moved hW.alike hK9, hD9⟩, hS.F ht⟩) hS.2.2 dX6_grom_35
  · refine lv_tableIn (tgt := 36) hx hb dX6_grom_1 (by decide) (by decide) rfl (by decide) ?_
    refine lv_aload_n hx hb dX6_grom_36 rfl (lv_at hl 0 rfl) ?_
    refine va_get (D := (dC, dI)) (ci := 6) (v := .ref gr) (C := RX6) (T := TX6) (N := 7) hx hb hts in_X6_grom_X6 hown hK hP 0 rfl rfl 2 (by decide) (hts (.fieldLink RX6 28 "WorkspaceBox" "grom" "LWorkspaceBox$Grom;") (by decide +kernel)) (fun _ h9 => h9) rfl dX6_grom_37 ?_
    refine va_get (D := (dC, dI)) (ci := 1) (v := .int 0) (C := RX1) (T := TX1) (N := 4) hx hb hts in_X6_grom_X1 hown hK hP 1 rfl rfl 2 (by decide) (hts (.fieldLink RX6 158 "WorkspaceBox$Grom" "buffer" "I") (by decide +kernel)) (fun _ h9 => h9) rfl dX6_grom_40 ?_
    have hP9 := hP.sub (ws' := []) [] rfl
    have hD9 := hD.sub (ws' := []) [] (by decide) rfl
    have hK9 := hK.sub (tys' := []) [] rfl
    exact W.iret (v := 0) hx hb hr (fun t ht hW => ⟨⟨0, (), rfl, by (first | decide | ((try subst_vars); (try dsimp only); (have k0 := tI_0); (have k1 := tI_1); (have k2 := tI_2); (have k3 := tI_3); unfold sp_grom; (repeat' split) <;> first | rfl | omega | (simp only [fa_lt, fa_le, fa_eq, tI_m1, tI_0, tI_1, tI_2, tI_3, tI_4, tI_5, tI_7, tI_8, tI_10, tI_15, tI_16, tI_20, tI_31, tI_125, tI_191, tI_255, tI_256, tI_980, tI_1000, tI_4095, tI_4096, tI_8191, tI_8192, tI_16383, tI_16384, tI_32767, tI_32768, tI_33791, tI_33792, tI_40959, tI_40960, tI_65535, tI_65536]; omega))), by rw [ht]; exact hP9, va_K.moved hW.alike hK9, hD9⟩, hS.F ht⟩) hS.2.2 dX6_grom_43
  · refine lv_tableIn (tgt := 44) hx hb dX6_grom_1 (by decide) (by decide) rfl (by decide) ?_
    refine lv_aload_n hx hb dX6_grom_44 rfl (lv_at hl 0 rfl) ?_
    refine va_get (D := (dC, dI)) (ci := 6) (v := .ref gr) (C := RX6) (T := TX6) (N := 7) hx hb hts in_X6_grom_X6 hown hK hP 0 rfl rfl 2 (by decide) (hts (.fieldLink RX6 28 "WorkspaceBox" "grom" "LWorkspaceBox$Grom;") (by decide +kernel)) (fun _ h9 => h9) rfl dX6_grom_45 ?_
    refine va_get (D := (dC, dI)) (ci := 1) (v := .int 0) (C := RX1) (T := TX1) (N := 4) hx hb hts in_X6_grom_X1 hown hK hP 1 rfl rfl 3 (by decide) (hts (.fieldLink RX6 159 "WorkspaceBox$Grom" "latchFull" "Z") (by decide +kernel)) (fun _ h9 => h9) rfl dX6_grom_48 ?_
    refine lv_if_eq (tgt := 58) hx hb dX6_grom_51 (by decide) (fun _ => ?_) (fun h => absurd (by decide) h)
    refine lv_iconst (v := 0) hx hb dX6_grom_58 (by decide) ?_
    have hP9 := hP.sub (ws' := []) [] rfl
    have hD9 := hD.sub (ws' := []) [] (by decide) rfl
    have hK9 := hK.sub (tys' := []) [] rfl
    exact W.iret (v := 0) hx hb hr (fun t ht hW => ⟨⟨0, (), rfl, by (first | decide | ((try subst_vars); (try dsimp only); (have k0 := tI_0); (have k1 := tI_1); (have k2 := tI_2); (have k3 := tI_3); unfold sp_grom; (repeat' split) <;> first | rfl | omega | (simp only [fa_lt, fa_le, fa_eq, tI_m1, tI_0, tI_1, tI_2, tI_3, tI_4, tI_5, tI_7, tI_8, tI_10, tI_15, tI_16, tI_20, tI_31, tI_125, tI_191, tI_255, tI_256, tI_980, tI_1000, tI_4095, tI_4096, tI_8191, tI_8192, tI_16383, tI_16384, tI_32767, tI_32768, tI_33791, tI_33792, tI_40959, tI_40960, tI_65535, tI_65536]; omega))), by rw [ht]; exact hP9, va_K.moved hW.alike hK9, hD9⟩, hS.F ht⟩) hS.2.2 dX6_grom_59

theorem in_X6_frame_X6 : ∀ w ∈ wsX60, w ∈ wsX6_frame := by decide +kernel
theorem in_X6_frame_X3 : ∀ w ∈ wsX30, w ∈ wsX6_frame := by decide +kernel
set_option maxHeartbeats 1000000 in
set_option maxRecDepth 100000 in
theorem k_frame (l : Launch) (dC : Nat → ClassId) (dI : Nat → Nat → Nat) (x tb ta pi pb pa pr gr gb ga wi wa me rb ra mb ma qb qa pu : Nat) (ct cp cr cg cw c1 c2 c3 : ClassId) (sz : Nat)  : Met l yX6_frame wsX6_frame ({ frames := 0, cells := 0, slots := 0, locals := 0 }) (va_Pc [.ref x] (fun U => U.heap.size = sz ∧ va_P (dC, dI) vwCl [(x, .inr (6, [.ref tb, .ref pi, .ref gr, .ref wi, .ref me, .ref pu, .int 0])), (pi, .inr (3, [.ref pb, .ref pr, .int 0, .int 0, .int (-1), .int 0]))] U.heap ∧ va_K (dC, dI) vwCl [] U ∧ va_D (fun _ => True) [(x, .inr (6, [.ref tb, .ref pi, .ref gr, .ref wi, .ref me, .ref pu, .int 0])), (pi, .inr (3, [.ref pb, .ref pr, .int 0, .int 0, .int (-1), .int 0]))])) (va_Qv (fun (_ : Unit) => True) (fun (u : Unit) (t : State) => va_P (dC, dI) vwCl [] t.heap ∧ va_K (dC, dI) vwCl [] t ∧ va_D (va_A [(x, .inr (6, [.ref tb, .ref pi, .ref gr, .ref wi, .ref me, .ref pu, .int 0])), (pi, .inr (3, [.ref pb, .ref pr, .int 0, .int 0, .int (-1), .int 0]))] sz) []) (va_A [(x, .inr (6, [.ref tb, .ref pi, .ref gr, .ref wi, .ref me, .ref pu, .int 0])), (pi, .inr (3, [.ref pb, .ref pr, .int 0, .int 0, .int (-1), .int 0]))] sz)) 0 0 (va_A [(x, .inr (6, [.ref tb, .ref pi, .ref gr, .ref wi, .ref me, .ref pu, .int 0])), (pi, .inr (3, [.ref pb, .ref pr, .int 0, .int 0, .int (-1), .int 0]))] sz) := by
  refine Met.ofW (cc := cX6_frame) (maxL := 1) (ret := none) (by decide) rfl ?_
  intro p e s m args below meth c s₁ B hml hv
  obtain ⟨rfl, hsz, hP, hK, hD0⟩ := hv
  have hx := B.exec
  have hb := B.bytes
  have hr := B.returns
  have hts := atoms_spec (ws := wsX6_frame) B.pre
  have hown : s.vm.findClass RX6 = some m.cls := findClass_of_methodNamed B.named
  have hlocks := B.notSynchronized
  subst hsz
  have hD := hD0.self (sz := s.heap.size)
  generalize hAe : va_A [(x, .inr (6, [.ref tb, .ref pi, .ref gr, .ref wi, .ref me, .ref pu, .int 0])), (pi, .inr (3, [.ref pb, .ref pr, .int 0, .int 0, .int (-1), .int 0]))] s.heap.size = A at hD ⊢
  have hA : ∀ q : Nat, s.heap.size ≤ q → A q := fun q h => by rw [← hAe]; exact Or.inr h
  have hS : va_S A s.heap s.heap [] := va_S.rf
  have hP : va_P (dC, dI) vwCl [(x, .inr (6, [.ref tb, .ref pi, .ref gr, .ref wi, .ref me, .ref pu, .int 0])), (pi, .inr (3, [.ref pb, .ref pr, .int 0, .int 0, .int (-1), .int 0]))] s.heap := hP
  have hl := lv_entry ([.ref x]) (n := 1) (Nat.le_of_ble_eq_true rfl)
  rw [lg_entry_eq]
  generalize (lg_sl ([.ref x]) ++ List.replicate (1 - (lg_sl ([.ref x])).length) Slot.unset).toArray = ls at hl ⊢
  have hl : lv_has ls 1 [(0, .ref x)] := hl
  refine lv_aload_n hx hb dX6_frame_0 rfl (lv_at hl 0 rfl) ?_
  refine va_get (D := (dC, dI)) (ci := 6) (v := .ref pi) (C := RX6) (T := TX6) (N := 7) hx hb hts in_X6_frame_X6 hown hK hP 0 rfl rfl 1 (by decide) (hts (.fieldLink RX6 21 "WorkspaceBox" "picture" "LWorkspaceBox$Picture;") (by decide +kernel)) (fun _ h9 => h9) rfl dX6_frame_1 ?_
  refine lv_iconst (v := 1) hx hb dX6_frame_4 (by decide) ?_
  refine va_put (D := (dC, dI)) (ci := 3) (v := .int 1) (ty := .boolean) (C := RX3) (T := TX3) (N := 6) hx hb hts in_X6_frame_X3 tyX3 tyX3_ok nmX3 hown hK hP hD hS 1 rfl rfl 5 (by decide) (hts (.fieldLink RX6 144 "WorkspaceBox$Picture" "shown" "Z") (by decide +kernel)) (fun _ h9 => h9) rfl (by decide +kernel) rfl rfl (Nat.le_of_ble_eq_true rfl) dX6_frame_5 (fun H locs hP hD hS => ?_)
  have hP : va_P (dC, dI) vwCl [(x, .inr (6, [.ref tb, .ref pi, .ref gr, .ref wi, .ref me, .ref pu, .int 0])), (pi, .inr (3, [.ref pb, .ref pr, .int 0, .int 0, .int (-1), .int 1]))] H := hP
  have hD : va_D A [(x, .inr (6, [.ref tb, .ref pi, .ref gr, .ref wi, .ref me, .ref pu, .int 0])), (pi, .inr (3, [.ref pb, .ref pr, .int 0, .int 0, .int (-1), .int 1]))] := hD
  have hP9 := hP.sub (ws' := []) [] rfl
  have hD9 := hD.sub (ws' := []) [] (by decide) rfl
  have hK9 := hK.sub (tys' := []) [] rfl
  exact W.vret hx hb hr (fun t ht hW => ⟨⟨(), rfl, trivial, by rw [ht]; exact hP9, va_K.moved hW.alike hK9, hD9⟩, hS.F ht⟩) hS.2.2 dX6_frame_8

theorem in_X6_interrupt_X6 : ∀ w ∈ wsX60, w ∈ wsX6_interrupt := by decide +kernel
theorem in_X6_interrupt_X4 : ∀ w ∈ wsX40, w ∈ wsX6_interrupt := by decide +kernel
set_option maxHeartbeats 1000000 in
set_option maxRecDepth 100000 in
theorem k_interrupt (l : Launch) (dC : Nat → ClassId) (dI : Nat → Nat → Nat) (x tb ta pi pb pa pr gr gb ga wi wa me rb ra mb ma qb qa pu : Nat) (ct cp cr cg cw c1 c2 c3 : ClassId) (p0 : Int32) (sz : Nat)  : Met l yX6_interrupt wsX6_interrupt ({ frames := 0, cells := 0, slots := 0, locals := 0 }) (va_Pc [.ref x, .int p0] (fun U => U.heap.size = sz ∧ va_P (dC, dI) vwCl [(x, .inr (6, [.ref tb, .ref pi, .ref gr, .ref wi, .ref me, .ref pu, .int 0])), (pu, .inr (4, [.ref me, .ref pi, .ref wi, .int 0, .int 0, .int 0, .int 2, .int 0, .int 0, .int 0, .int 0, .int 0]))] U.heap ∧ va_K (dC, dI) vwCl [] U ∧ va_D (fun _ => True) [(x, .inr (6, [.ref tb, .ref pi, .ref gr, .ref wi, .ref me, .ref pu, .int 0])), (pu, .inr (4, [.ref me, .ref pi, .ref wi, .int 0, .int 0, .int 0, .int 2, .int 0, .int 0, .int 0, .int 0, .int 0]))])) (va_Qi (fun (r : Int32) (_ : Unit) => r = sp_interrupt p0) (fun (u : Unit) (t : State) => va_P (dC, dI) vwCl [] t.heap ∧ va_K (dC, dI) vwCl [] t ∧ va_D (va_A [(x, .inr (6, [.ref tb, .ref pi, .ref gr, .ref wi, .ref me, .ref pu, .int 0])), (pu, .inr (4, [.ref me, .ref pi, .ref wi, .int 0, .int 0, .int 0, .int 2, .int 0, .int 0, .int 0, .int 0, .int 0]))] sz) []) (va_A [(x, .inr (6, [.ref tb, .ref pi, .ref gr, .ref wi, .ref me, .ref pu, .int 0])), (pu, .inr (4, [.ref me, .ref pi, .ref wi, .int 0, .int 0, .int 0, .int 2, .int 0, .int 0, .int 0, .int 0, .int 0]))] sz)) 0 0 (va_A [(x, .inr (6, [.ref tb, .ref pi, .ref gr, .ref wi, .ref me, .ref pu, .int 0])), (pu, .inr (4, [.ref me, .ref pi, .ref wi, .int 0, .int 0, .int 0, .int 2, .int 0, .int 0, .int 0, .int 0, .int 0]))] sz) := by
  refine Met.ofW (cc := cX6_interrupt) (maxL := 2) (ret := (some .boolean)) (by decide) rfl ?_
  intro p e s m args below meth c s₁ B hml hv
  obtain ⟨rfl, hsz, hP, hK, hD0⟩ := hv
  have hx := B.exec
  have hb := B.bytes
  have hr := B.returns
  have hts := atoms_spec (ws := wsX6_interrupt) B.pre
  have hown : s.vm.findClass RX6 = some m.cls := findClass_of_methodNamed B.named
  have hlocks := B.notSynchronized
  subst hsz
  have hD := hD0.self (sz := s.heap.size)
  generalize hAe : va_A [(x, .inr (6, [.ref tb, .ref pi, .ref gr, .ref wi, .ref me, .ref pu, .int 0])), (pu, .inr (4, [.ref me, .ref pi, .ref wi, .int 0, .int 0, .int 0, .int 2, .int 0, .int 0, .int 0, .int 0, .int 0]))] s.heap.size = A at hD ⊢
  have hA : ∀ q : Nat, s.heap.size ≤ q → A q := fun q h => by rw [← hAe]; exact Or.inr h
  have hS : va_S A s.heap s.heap [] := va_S.rf
  have hP : va_P (dC, dI) vwCl [(x, .inr (6, [.ref tb, .ref pi, .ref gr, .ref wi, .ref me, .ref pu, .int 0])), (pu, .inr (4, [.ref me, .ref pi, .ref wi, .int 0, .int 0, .int 0, .int 2, .int 0, .int 0, .int 0, .int 0, .int 0]))] s.heap := hP
  have hl := lv_entry ([.ref x, .int p0]) (n := 2) (Nat.le_of_ble_eq_true rfl)
  rw [lg_entry_eq]
  generalize (lg_sl ([.ref x, .int p0]) ++ List.replicate (2 - (lg_sl ([.ref x, .int p0])).length) Slot.unset).toArray = ls at hl ⊢
  have hl : lv_has ls 2 [(0, .ref x), (1, .int p0)] := hl
  refine lv_iload_n hx hb dX6_interrupt_0 rfl (lv_at hl 1 rfl) ?_
  refine lv_iconst (v := 2) hx hb dX6_interrupt_1 (by decide) ?_
  refine lv_icmp_lt (tgt := 11) hx hb dX6_interrupt_2 (by decide) (fun c2_1 => ?_) (fun c2_1 => ?_)
  · refine lv_iconst (v := 0) hx hb dX6_interrupt_11 (by decide) ?_
    have hP9 := hP.sub (ws' := []) [] rfl
    have hD9 := hD.sub (ws' := []) [] (by decide) rfl
    have hK9 := hK.sub (tys' := []) [] rfl
    exact W.zret (v := 0) hx hb hr rfl (fun t ht hW => ⟨⟨0, (), rfl, by (first | decide | ((try subst_vars); (try dsimp only); (try simp only [fa_lt, fa_le, fa_eq, tI_m1, tI_0, tI_1, tI_2, tI_3, tI_4, tI_5, tI_7, tI_8, tI_10, tI_15, tI_16, tI_20, tI_31, tI_125, tI_191, tI_255, tI_256, tI_980, tI_1000, tI_4095, tI_4096, tI_8191, tI_8192, tI_16383, tI_16384, tI_32767, tI_32768, tI_33791, tI_33792, tI_40959, tI_40960, tI_65535, tI_65536] at c2_1); (have k0 := tI_0); (have k1 := tI_1); (have k2 := tI_2); (have k3 := tI_3); unfold sp_interrupt; (repeat' split) <;> first | rfl | omega | (simp only [fa_lt, fa_le, fa_eq, tI_m1, tI_0, tI_1, tI_2, tI_3, tI_4, tI_5, tI_7, tI_8, tI_10, tI_15, tI_16, tI_20, tI_31, tI_125, tI_191, tI_255, tI_256, tI_980, tI_1000, tI_4095, tI_4096, tI_8191, tI_8192, tI_16383, tI_16384, tI_32767, tI_32768, tI_33791, tI_33792, tI_40959, tI_40960, tI_65535, tI_65536]; omega))), by rw [ht]; exact hP9, va_K.moved hW.alike hK9, hD9⟩, hS.F ht⟩) hS.2.2 dX6_interrupt_12
  · refine lv_iload_n hx hb dX6_interrupt_5 rfl (lv_at hl 1 rfl) ?_
    refine lv_bipush (v := 15) hx hb dX6_interrupt_6 (by decide) ?_
    refine lv_icmp_le (tgt := 13) hx hb dX6_interrupt_8 (by decide) (fun c8_2 => ?_) (fun c8_2 => ?_)
    · refine lv_aload_n hx hb dX6_interrupt_13 rfl (lv_at hl 0 rfl) ?_
      refine va_get (D := (dC, dI)) (ci := 6) (v := .ref pu) (C := RX6) (T := TX6) (N := 7) hx hb hts in_X6_interrupt_X6 hown hK hP 0 rfl rfl 5 (by decide) (hts (.fieldLink RX6 55 "WorkspaceBox" "processor" "LWorkspaceBox$Processor;") (by decide +kernel)) (fun _ h9 => h9) rfl dX6_interrupt_14 ?_
      refine lv_dup hx hb dX6_interrupt_17 rfl ?_
      refine va_get (D := (dC, dI)) (ci := 4) (v := .int 0) (C := RX4) (T := TX4) (N := 12) hx hb hts in_X6_interrupt_X4 hown hK hP 1 rfl rfl 9 (by decide) (hts (.fieldLink RX6 162 "WorkspaceBox$Processor" "told" "I") (by decide +kernel)) (fun _ h9 => h9) rfl dX6_interrupt_18 ?_
      refine lv_iconst (v := 1) hx hb dX6_interrupt_21 (by decide) ?_
      refine lv_iload_n hx hb dX6_interrupt_22 rfl (lv_at hl 1 rfl) ?_
      refine lv_ishl hx hb dX6_interrupt_23 ?_
      refine lv_topi (fun y_3 ey_3 => ?_)
      refine lv_ior hx hb dX6_interrupt_24 ?_
      refine lv_topi (fun y_4 ey_4 => ?_)
      refine va_put (D := (dC, dI)) (ci := 4) (v := .int y_4) (ty := .int) (C := RX4) (T := TX4) (N := 12) hx hb hts in_X6_interrupt_X4 tyX4 tyX4_ok nmX4 hown hK hP hD hS 1 rfl rfl 9 (by decide) (hts (.fieldLink RX6 162 "WorkspaceBox$Processor" "told" "I") (by decide +kernel)) (fun _ h9 => h9) rfl (by decide +kernel) rfl rfl (Nat.le_of_ble_eq_true rfl) dX6_interrupt_25 (fun H locs hP hD hS => ?_)
      have hP : va_P (dC, dI) vwCl [(x, .inr (6, [.ref tb, .ref pi, .ref gr, .ref wi, .ref me, .ref pu, .int 0])), (pu, .inr (4, [.ref me, .ref pi, .ref wi, .int 0, .int 0, .int 0, .int 2, .int 0, .int 0, .int y_4, .int 0, .int 0]))] H := hP
      have hD : va_D A [(x, .inr (6, [.ref tb, .ref pi, .ref gr, .ref wi, .ref me, .ref pu, .int 0])), (pu, .inr (4, [.ref me, .ref pi, .ref wi, .int 0, .int 0, .int 0, .int 2, .int 0, .int 0, .int y_4, .int 0, .int 0]))] := hD
      refine lv_iconst (v := 1) hx hb dX6_interrupt_28 (by decide) ?_
      have hP9 := hP.sub (ws' := []) [] rfl
      have hD9 := hD.sub (ws' := []) [] (by decide) rfl
      have hK9 := hK.sub (tys' := []) [] rfl
      exact W.zret (v := 1) hx hb hr rfl (fun t ht hW => ⟨⟨1, (), rfl, by (first | decide | ((try subst_vars); (try dsimp only); (try simp only [fa_lt, fa_le, fa_eq, tI_m1, tI_0, tI_1, tI_2, tI_3, tI_4, tI_5, tI_7, tI_8, tI_10, tI_15, tI_16, tI_20, tI_31, tI_125, tI_191, tI_255, tI_256, tI_980, tI_1000, tI_4095, tI_4096, tI_8191, tI_8192, tI_16383, tI_16384, tI_32767, tI_32768, tI_33791, tI_33792, tI_40959, tI_40960, tI_65535, tI_65536] at c2_1); (try simp only [fa_lt, fa_le, fa_eq, tI_m1, tI_0, tI_1, tI_2, tI_3, tI_4, tI_5, tI_7, tI_8, tI_10, tI_15, tI_16, tI_20, tI_31, tI_125, tI_191, tI_255, tI_256, tI_980, tI_1000, tI_4095, tI_4096, tI_8191, tI_8192, tI_16383, tI_16384, tI_32767, tI_32768, tI_33791, tI_33792, tI_40959, tI_40960, tI_65535, tI_65536] at c8_2); (have k0 := tI_0); (have k1 := tI_1); (have k2 := tI_2); (have k3 := tI_3); unfold sp_interrupt; (repeat' split) <;> first | rfl | omega | (simp only [fa_lt, fa_le, fa_eq, tI_m1, tI_0, tI_1, tI_2, tI_3, tI_4, tI_5, tI_7, tI_8, tI_10, tI_15, tI_16, tI_20, tI_31, tI_125, tI_191, tI_255, tI_256, tI_980, tI_1000, tI_4095, tI_4096, tI_8191, tI_8192, tI_16383, tI_16384, tI_32767, tI_32768, tI_33791, tI_33792, tI_40959, tI_40960, tI_65535, tI_65536]; omega))), by rw [ht]; exact hP9, va_K.moved hW.alike hK9, hD9⟩, hS.F ht⟩) hS.2.2 dX6_interrupt_29
    · refine lv_iconst (v := 0) hx hb dX6_interrupt_11 (by decide) ?_
      have hP9 := hP.sub (ws' := []) [] rfl
      have hD9 := hD.sub (ws' := []) [] (by decide) rfl
      have hK9 := hK.sub (tys' := []) [] rfl
      exact W.zret (v := 0) hx hb hr rfl (fun t ht hW => ⟨⟨0, (), rfl, by (first | decide | ((try subst_vars); (try dsimp only); (try simp only [fa_lt, fa_le, fa_eq, tI_m1, tI_0, tI_1, tI_2, tI_3, tI_4, tI_5, tI_7, tI_8, tI_10, tI_15, tI_16, tI_20, tI_31, tI_125, tI_191, tI_255, tI_256, tI_980, tI_1000, tI_4095, tI_4096, tI_8191, tI_8192, tI_16383, tI_16384, tI_32767, tI_32768, tI_33791, tI_33792, tI_40959, tI_40960, tI_65535, tI_65536] at c2_1); (try simp only [fa_lt, fa_le, fa_eq, tI_m1, tI_0, tI_1, tI_2, tI_3, tI_4, tI_5, tI_7, tI_8, tI_10, tI_15, tI_16, tI_20, tI_31, tI_125, tI_191, tI_255, tI_256, tI_980, tI_1000, tI_4095, tI_4096, tI_8191, tI_8192, tI_16383, tI_16384, tI_32767, tI_32768, tI_33791, tI_33792, tI_40959, tI_40960, tI_65535, tI_65536] at c8_2); (have k0 := tI_0); (have k1 := tI_1); (have k2 := tI_2); (have k3 := tI_3); unfold sp_interrupt; (repeat' split) <;> first | rfl | omega | (simp only [fa_lt, fa_le, fa_eq, tI_m1, tI_0, tI_1, tI_2, tI_3, tI_4, tI_5, tI_7, tI_8, tI_10, tI_15, tI_16, tI_20, tI_31, tI_125, tI_191, tI_255, tI_256, tI_980, tI_1000, tI_4095, tI_4096, tI_8191, tI_8192, tI_16383, tI_16384, tI_32767, tI_32768, tI_33791, tI_33792, tI_40959, tI_40960, tI_65535, tI_65536]; omega))), by rw [ht]; exact hP9, va_K.moved hW.alike hK9, hD9⟩, hS.F ht⟩) hS.2.2 dX6_interrupt_12

theorem in_X5_press_X5 : ∀ w ∈ wsX50, w ∈ wsX5_press := by decide +kernel
set_option maxHeartbeats 1000000 in
set_option maxRecDepth 100000 in
theorem k_press (l : Launch) (dC : Nat → ClassId) (dI : Nat → Nat → Nat) (x tb ta pi pb pa pr gr gb ga wi wa me rb ra mb ma qb qa pu : Nat) (ct cp cr cg cw c1 c2 c3 : ClassId) (p0 : Int32) (p1 : Int32) (p2 : Int32) (sz : Nat)  : Met l yX5_press wsX5_press ({ frames := 0, cells := 0, slots := 0, locals := 0 }) (va_Pc [.ref wi, .int p0, .int p1, .int p2] (fun U => U.heap.size = sz ∧ va_P (dC, dI) vwCl [(wi, .inr (5, [.ref pi, .ref wa, .long 0]))] U.heap ∧ va_K (dC, dI) vwCl [] U ∧ va_D (fun _ => True) [(wi, .inr (5, [.ref pi, .ref wa, .long 0]))])) (va_Qv (fun (_ : Unit) => True) (fun (u : Unit) (t : State) => va_P (dC, dI) vwCl [] t.heap ∧ va_K (dC, dI) vwCl [] t ∧ va_D (va_A [(wi, .inr (5, [.ref pi, .ref wa, .long 0]))] sz) []) (va_A [(wi, .inr (5, [.ref pi, .ref wa, .long 0]))] sz)) 0 0 (va_A [(wi, .inr (5, [.ref pi, .ref wa, .long 0]))] sz) := by
  refine Met.ofW (cc := cX5_press) (maxL := 6) (ret := none) (by decide) rfl ?_
  intro p e s m args below meth c s₁ B hml hv
  obtain ⟨rfl, hsz, hP, hK, hD0⟩ := hv
  have hx := B.exec
  have hb := B.bytes
  have hr := B.returns
  have hts := atoms_spec (ws := wsX5_press) B.pre
  have hown : s.vm.findClass RX5 = some m.cls := findClass_of_methodNamed B.named
  have hlocks := B.notSynchronized
  subst hsz
  have hD := hD0.self (sz := s.heap.size)
  generalize hAe : va_A [(wi, .inr (5, [.ref pi, .ref wa, .long 0]))] s.heap.size = A at hD ⊢
  have hA : ∀ q : Nat, s.heap.size ≤ q → A q := fun q h => by rw [← hAe]; exact Or.inr h
  have hS : va_S A s.heap s.heap [] := va_S.rf
  have hP : va_P (dC, dI) vwCl [(wi, .inr (5, [.ref pi, .ref wa, .long 0]))] s.heap := hP
  have hl := lv_entry ([.ref wi, .int p0, .int p1, .int p2]) (n := 6) (Nat.le_of_ble_eq_true rfl)
  rw [lg_entry_eq]
  generalize (lg_sl ([.ref wi, .int p0, .int p1, .int p2]) ++ List.replicate (6 - (lg_sl ([.ref wi, .int p0, .int p1, .int p2])).length) Slot.unset).toArray = ls at hl ⊢
  have hl : lv_has ls 6 [(0, .ref wi), (1, .int p0), (2, .int p1), (3, .int p2)] := hl
  refine lv_lconst (v := 1) hx hb dX5_press_0 (by decide) ?_
  refine lv_bipush (v := 8) hx hb dX5_press_1 (by decide) ?_
  refine lv_iload_n hx hb dX5_press_3 rfl (lv_at hl 1 rfl) ?_
  refine lv_imul hx hb dX5_press_4 ?_
  refine lv_topi (fun y_1 ey_1 => ?_)
  refine lv_iload_n hx hb dX5_press_5 rfl (lv_at hl 2 rfl) ?_
  refine lv_iadd hx hb dX5_press_6 ?_
  refine lv_topi (fun y_2 ey_2 => ?_)
  refine lv_lshl hx hb dX5_press_7 rfl ?_
  refine lv_topl (fun y_3 ey_3 => ?_)
  refine lv_lstore (lv' := [(4, .long y_3), (0, .ref wi), (1, .int p0), (2, .int p1), (3, .int p2)]) hx hb dX5_press_8 hl (by decide) rfl (fun ls hl => ?_)
  refine lv_aload_n hx hb dX5_press_10 rfl (lv_at hl 1 rfl) ?_
  refine lv_iload_n hx hb dX5_press_11 rfl (lv_at hl 4 rfl) ?_
  refine lv_if_eq (tgt := 25) hx hb dX5_press_12 (by decide) (fun c12_4 => ?_) (fun c12_4 => ?_)
  · refine lv_aload_n hx hb dX5_press_25 rfl (lv_at hl 1 rfl) ?_
    refine va_get (D := (dC, dI)) (ci := 5) (v := .long 0) (C := RX5) (T := TX5) (N := 3) hx hb hts in_X5_press_X5 hown hK hP 0 rfl rfl 2 (by decide) (hts (.fieldLink RX5 29 "WorkspaceBox$Wires" "keysDown" "J") (by decide +kernel)) (fun _ h9 => h9) rfl dX5_press_26 ?_
    refine lv_lload hx hb dX5_press_29 (lv_at hl 0 rfl) ?_
    refine lv_ldc2 hx hb hown (hts (.constantLong RX5 17 (-1)) (by decide +kernel)) dX5_press_31 ?_
    refine lv_lxor hx hb dX5_press_34 ?_
    refine lv_topl (fun y_5 ey_5 => ?_)
    refine lv_land hx hb dX5_press_35 ?_
    refine lv_topl (fun y_6 ey_6 => ?_)
    refine va_put (D := (dC, dI)) (ci := 5) (v := .long y_6) (ty := .long) (C := RX5) (T := TX5) (N := 3) hx hb hts in_X5_press_X5 tyX5 tyX5_ok nmX5 hown hK hP hD hS 0 rfl rfl 2 (by decide) (hts (.fieldLink RX5 29 "WorkspaceBox$Wires" "keysDown" "J") (by decide +kernel)) (fun _ h9 => h9) rfl (by decide +kernel) rfl rfl (Nat.le_of_ble_eq_true rfl) dX5_press_36 (fun H locs hP hD hS => ?_)
    have hP : va_P (dC, dI) vwCl [(wi, .inr (5, [.ref pi, .ref wa, .long y_6]))] H := hP
    have hD : va_D A [(wi, .inr (5, [.ref pi, .ref wa, .long y_6]))] := hD
    have hP9 := hP.sub (ws' := []) [] rfl
    have hD9 := hD.sub (ws' := []) [] (by decide) rfl
    have hK9 := hK.sub (tys' := []) [] rfl
    exact W.vret hx hb hr (fun t ht hW => ⟨⟨(), rfl, trivial, by rw [ht]; exact hP9, va_K.moved hW.alike hK9, hD9⟩, hS.F ht⟩) hS.2.2 dX5_press_39
  · refine lv_aload_n hx hb dX5_press_15 rfl (lv_at hl 1 rfl) ?_
    refine va_get (D := (dC, dI)) (ci := 5) (v := .long 0) (C := RX5) (T := TX5) (N := 3) hx hb hts in_X5_press_X5 hown hK hP 0 rfl rfl 2 (by decide) (hts (.fieldLink RX5 29 "WorkspaceBox$Wires" "keysDown" "J") (by decide +kernel)) (fun _ h9 => h9) rfl dX5_press_16 ?_
    refine lv_lload hx hb dX5_press_19 (lv_at hl 0 rfl) ?_
    refine lv_lor hx hb dX5_press_21 ?_
    refine lv_topl (fun y_7 ey_7 => ?_)
    refine lv_goto (tgt := 36) hx hb dX5_press_22 (by decide) ?_
    refine va_put (D := (dC, dI)) (ci := 5) (v := .long y_7) (ty := .long) (C := RX5) (T := TX5) (N := 3) hx hb hts in_X5_press_X5 tyX5 tyX5_ok nmX5 hown hK hP hD hS 0 rfl rfl 2 (by decide) (hts (.fieldLink RX5 29 "WorkspaceBox$Wires" "keysDown" "J") (by decide +kernel)) (fun _ h9 => h9) rfl (by decide +kernel) rfl rfl (Nat.le_of_ble_eq_true rfl) dX5_press_36 (fun H locs hP hD hS => ?_)
    have hP : va_P (dC, dI) vwCl [(wi, .inr (5, [.ref pi, .ref wa, .long y_7]))] H := hP
    have hD : va_D A [(wi, .inr (5, [.ref pi, .ref wa, .long y_7]))] := hD
    have hP9 := hP.sub (ws' := []) [] rfl
    have hD9 := hD.sub (ws' := []) [] (by decide) rfl
    have hK9 := hK.sub (tys' := []) [] rfl
    exact W.vret hx hb hr (fun t ht hW => ⟨⟨(), rfl, trivial, by rw [ht]; exact hP9, va_K.moved hW.alike hK9, hD9⟩, hS.F ht⟩) hS.2.2 dX5_press_39

theorem in_X6_key_X6 : ∀ w ∈ wsX60, w ∈ wsX6_key := by decide +kernel
set_option maxHeartbeats 1000000 in
set_option maxRecDepth 100000 in
theorem k_key (l : Launch) (dC : Nat → ClassId) (dI : Nat → Nat → Nat) (x tb ta pi pb pa pr gr gb ga wi wa me rb ra mb ma qb qa pu : Nat) (ct cp cr cg cw c1 c2 c3 : ClassId) (p0 : Int32) (p1 : Int32) (p2 : Int32) (sz : Nat)  : Met l yX6_key wsX6_key ({ frames := 1, cells := 0, slots := 0, locals := 25 }) (va_Pc [.ref x, .int p0, .int p1, .int p2] (fun U => U.heap.size = sz ∧ va_P (dC, dI) vwCl [(x, .inr (6, [.ref tb, .ref pi, .ref gr, .ref wi, .ref me, .ref pu, .int 0])), (wi, .inr (5, [.ref pi, .ref wa, .long 0]))] U.heap ∧ va_K (dC, dI) vwCl [] U ∧ va_D (fun _ => True) [(x, .inr (6, [.ref tb, .ref pi, .ref gr, .ref wi, .ref me, .ref pu, .int 0])), (wi, .inr (5, [.ref pi, .ref wa, .long 0]))])) (va_Qi (fun (r : Int32) (_ : Unit) => r = sp_key p0 p1) (fun (u : Unit) (t : State) => va_P (dC, dI) vwCl [] t.heap ∧ va_K (dC, dI) vwCl [] t ∧ va_D (va_A [(x, .inr (6, [.ref tb, .ref pi, .ref gr, .ref wi, .ref me, .ref pu, .int 0])), (wi, .inr (5, [.ref pi, .ref wa, .long 0]))] sz) []) (va_A [(x, .inr (6, [.ref tb, .ref pi, .ref gr, .ref wi, .ref me, .ref pu, .int 0])), (wi, .inr (5, [.ref pi, .ref wa, .long 0]))] sz)) 0 0 (va_A [(x, .inr (6, [.ref tb, .ref pi, .ref gr, .ref wi, .ref me, .ref pu, .int 0])), (wi, .inr (5, [.ref pi, .ref wa, .long 0]))] sz) := by
  refine Met.ofW (cc := cX6_key) (maxL := 4) (ret := (some .boolean)) (by decide) rfl ?_
  intro p e s m args below meth c s₁ B hml hv
  obtain ⟨rfl, hsz, hP, hK, hD0⟩ := hv
  have hx := B.exec
  have hb := B.bytes
  have hr := B.returns
  have hts := atoms_spec (ws := wsX6_key) B.pre
  have hown : s.vm.findClass RX6 = some m.cls := findClass_of_methodNamed B.named
  have hlocks := B.notSynchronized
  subst hsz
  have hD := hD0.self (sz := s.heap.size)
  generalize hAe : va_A [(x, .inr (6, [.ref tb, .ref pi, .ref gr, .ref wi, .ref me, .ref pu, .int 0])), (wi, .inr (5, [.ref pi, .ref wa, .long 0]))] s.heap.size = A at hD ⊢
  have hA : ∀ q : Nat, s.heap.size ≤ q → A q := fun q h => by rw [← hAe]; exact Or.inr h
  have hS : va_S A s.heap s.heap [] := va_S.rf
  have hP : va_P (dC, dI) vwCl [(x, .inr (6, [.ref tb, .ref pi, .ref gr, .ref wi, .ref me, .ref pu, .int 0])), (wi, .inr (5, [.ref pi, .ref wa, .long 0]))] s.heap := hP
  have hl := lv_entry ([.ref x, .int p0, .int p1, .int p2]) (n := 4) (Nat.le_of_ble_eq_true rfl)
  rw [lg_entry_eq]
  generalize (lg_sl ([.ref x, .int p0, .int p1, .int p2]) ++ List.replicate (4 - (lg_sl ([.ref x, .int p0, .int p1, .int p2])).length) Slot.unset).toArray = ls at hl ⊢
  have hl : lv_has ls 4 [(0, .ref x), (1, .int p0), (2, .int p1), (3, .int p2)] := hl
  refine lv_iload_n hx hb dX6_key_0 rfl (lv_at hl 1 rfl) ?_
  refine lv_if_lt (tgt := 20) hx hb dX6_key_1 (by decide) (fun c1_1 => ?_) (fun c1_1 => ?_)
  · refine lv_iconst (v := 0) hx hb dX6_key_20 (by decide) ?_
    have hP9 := hP.sub (ws' := []) [] rfl
    have hD9 := hD.sub (ws' := []) [] (by decide) rfl
    have hK9 := hK.sub (tys' := []) [] rfl
    exact W.zret (v := 0) hx hb hr rfl (fun t ht hW => ⟨⟨0, (), rfl, by (first | decide | ((try subst_vars); (try dsimp only); (try simp only [fa_lt, fa_le, fa_eq, tI_m1, tI_0, tI_1, tI_2, tI_3, tI_4, tI_5, tI_7, tI_8, tI_10, tI_15, tI_16, tI_20, tI_31, tI_125, tI_191, tI_255, tI_256, tI_980, tI_1000, tI_4095, tI_4096, tI_8191, tI_8192, tI_16383, tI_16384, tI_32767, tI_32768, tI_33791, tI_33792, tI_40959, tI_40960, tI_65535, tI_65536] at c1_1); (have k0 := tI_0); (have k1 := tI_1); (have k2 := tI_2); (have k3 := tI_3); unfold sp_key; (repeat' split) <;> first | rfl | omega | (simp only [fa_lt, fa_le, fa_eq, tI_m1, tI_0, tI_1, tI_2, tI_3, tI_4, tI_5, tI_7, tI_8, tI_10, tI_15, tI_16, tI_20, tI_31, tI_125, tI_191, tI_255, tI_256, tI_980, tI_1000, tI_4095, tI_4096, tI_8191, tI_8192, tI_16383, tI_16384, tI_32767, tI_32768, tI_33791, tI_33792, tI_40959, tI_40960, tI_65535, tI_65536]; omega))), by rw [ht]; exact hP9, va_K.moved hW.alike hK9, hD9⟩, hS.F ht⟩) hS.2.2 dX6_key_21
  · refine lv_iload_n hx hb dX6_key_4 rfl (lv_at hl 1 rfl) ?_
    refine lv_bipush (v := 7) hx hb dX6_key_5 (by decide) ?_
    refine lv_icmp_gt (tgt := 20) hx hb dX6_key_7 (by decide) (fun c7_2 => ?_) (fun c7_2 => ?_)
    · refine lv_iconst (v := 0) hx hb dX6_key_20 (by decide) ?_
      have hP9 := hP.sub (ws' := []) [] rfl
      have hD9 := hD.sub (ws' := []) [] (by decide) rfl
      have hK9 := hK.sub (tys' := []) [] rfl
      exact W.zret (v := 0) hx hb hr rfl (fun t ht hW => ⟨⟨0, (), rfl, by (first | decide | ((try subst_vars); (try dsimp only); (try simp only [fa_lt, fa_le, fa_eq, tI_m1, tI_0, tI_1, tI_2, tI_3, tI_4, tI_5, tI_7, tI_8, tI_10, tI_15, tI_16, tI_20, tI_31, tI_125, tI_191, tI_255, tI_256, tI_980, tI_1000, tI_4095, tI_4096, tI_8191, tI_8192, tI_16383, tI_16384, tI_32767, tI_32768, tI_33791, tI_33792, tI_40959, tI_40960, tI_65535, tI_65536] at c1_1); (try simp only [fa_lt, fa_le, fa_eq, tI_m1, tI_0, tI_1, tI_2, tI_3, tI_4, tI_5, tI_7, tI_8, tI_10, tI_15, tI_16, tI_20, tI_31, tI_125, tI_191, tI_255, tI_256, tI_980, tI_1000, tI_4095, tI_4096, tI_8191, tI_8192, tI_16383, tI_16384, tI_32767, tI_32768, tI_33791, tI_33792, tI_40959, tI_40960, tI_65535, tI_65536] at c7_2); (have k0 := tI_0); (have k1 := tI_1); (have k2 := tI_2); (have k3 := tI_3); unfold sp_key; (repeat' split) <;> first | rfl | omega | (simp only [fa_lt, fa_le, fa_eq, tI_m1, tI_0, tI_1, tI_2, tI_3, tI_4, tI_5, tI_7, tI_8, tI_10, tI_15, tI_16, tI_20, tI_31, tI_125, tI_191, tI_255, tI_256, tI_980, tI_1000, tI_4095, tI_4096, tI_8191, tI_8192, tI_16383, tI_16384, tI_32767, tI_32768, tI_33791, tI_33792, tI_40959, tI_40960, tI_65535, tI_65536]; omega))), by rw [ht]; exact hP9, va_K.moved hW.alike hK9, hD9⟩, hS.F ht⟩) hS.2.2 dX6_key_21
    · refine lv_iload_n hx hb dX6_key_10 rfl (lv_at hl 2 rfl) ?_
      refine lv_if_lt (tgt := 20) hx hb dX6_key_11 (by decide) (fun c11_3 => ?_) (fun c11_3 => ?_)
      · refine lv_iconst (v := 0) hx hb dX6_key_20 (by decide) ?_
        have hP9 := hP.sub (ws' := []) [] rfl
        have hD9 := hD.sub (ws' := []) [] (by decide) rfl
        have hK9 := hK.sub (tys' := []) [] rfl
        exact W.zret (v := 0) hx hb hr rfl (fun t ht hW => ⟨⟨0, (), rfl, by (first | decide | ((try subst_vars); (try dsimp only); (try simp only [fa_lt, fa_le, fa_eq, tI_m1, tI_0, tI_1, tI_2, tI_3, tI_4, tI_5, tI_7, tI_8, tI_10, tI_15, tI_16, tI_20, tI_31, tI_125, tI_191, tI_255, tI_256, tI_980, tI_1000, tI_4095, tI_4096, tI_8191, tI_8192, tI_16383, tI_16384, tI_32767, tI_32768, tI_33791, tI_33792, tI_40959, tI_40960, tI_65535, tI_65536] at c1_1); (try simp only [fa_lt, fa_le, fa_eq, tI_m1, tI_0, tI_1, tI_2, tI_3, tI_4, tI_5, tI_7, tI_8, tI_10, tI_15, tI_16, tI_20, tI_31, tI_125, tI_191, tI_255, tI_256, tI_980, tI_1000, tI_4095, tI_4096, tI_8191, tI_8192, tI_16383, tI_16384, tI_32767, tI_32768, tI_33791, tI_33792, tI_40959, tI_40960, tI_65535, tI_65536] at c7_2); (try simp only [fa_lt, fa_le, fa_eq, tI_m1, tI_0, tI_1, tI_2, tI_3, tI_4, tI_5, tI_7, tI_8, tI_10, tI_15, tI_16, tI_20, tI_31, tI_125, tI_191, tI_255, tI_256, tI_980, tI_1000, tI_4095, tI_4096, tI_8191, tI_8192, tI_16383, tI_16384, tI_32767, tI_32768, tI_33791, tI_33792, tI_40959, tI_40960, tI_65535, tI_65536] at c11_3); (have k0 := tI_0); (have k1 := tI_1); (have k2 := tI_2); (have k3 := tI_3); unfold sp_key; (repeat' split) <;> first | rfl | omega | (simp only [fa_lt, fa_le, fa_eq, tI_m1, tI_0, tI_1, tI_2, tI_3, tI_4, tI_5, tI_7, tI_8, tI_10, tI_15, tI_16, tI_20, tI_31, tI_125, tI_191, tI_255, tI_256, tI_980, tI_1000, tI_4095, tI_4096, tI_8191, tI_8192, tI_16383, tI_16384, tI_32767, tI_32768, tI_33791, tI_33792, tI_40959, tI_40960, tI_65535, tI_65536]; omega))), by rw [ht]; exact hP9, va_K.moved hW.alike hK9, hD9⟩, hS.F ht⟩) hS.2.2 dX6_key_21
      · refine lv_iload_n hx hb dX6_key_14 rfl (lv_at hl 2 rfl) ?_
        refine lv_bipush (v := 7) hx hb dX6_key_15 (by decide) ?_
        refine lv_icmp_le (tgt := 22) hx hb dX6_key_17 (by decide) (fun c17_4 => ?_) (fun c17_4 => ?_)
        · refine lv_aload_n hx hb dX6_key_22 rfl (lv_at hl 0 rfl) ?_
          refine va_get (D := (dC, dI)) (ci := 6) (v := .ref wi) (C := RX6) (T := TX6) (N := 7) hx hb hts in_X6_key_X6 hown hK hP 0 rfl rfl 3 (by decide) (hts (.fieldLink RX6 37 "WorkspaceBox" "wires" "LWorkspaceBox$Wires;") (by decide +kernel)) (fun _ h9 => h9) rfl dX6_key_23 ?_
          refine lv_iload_n hx hb dX6_key_26 rfl (lv_at hl 1 rfl) ?_
          refine lv_iload_n hx hb dX6_key_27 rfl (lv_at hl 2 rfl) ?_
          refine lv_iload_n hx hb dX6_key_28 rfl (lv_at hl 3 rfl) ?_
          have hPc := hP.sub (ws' := [(wi, .inr (5, [.ref pi, .ref wa, .long 0]))]) [1] rfl
          have hDc := hD.sub (ws' := [(wi, .inr (5, [.ref pi, .ref wa, .long 0]))]) [1] (by decide) rfl
          have hKc := hK.sub (tys' := []) [] rfl
          have hFc := va_free (wc := [(wi, .inr (5, [.ref pi, .ref wa, .long 0]))]) hD hS hA [1] rfl
          refine va_callv (va_runV (As := [.int p0, .int p1, .int p2]) (rest := []) ⟨hx, hb, hml, hown, hts⟩ (k_press l dC dI x tb ta pi pb pa pr gr gb ga wi wa me rb ra mb ma qb qa pu ct cp cr cg cw c1 c2 c3 p0 p1 p2 s.heap.size) (cwV 3 hts gX6_key_X5_press rfl rfl rfl (by decide +kernel) ⟨Nat.le_of_ble_eq_true rfl, Nat.le_of_ble_eq_true rfl⟩) ⟨fun a U g mk q => by obtain ⟨q0, q1, qP, qK, qD⟩ := q; exact ⟨q0, q1, qP, va_K.moved (u := U) (U := U.calling g mk a) (Vm.Alike.refl U.vm) qK, qD⟩, va_recv hKc hPc (ci := 5) (q0 := 0) rfl rfl, fun U hU hW => ⟨rfl, by rw [hU], by rw [hU]; exact hPc, va_K.moved hW.alike hKc, hDc.weaken (fun _ _ _ _ => trivial)⟩⟩ rfl rfl hl.1 rfl (lv_room (Nat.le_of_ble_eq_true rfl)) dX6_key_29 ⟨Nat.le_of_ble_eq_true rfl, Nat.le_of_ble_eq_true rfl⟩) hS (fun q _ h => hFc q h) hFc (fun u t H1 locs ht hvm hw hB hz1 hk1 hS => ?_)
          obtain ⟨hP1, hK1, hD1⟩ := hB
          rw [ht] at hP1
          have hK1 := va_K.moved hvm.symm hK1
          try dsimp only at hw
          obtain ⟨hP, hD⟩ := va_join (wr := [(x, .inr (6, [.ref tb, .ref pi, .ref gr, .ref wi, .ref me, .ref pu, .int 0]))]) (w1 := []) hP hD [1] [0] rfl rfl (by decide) (by decide) hk1 hFc hP1 hD1
          have hK := (hK.sub (tys' := []) [] rfl).app hK1
          generalize H1 = H at hP hS ⊢
          have hP : va_P (dC, dI) vwCl [(x, .inr (6, [.ref tb, .ref pi, .ref gr, .ref wi, .ref me, .ref pu, .int 0]))] H := hP
          have hD : va_D A [(x, .inr (6, [.ref tb, .ref pi, .ref gr, .ref wi, .ref me, .ref pu, .int 0]))] := hD
          have hK : va_K (dC, dI) vwCl [] s := hK
          have hw_6 := hw
          refine lv_iconst (v := 1) hx hb dX6_key_32 (by decide) ?_
          have hP9 := hP.sub (ws' := []) [] rfl
          have hD9 := hD.sub (ws' := []) [] (by decide) rfl
          have hK9 := hK.sub (tys' := []) [] rfl
          exact W.zret (v := 1) hx hb hr rfl (fun t ht hW => ⟨⟨1, (), rfl, by (first | decide | ((try subst_vars); (try dsimp only); (try simp only [fa_lt, fa_le, fa_eq, tI_m1, tI_0, tI_1, tI_2, tI_3, tI_4, tI_5, tI_7, tI_8, tI_10, tI_15, tI_16, tI_20, tI_31, tI_125, tI_191, tI_255, tI_256, tI_980, tI_1000, tI_4095, tI_4096, tI_8191, tI_8192, tI_16383, tI_16384, tI_32767, tI_32768, tI_33791, tI_33792, tI_40959, tI_40960, tI_65535, tI_65536] at c1_1); (try simp only [fa_lt, fa_le, fa_eq, tI_m1, tI_0, tI_1, tI_2, tI_3, tI_4, tI_5, tI_7, tI_8, tI_10, tI_15, tI_16, tI_20, tI_31, tI_125, tI_191, tI_255, tI_256, tI_980, tI_1000, tI_4095, tI_4096, tI_8191, tI_8192, tI_16383, tI_16384, tI_32767, tI_32768, tI_33791, tI_33792, tI_40959, tI_40960, tI_65535, tI_65536] at c7_2); (try simp only [fa_lt, fa_le, fa_eq, tI_m1, tI_0, tI_1, tI_2, tI_3, tI_4, tI_5, tI_7, tI_8, tI_10, tI_15, tI_16, tI_20, tI_31, tI_125, tI_191, tI_255, tI_256, tI_980, tI_1000, tI_4095, tI_4096, tI_8191, tI_8192, tI_16383, tI_16384, tI_32767, tI_32768, tI_33791, tI_33792, tI_40959, tI_40960, tI_65535, tI_65536] at c11_3); (try simp only [fa_lt, fa_le, fa_eq, tI_m1, tI_0, tI_1, tI_2, tI_3, tI_4, tI_5, tI_7, tI_8, tI_10, tI_15, tI_16, tI_20, tI_31, tI_125, tI_191, tI_255, tI_256, tI_980, tI_1000, tI_4095, tI_4096, tI_8191, tI_8192, tI_16383, tI_16384, tI_32767, tI_32768, tI_33791, tI_33792, tI_40959, tI_40960, tI_65535, tI_65536] at c17_4); (try simp only [fa_lt, fa_le, fa_eq, tI_m1, tI_0, tI_1, tI_2, tI_3, tI_4, tI_5, tI_7, tI_8, tI_10, tI_15, tI_16, tI_20, tI_31, tI_125, tI_191, tI_255, tI_256, tI_980, tI_1000, tI_4095, tI_4096, tI_8191, tI_8192, tI_16383, tI_16384, tI_32767, tI_32768, tI_33791, tI_33792, tI_40959, tI_40960, tI_65535, tI_65536] at hw_6); (have k0 := tI_0); (have k1 := tI_1); (have k2 := tI_2); (have k3 := tI_3); unfold sp_key; (repeat' split) <;> first | rfl | omega | (simp only [fa_lt, fa_le, fa_eq, tI_m1, tI_0, tI_1, tI_2, tI_3, tI_4, tI_5, tI_7, tI_8, tI_10, tI_15, tI_16, tI_20, tI_31, tI_125, tI_191, tI_255, tI_256, tI_980, tI_1000, tI_4095, tI_4096, tI_8191, tI_8192, tI_16383, tI_16384, tI_32767, tI_32768, tI_33791, tI_33792, tI_40959, tI_40960, tI_65535, tI_65536]; omega))), by rw [ht]; exact hP9, va_K.moved hW.alike hK9, hD9⟩, hS.F ht⟩) hS.2.2 dX6_key_33
        · refine lv_iconst (v := 0) hx hb dX6_key_20 (by decide) ?_
          have hP9 := hP.sub (ws' := []) [] rfl
          have hD9 := hD.sub (ws' := []) [] (by decide) rfl
          have hK9 := hK.sub (tys' := []) [] rfl
          exact W.zret (v := 0) hx hb hr rfl (fun t ht hW => ⟨⟨0, (), rfl, by (first | decide | ((try subst_vars); (try dsimp only); (try simp only [fa_lt, fa_le, fa_eq, tI_m1, tI_0, tI_1, tI_2, tI_3, tI_4, tI_5, tI_7, tI_8, tI_10, tI_15, tI_16, tI_20, tI_31, tI_125, tI_191, tI_255, tI_256, tI_980, tI_1000, tI_4095, tI_4096, tI_8191, tI_8192, tI_16383, tI_16384, tI_32767, tI_32768, tI_33791, tI_33792, tI_40959, tI_40960, tI_65535, tI_65536] at c1_1); (try simp only [fa_lt, fa_le, fa_eq, tI_m1, tI_0, tI_1, tI_2, tI_3, tI_4, tI_5, tI_7, tI_8, tI_10, tI_15, tI_16, tI_20, tI_31, tI_125, tI_191, tI_255, tI_256, tI_980, tI_1000, tI_4095, tI_4096, tI_8191, tI_8192, tI_16383, tI_16384, tI_32767, tI_32768, tI_33791, tI_33792, tI_40959, tI_40960, tI_65535, tI_65536] at c7_2); (try simp only [fa_lt, fa_le, fa_eq, tI_m1, tI_0, tI_1, tI_2, tI_3, tI_4, tI_5, tI_7, tI_8, tI_10, tI_15, tI_16, tI_20, tI_31, tI_125, tI_191, tI_255, tI_256, tI_980, tI_1000, tI_4095, tI_4096, tI_8191, tI_8192, tI_16383, tI_16384, tI_32767, tI_32768, tI_33791, tI_33792, tI_40959, tI_40960, tI_65535, tI_65536] at c11_3); (try simp only [fa_lt, fa_le, fa_eq, tI_m1, tI_0, tI_1, tI_2, tI_3, tI_4, tI_5, tI_7, tI_8, tI_10, tI_15, tI_16, tI_20, tI_31, tI_125, tI_191, tI_255, tI_256, tI_980, tI_1000, tI_4095, tI_4096, tI_8191, tI_8192, tI_16383, tI_16384, tI_32767, tI_32768, tI_33791, tI_33792, tI_40959, tI_40960, tI_65535, tI_65536] at c17_4); (have k0 := tI_0); (have k1 := tI_1); (have k2 := tI_2); (have k3 := tI_3); unfold sp_key; (repeat' split) <;> first | rfl | omega | (simp only [fa_lt, fa_le, fa_eq, tI_m1, tI_0, tI_1, tI_2, tI_3, tI_4, tI_5, tI_7, tI_8, tI_10, tI_15, tI_16, tI_20, tI_31, tI_125, tI_191, tI_255, tI_256, tI_980, tI_1000, tI_4095, tI_4096, tI_8191, tI_8192, tI_16383, tI_16384, tI_32767, tI_32768, tI_33791, tI_33792, tI_40959, tI_40960, tI_65535, tI_65536]; omega))), by rw [ht]; exact hP9, va_K.moved hW.alike hK9, hD9⟩, hS.F ht⟩) hS.2.2 dX6_key_21

