set_option maxHeartbeats 1000000 in
set_option maxRecDepth 100000 in
theorem k_exists (l : Launch) (dC : Nat → ClassId) (dI : Nat → Nat → Nat) (x tb ta pi pb pa pr gr gb ga wi wa me rb ra mb ma qb qa pu : Nat) (ct cp cr cg cw c1 c2 c3 : ClassId) (p0 : Int32) (sz : Nat)  : Met l yX5_exists wsX5_exists ({ frames := 0, cells := 0, slots := 0, locals := 0 }) (va_Pc [.int p0] (fun U => U.heap.size = sz ∧ va_P (dC, dI) vwCl [] U.heap ∧ va_K (dC, dI) vwCl [] U ∧ va_D (fun _ => True) [])) (va_Qi (fun (r : Int32) (_ : Unit) => (r = 1 ∧ ¬ p0 < 0 ∧ ¬ (4095 < p0)) ∨ (r = 0 ∧ (p0 < 0 ∨ 4095 < p0))) (fun (u : Unit) (t : State) => va_P (dC, dI) vwCl [] t.heap ∧ va_K (dC, dI) vwCl [] t ∧ va_D (va_A [] sz) []) (va_A [] sz)) 0 0 (va_A [] sz) := by
  refine Met.ofW (cc := cX5_exists) (maxL := 1) (ret := (some .boolean)) (by decide) rfl ?_
  intro p e s m args below meth c s₁ B hml hv
  obtain ⟨rfl, hsz, hP, hK, hD0⟩ := hv
  have hx := B.exec
  have hb := B.bytes
  have hr := B.returns
  have hts := atoms_spec (ws := wsX5_exists) B.pre
  have hown : s.vm.findClass RX5 = some m.cls := findClass_of_methodNamed B.named
  have hlocks := B.notSynchronized
  subst hsz
  have hD := hD0.self (sz := s.heap.size)
  generalize hAe : va_A [] s.heap.size = A at hD ⊢
  have hA : ∀ q : Nat, s.heap.size ≤ q → A q := fun q h => by rw [← hAe]; exact Or.inr h
  have hS : va_S A s.heap s.heap [] := va_S.rf
  have hP : va_P (dC, dI) vwCl [] s.heap := hP
  have hl := lv_entry ([.int p0]) (n := 1) (Nat.le_of_ble_eq_true rfl)
  rw [lg_entry_eq]
  generalize (lg_sl ([.int p0]) ++ List.replicate (1 - (lg_sl ([.int p0])).length) Slot.unset).toArray = ls at hl ⊢
  have hl : lv_has ls 1 [(0, .int p0)] := hl
  refine lv_iload_n hx hb dX5_exists_0 rfl (lv_at hl 0 rfl) ?_
  refine lv_if_lt (tgt := 15) hx hb dX5_exists_1 (by decide) (fun c1_1 => ?_) (fun c1_1 => ?_)
  · refine lv_iconst (v := 0) hx hb dX5_exists_15 (by decide) ?_
    have hP9 := hP.sub (ws' := []) [] rfl
    have hD9 := hD.sub (ws' := []) [] (by decide) rfl
    have hK9 := hK.sub (tys' := []) [] rfl
    exact W.zret (v := 0) hx hb hr rfl (fun t ht hW => ⟨⟨0, (), rfl, by simp_all, by rw [ht]; exact hP9, va_K.moved hW.alike hK9, hD9⟩, hS.F ht⟩) hS.2.2 dX5_exists_16
  · refine lv_iload_n hx hb dX5_exists_4 rfl (lv_at hl 0 rfl) ?_
    refine lv_sipush (v := 4095) hx hb dX5_exists_5 (by decide) ?_
    refine lv_icmp_gt (tgt := 15) hx hb dX5_exists_8 (by decide) (fun c8_2 => ?_) (fun c8_2 => ?_)
    · refine lv_iconst (v := 0) hx hb dX5_exists_15 (by decide) ?_
      have hP9 := hP.sub (ws' := []) [] rfl
      have hD9 := hD.sub (ws' := []) [] (by decide) rfl
      have hK9 := hK.sub (tys' := []) [] rfl
      exact W.zret (v := 0) hx hb hr rfl (fun t ht hW => ⟨⟨0, (), rfl, by simp_all, by rw [ht]; exact hP9, va_K.moved hW.alike hK9, hD9⟩, hS.F ht⟩) hS.2.2 dX5_exists_16
    · refine lv_iconst (v := 1) hx hb dX5_exists_11 (by decide) ?_
      refine lv_goto (tgt := 16) hx hb dX5_exists_12 (by decide) ?_
      have hP9 := hP.sub (ws' := []) [] rfl
      have hD9 := hD.sub (ws' := []) [] (by decide) rfl
      have hK9 := hK.sub (tys' := []) [] rfl
      exact W.zret (v := 1) hx hb hr rfl (fun t ht hW => ⟨⟨1, (), rfl, by simp_all, by rw [ht]; exact hP9, va_K.moved hW.alike hK9, hD9⟩, hS.F ht⟩) hS.2.2 dX5_exists_16

theorem in_X5_sent_X5 : ∀ w ∈ wsX50, w ∈ wsX5_sent := by decide +kernel
set_option maxHeartbeats 1000000 in
set_option maxRecDepth 100000 in
theorem k_sent (l : Launch) (dC : Nat → ClassId) (dI : Nat → Nat → Nat) (x tb ta pi pb pa pr gr gb ga wi wa me rb ra mb ma qb qa pu : Nat) (ct cp cr cg cw c1 c2 c3 : ClassId) (p0 : Int32) (sz : Nat)  : Met l yX5_sent wsX5_sent ({ frames := 0, cells := 0, slots := 0, locals := 0 }) (va_Pc [.ref wi, .int p0] (fun U => U.heap.size = sz ∧ va_P (dC, dI) vwCl [(wi, .inr (5, [.ref pi, .ref wa, .long 0])), (wa, .inl (cw, 64, .inr (.inl (fun _ => 0))))] U.heap ∧ va_K (dC, dI) vwCl [(cw, .long)] U ∧ va_D (fun _ => True) [(wi, .inr (5, [.ref pi, .ref wa, .long 0])), (wa, .inl (cw, 64, .inr (.inl (fun _ => 0))))])) (va_Qi (fun (r : Int32) (_ : Unit) => r = 0) (fun (u : Unit) (t : State) => va_P (dC, dI) vwCl [(wi, .inr (5, [.ref pi, .ref wa, .long 0])), (wa, .inl (cw, 64, .inr (.inl (fun _ => 0))))] t.heap ∧ va_K (dC, dI) vwCl [(cw, .long)] t ∧ va_D (va_A [(wi, .inr (5, [.ref pi, .ref wa, .long 0])), (wa, .inl (cw, 64, .inr (.inl (fun _ => 0))))] sz) [(wi, .inr (5, [.ref pi, .ref wa, .long 0])), (wa, .inl (cw, 64, .inr (.inl (fun _ => 0))))]) (va_A [(wi, .inr (5, [.ref pi, .ref wa, .long 0])), (wa, .inl (cw, 64, .inr (.inl (fun _ => 0))))] sz)) 0 0 (va_A [(wi, .inr (5, [.ref pi, .ref wa, .long 0])), (wa, .inl (cw, 64, .inr (.inl (fun _ => 0))))] sz) := by
  refine Met.ofW (cc := cX5_sent) (maxL := 2) (ret := (some .int)) (by decide) rfl ?_
  intro p e s m args below meth c s₁ B hml hv
  obtain ⟨rfl, hsz, hP, hK, hD0⟩ := hv
  have hx := B.exec
  have hb := B.bytes
  have hr := B.returns
  have hts := atoms_spec (ws := wsX5_sent) B.pre
  have hown : s.vm.findClass RX5 = some m.cls := findClass_of_methodNamed B.named
  have hlocks := B.notSynchronized
  subst hsz
  have hD := hD0.self (sz := s.heap.size)
  generalize hAe : va_A [(wi, .inr (5, [.ref pi, .ref wa, .long 0])), (wa, .inl (cw, 64, .inr (.inl (fun _ => 0))))] s.heap.size = A at hD ⊢
  have hA : ∀ q : Nat, s.heap.size ≤ q → A q := fun q h => by rw [← hAe]; exact Or.inr h
  have hS : va_S A s.heap s.heap [] := va_S.rf
  have hP : va_P (dC, dI) vwCl [(wi, .inr (5, [.ref pi, .ref wa, .long 0])), (wa, .inl (cw, 64, .inr (.inl (fun _ => 0))))] s.heap := hP
  have hl := lv_entry ([.ref wi, .int p0]) (n := 2) (Nat.le_of_ble_eq_true rfl)
  rw [lg_entry_eq]
  generalize (lg_sl ([.ref wi, .int p0]) ++ List.replicate (2 - (lg_sl ([.ref wi, .int p0])).length) Slot.unset).toArray = ls at hl ⊢
  have hl : lv_has ls 2 [(0, .ref wi), (1, .int p0)] := hl
  refine lv_aload_n hx hb dX5_sent_0 rfl (lv_at hl 0 rfl) ?_
  refine va_get (D := (dC, dI)) (ci := 5) (v := .ref wa) (C := RX5) (T := TX5) (N := 3) hx hb hts in_X5_sent_X5 hown hK hP 0 rfl rfl 1 (by decide) (hts (.fieldLink RX5 7 "WorkspaceBox$Wires" "went" "[J") (by decide +kernel)) (fun _ h9 => h9) rfl dX5_sent_1 ?_
  refine lv_iload_n hx hb dX5_sent_4 rfl (lv_at hl 1 rfl) ?_
  refine lv_sipush (v := 4095) hx hb dX5_sent_5 (by decide) ?_
  refine lv_iand hx hb dX5_sent_8 ?_
  refine lv_topi (fun y_1 ey_1 => ?_)
  refine lv_bipush (v := 6) hx hb dX5_sent_9 (by decide) ?_
  refine lv_ishr hx hb dX5_sent_11 ?_
  refine lv_topi (fun y_2 ey_2 => ?_)
  refine va_lald hx hb hK hP 1 0 rfl rfl (by subst_vars; exact in_sent _) dX5_sent_12 ?_
  refine lv_topl (fun y_3 ey_3 => ?_)
  obtain rfl : y_3 = 0 := ey_3
  refine lv_iload_n hx hb dX5_sent_13 rfl (lv_at hl 1 rfl) ?_
  refine lv_bipush (v := 63) hx hb dX5_sent_14 (by decide) ?_
  refine lv_iand hx hb dX5_sent_16 ?_
  refine lv_topi (fun y_4 ey_4 => ?_)
  refine lv_lushr hx hb dX5_sent_17 rfl ?_
  refine lv_topl (fun y_5 ey_5 => ?_)
  refine lv_l2i hx hb dX5_sent_18 rfl ?_
  refine lv_topi (fun y_6 ey_6 => ?_)
  refine lv_iconst (v := 1) hx hb dX5_sent_19 (by decide) ?_
  refine lv_iand hx hb dX5_sent_20 ?_
  refine lv_topi (fun y_7 ey_7 => ?_)
  have hP9 := hP.sub (ws' := [(wi, .inr (5, [.ref pi, .ref wa, .long 0])), (wa, .inl (cw, 64, .inr (.inl (fun _ => 0))))]) [0, 1] rfl
  have hD9 := hD.sub (ws' := [(wi, .inr (5, [.ref pi, .ref wa, .long 0])), (wa, .inl (cw, 64, .inr (.inl (fun _ => 0))))]) [0, 1] (by decide) rfl
  have hK9 := hK.sub (tys' := [(cw, .long)]) [0] rfl
  exact W.iret (v := y_7) hx hb hr (fun t ht hW => ⟨⟨y_7, (), rfl, by subst_vars; exact sh1 _, by rw [ht]; exact hP9, va_K.moved hW.alike hK9, hD9⟩, hS.F ht⟩) hS.2.2 dX5_sent_21

theorem in_X6_out_X6 : ∀ w ∈ wsX60, w ∈ wsX6_out := by decide +kernel
set_option maxHeartbeats 1000000 in
set_option maxRecDepth 100000 in
theorem k_out (l : Launch) (dC : Nat → ClassId) (dI : Nat → Nat → Nat) (x tb ta pi pb pa pr gr gb ga wi wa me rb ra mb ma qb qa pu : Nat) (ct cp cr cg cw c1 c2 c3 : ClassId) (p0 : Int32) (sz : Nat)  : Met l yX6_out wsX6_out ({ frames := 1, cells := 0, slots := 0, locals := 21 }) (va_Pc [.ref x, .int p0] (fun U => U.heap.size = sz ∧ va_P (dC, dI) vwCl [(x, .inr (6, [.ref tb, .ref pi, .ref gr, .ref wi, .ref me, .ref pu, .int 0])), (wi, .inr (5, [.ref pi, .ref wa, .long 0])), (wa, .inl (cw, 64, .inr (.inl (fun _ => 0))))] U.heap ∧ va_K (dC, dI) vwCl [(cw, .long)] U ∧ va_D (fun _ => True) [(x, .inr (6, [.ref tb, .ref pi, .ref gr, .ref wi, .ref me, .ref pu, .int 0])), (wi, .inr (5, [.ref pi, .ref wa, .long 0])), (wa, .inl (cw, 64, .inr (.inl (fun _ => 0))))])) (va_Qi (fun (r : Int32) (_ : Unit) => r = sp_out p0) (fun (u : Unit) (t : State) => va_P (dC, dI) vwCl [] t.heap ∧ va_K (dC, dI) vwCl [] t ∧ va_D (va_A [(x, .inr (6, [.ref tb, .ref pi, .ref gr, .ref wi, .ref me, .ref pu, .int 0])), (wi, .inr (5, [.ref pi, .ref wa, .long 0])), (wa, .inl (cw, 64, .inr (.inl (fun _ => 0))))] sz) []) (va_A [(x, .inr (6, [.ref tb, .ref pi, .ref gr, .ref wi, .ref me, .ref pu, .int 0])), (wi, .inr (5, [.ref pi, .ref wa, .long 0])), (wa, .inl (cw, 64, .inr (.inl (fun _ => 0))))] sz)) 0 0 (va_A [(x, .inr (6, [.ref tb, .ref pi, .ref gr, .ref wi, .ref me, .ref pu, .int 0])), (wi, .inr (5, [.ref pi, .ref wa, .long 0])), (wa, .inl (cw, 64, .inr (.inl (fun _ => 0))))] sz) := by
  refine Met.ofW (cc := cX6_out) (maxL := 2) (ret := (some .int)) (by decide) rfl ?_
  intro p e s m args below meth c s₁ B hml hv
  obtain ⟨rfl, hsz, hP, hK, hD0⟩ := hv
  have hx := B.exec
  have hb := B.bytes
  have hr := B.returns
  have hts := atoms_spec (ws := wsX6_out) B.pre
  have hown : s.vm.findClass RX6 = some m.cls := findClass_of_methodNamed B.named
  have hlocks := B.notSynchronized
  subst hsz
  have hD := hD0.self (sz := s.heap.size)
  generalize hAe : va_A [(x, .inr (6, [.ref tb, .ref pi, .ref gr, .ref wi, .ref me, .ref pu, .int 0])), (wi, .inr (5, [.ref pi, .ref wa, .long 0])), (wa, .inl (cw, 64, .inr (.inl (fun _ => 0))))] s.heap.size = A at hD ⊢
  have hA : ∀ q : Nat, s.heap.size ≤ q → A q := fun q h => by rw [← hAe]; exact Or.inr h
  have hS : va_S A s.heap s.heap [] := va_S.rf
  have hP : va_P (dC, dI) vwCl [(x, .inr (6, [.ref tb, .ref pi, .ref gr, .ref wi, .ref me, .ref pu, .int 0])), (wi, .inr (5, [.ref pi, .ref wa, .long 0])), (wa, .inl (cw, 64, .inr (.inl (fun _ => 0))))] s.heap := hP
  have hl := lv_entry ([.ref x, .int p0]) (n := 2) (Nat.le_of_ble_eq_true rfl)
  rw [lg_entry_eq]
  generalize (lg_sl ([.ref x, .int p0]) ++ List.replicate (2 - (lg_sl ([.ref x, .int p0])).length) Slot.unset).toArray = ls at hl ⊢
  have hl : lv_has ls 2 [(0, .ref x), (1, .int p0)] := hl
  refine lv_iload_n hx hb dX6_out_0 rfl (lv_at hl 1 rfl) ?_
  have hPc := hP.sub (ws' := []) [] rfl
  have hDc := hD.sub (ws' := []) [] (by decide) rfl
  have hKc := hK.sub (tys' := []) [] rfl
  have hFc := va_free (wc := []) hD hS hA [] rfl
  refine va_calli (va_runS (As := [.int p0]) (rest := []) ⟨hx, hb, hml, hown, hts⟩ (k_exists l dC dI x tb ta pi pb pa pr gr gb ga wi wa me rb ra mb ma qb qa pu ct cp cr cg cw c1 c2 c3 p0 s.heap.size) (va_cwS 1 hts gX6_out_X5_exists rfl rfl rfl (by decide +kernel) ⟨Nat.le_of_ble_eq_true rfl, Nat.le_of_ble_eq_true rfl⟩) ⟨fun a U g mk q => by obtain ⟨q0, q1, qP, qK, qD⟩ := q; exact ⟨q0, q1, qP, va_K.moved (u := U) (U := U.calling g mk a) (Vm.Alike.refl U.vm) qK, qD⟩, fun U hU hW => ⟨rfl, by rw [hU], by rw [hU]; exact hPc, va_K.moved hW.alike hKc, hDc.weaken (fun _ _ _ _ => trivial)⟩⟩ rfl rfl hl.1 rfl (lv_room (Nat.le_of_ble_eq_true rfl)) dX6_out_1 ⟨Nat.le_of_ble_eq_true rfl, Nat.le_of_ble_eq_true rfl⟩) hS (fun q _ h => hFc q h) hFc (fun r_1 u t H1 locs ht hvm hw hB hz1 hk1 hS => ?_)
  obtain ⟨hP1, hK1, hD1⟩ := hB
  rw [ht] at hP1
  have hK1 := va_K.moved hvm.symm hK1
  try dsimp only at hw
  obtain ⟨hP, hD⟩ := va_join (wr := [(x, .inr (6, [.ref tb, .ref pi, .ref gr, .ref wi, .ref me, .ref pu, .int 0])), (wi, .inr (5, [.ref pi, .ref wa, .long 0])), (wa, .inl (cw, 64, .inr (.inl (fun _ => 0))))]) (w1 := []) hP hD [] [0, 1, 2] rfl rfl (by decide) (by decide) hk1 hFc hP1 hD1
  have hK := (hK.sub (tys' := [(cw, .long)]) [0] rfl).app hK1
  generalize H1 = H at hP hS ⊢
  have hP : va_P (dC, dI) vwCl [(x, .inr (6, [.ref tb, .ref pi, .ref gr, .ref wi, .ref me, .ref pu, .int 0])), (wi, .inr (5, [.ref pi, .ref wa, .long 0])), (wa, .inl (cw, 64, .inr (.inl (fun _ => 0))))] H := hP
  have hD : va_D A [(x, .inr (6, [.ref tb, .ref pi, .ref gr, .ref wi, .ref me, .ref pu, .int 0])), (wi, .inr (5, [.ref pi, .ref wa, .long 0])), (wa, .inl (cw, 64, .inr (.inl (fun _ => 0))))] := hD
  have hK : va_K (dC, dI) vwCl [(cw, .long)] s := hK
  have hw_2 := hw
  rcases hw_2 with ⟨rfl, h8, h9⟩ | ⟨rfl, h8⟩
  · refine lv_if_eq (tgt := 18) hx hb dX6_out_4 (by decide) (fun h => absurd h (by decide)) (fun _ => ?_)
    refine lv_aload_n hx hb dX6_out_7 rfl (lv_at hl 0 rfl) ?_
    refine va_get (D := (dC, dI)) (ci := 6) (v := .ref wi) (C := RX6) (T := TX6) (N := 7) hx hb hts in_X6_out_X6 hown hK hP 0 rfl rfl 3 (by decide) (hts (.fieldLink RX6 37 "WorkspaceBox" "wires" "LWorkspaceBox$Wires;") (by decide +kernel)) (fun _ h9 => h9) rfl dX6_out_8 ?_
    refine lv_iload_n hx hb dX6_out_11 rfl (lv_at hl 1 rfl) ?_
    have hPc := hP.sub (ws' := [(wi, .inr (5, [.ref pi, .ref wa, .long 0])), (wa, .inl (cw, 64, .inr (.inl (fun _ => 0))))]) [1, 2] rfl
    have hDc := hD.sub (ws' := [(wi, .inr (5, [.ref pi, .ref wa, .long 0])), (wa, .inl (cw, 64, .inr (.inl (fun _ => 0))))]) [1, 2] (by decide) rfl
    have hKc := hK.sub (tys' := [(cw, .long)]) [0] rfl
    have hFc := va_free (wc := [(wi, .inr (5, [.ref pi, .ref wa, .long 0])), (wa, .inl (cw, 64, .inr (.inl (fun _ => 0))))]) hD hS hA [1, 2] rfl
    refine va_calli (va_runV (As := [.int p0]) (rest := []) ⟨hx, hb, hml, hown, hts⟩ (k_sent l dC dI x tb ta pi pb pa pr gr gb ga wi wa me rb ra mb ma qb qa pu ct cp cr cg cw c1 c2 c3 p0 H.size) (cwV 1 hts gX6_out_X5_sent rfl rfl rfl (by decide +kernel) ⟨Nat.le_of_ble_eq_true rfl, Nat.le_of_ble_eq_true rfl⟩) ⟨fun a U g mk q => by obtain ⟨q0, q1, qP, qK, qD⟩ := q; exact ⟨q0, q1, qP, va_K.moved (u := U) (U := U.calling g mk a) (Vm.Alike.refl U.vm) qK, qD⟩, va_recv hKc hPc (ci := 5) (q0 := 0) rfl rfl, fun U hU hW => ⟨rfl, by rw [hU], by rw [hU]; exact hPc, va_K.moved hW.alike hKc, hDc.weaken (fun _ _ _ _ => trivial)⟩⟩ rfl rfl hl.1 rfl (lv_room (Nat.le_of_ble_eq_true rfl)) dX6_out_12 ⟨Nat.le_of_ble_eq_true rfl, Nat.le_of_ble_eq_true rfl⟩) hS (fun q _ h => hFc q h) hFc (fun r_3 u t H1 locs ht hvm hw hB hz1 hk1 hS => ?_)
    obtain ⟨hP1, hK1, hD1⟩ := hB
    rw [ht] at hP1
    have hK1 := va_K.moved hvm.symm hK1
    try dsimp only at hw
    obtain ⟨hP, hD⟩ := va_join (wr := [(x, .inr (6, [.ref tb, .ref pi, .ref gr, .ref wi, .ref me, .ref pu, .int 0]))]) (w1 := [(wi, .inr (5, [.ref pi, .ref wa, .long 0])), (wa, .inl (cw, 64, .inr (.inl (fun _ => 0))))]) hP hD [1, 2] [0] rfl rfl (by decide) (by decide) hk1 hFc hP1 hD1
    have hK := (hK.sub (tys' := [(cw, .long)]) [0] rfl).app hK1
    generalize H1 = H at hP hS ⊢
    have hP : va_P (dC, dI) vwCl [(x, .inr (6, [.ref tb, .ref pi, .ref gr, .ref wi, .ref me, .ref pu, .int 0])), (wi, .inr (5, [.ref pi, .ref wa, .long 0])), (wa, .inl (cw, 64, .inr (.inl (fun _ => 0))))] H := hP
    have hD : va_D A [(x, .inr (6, [.ref tb, .ref pi, .ref gr, .ref wi, .ref me, .ref pu, .int 0])), (wi, .inr (5, [.ref pi, .ref wa, .long 0])), (wa, .inl (cw, 64, .inr (.inl (fun _ => 0))))] := hD
    have hK : va_K (dC, dI) vwCl [(cw, .long), (cw, .long)] s := hK
    have hw_4 := hw
    obtain rfl := hw_4
    refine lv_goto (tgt := 19) hx hb dX6_out_15 (by decide) ?_
    have hP9 := hP.sub (ws' := []) [] rfl
    have hD9 := hD.sub (ws' := []) [] (by decide) rfl
    have hK9 := hK.sub (tys' := []) [] rfl
    exact W.iret (v := 0) hx hb hr (fun t ht hW => ⟨⟨0, (), rfl, by (first | decide | ((try subst_vars); (try dsimp only); (try simp only [fa_lt, fa_le, fa_eq, tI_m1, tI_0, tI_1, tI_2, tI_3, tI_4, tI_5, tI_7, tI_8, tI_10, tI_15, tI_16, tI_20, tI_31, tI_125, tI_191, tI_255, tI_256, tI_980, tI_1000, tI_4095, tI_4096, tI_8191, tI_8192, tI_16383, tI_16384, tI_32767, tI_32768, tI_33791, tI_33792, tI_40959, tI_40960, tI_65535, tI_65536] at hw_2); (try simp only [fa_lt, fa_le, fa_eq, tI_m1, tI_0, tI_1, tI_2, tI_3, tI_4, tI_5, tI_7, tI_8, tI_10, tI_15, tI_16, tI_20, tI_31, tI_125, tI_191, tI_255, tI_256, tI_980, tI_1000, tI_4095, tI_4096, tI_8191, tI_8192, tI_16383, tI_16384, tI_32767, tI_32768, tI_33791, tI_33792, tI_40959, tI_40960, tI_65535, tI_65536] at h8); (try simp only [fa_lt, fa_le, fa_eq, tI_m1, tI_0, tI_1, tI_2, tI_3, tI_4, tI_5, tI_7, tI_8, tI_10, tI_15, tI_16, tI_20, tI_31, tI_125, tI_191, tI_255, tI_256, tI_980, tI_1000, tI_4095, tI_4096, tI_8191, tI_8192, tI_16383, tI_16384, tI_32767, tI_32768, tI_33791, tI_33792, tI_40959, tI_40960, tI_65535, tI_65536] at h9); (try simp only [fa_lt, fa_le, fa_eq, tI_m1, tI_0, tI_1, tI_2, tI_3, tI_4, tI_5, tI_7, tI_8, tI_10, tI_15, tI_16, tI_20, tI_31, tI_125, tI_191, tI_255, tI_256, tI_980, tI_1000, tI_4095, tI_4096, tI_8191, tI_8192, tI_16383, tI_16384, tI_32767, tI_32768, tI_33791, tI_33792, tI_40959, tI_40960, tI_65535, tI_65536] at hw_4); (have k0 := tI_0); (have k1 := tI_1); (have k2 := tI_2); (have k3 := tI_3); unfold sp_out; (repeat' split) <;> first | rfl | omega | (simp only [fa_lt, fa_le, fa_eq, tI_m1, tI_0, tI_1, tI_2, tI_3, tI_4, tI_5, tI_7, tI_8, tI_10, tI_15, tI_16, tI_20, tI_31, tI_125, tI_191, tI_255, tI_256, tI_980, tI_1000, tI_4095, tI_4096, tI_8191, tI_8192, tI_16383, tI_16384, tI_32767, tI_32768, tI_33791, tI_33792, tI_40959, tI_40960, tI_65535, tI_65536]; omega))), by rw [ht]; exact hP9, va_K.moved hW.alike hK9, hD9⟩, hS.F ht⟩) hS.2.2 dX6_out_19
  · refine lv_if_eq (tgt := 18) hx hb dX6_out_4 (by decide) (fun _ => ?_) (fun h => absurd (by decide) h)
    refine lv_iconst (v := (-1)) hx hb dX6_out_18 (by decide) ?_
    have hP9 := hP.sub (ws' := []) [] rfl
    have hD9 := hD.sub (ws' := []) [] (by decide) rfl
    have hK9 := hK.sub (tys' := []) [] rfl
    exact W.iret (v := (-1)) hx hb hr (fun t ht hW => ⟨⟨(-1), (), rfl, by (first | decide | ((try subst_vars); (try dsimp only); (try simp only [fa_lt, fa_le, fa_eq, tI_m1, tI_0, tI_1, tI_2, tI_3, tI_4, tI_5, tI_7, tI_8, tI_10, tI_15, tI_16, tI_20, tI_31, tI_125, tI_191, tI_255, tI_256, tI_980, tI_1000, tI_4095, tI_4096, tI_8191, tI_8192, tI_16383, tI_16384, tI_32767, tI_32768, tI_33791, tI_33792, tI_40959, tI_40960, tI_65535, tI_65536] at hw_2); (try simp only [fa_lt, fa_le, fa_eq, tI_m1, tI_0, tI_1, tI_2, tI_3, tI_4, tI_5, tI_7, tI_8, tI_10, tI_15, tI_16, tI_20, tI_31, tI_125, tI_191, tI_255, tI_256, tI_980, tI_1000, tI_4095, tI_4096, tI_8191, tI_8192, tI_16383, tI_16384, tI_32767, tI_32768, tI_33791, tI_33792, tI_40959, tI_40960, tI_65535, tI_65536] at h8); (have k0 := tI_0); (have k1 := tI_1); (have k2 := tI_2); (have k3 := tI_3); unfold sp_out; (repeat' split) <;> first | rfl | omega | (simp only [fa_lt, fa_le, fa_eq, tI_m1, tI_0, tI_1, tI_2, tI_3, tI_4, tI_5, tI_7, tI_8, tI_10, tI_15, tI_16, tI_20, tI_31, tI_125, tI_191, tI_255, tI_256, tI_980, tI_1000, tI_4095, tI_4096, tI_8191, tI_8192, tI_16383, tI_16384, tI_32767, tI_32768, tI_33791, tI_33792, tI_40959, tI_40960, tI_65535, tI_65536]; omega))), by rw [ht]; exact hP9, va_K.moved hW.alike hK9, hD9⟩, hS.F ht⟩) hS.2.2 dX6_out_19

theorem in_X5_coming_X5 : ∀ w ∈ wsX50, w ∈ wsX5_coming := by decide +kernel
theorem in_X5_coming_X3 : ∀ w ∈ wsX30, w ∈ wsX5_coming := by decide +kernel
set_option maxHeartbeats 1000000 in
set_option maxRecDepth 100000 in
theorem k_coming (l : Launch) (dC : Nat → ClassId) (dI : Nat → Nat → Nat) (x tb ta pi pb pa pr gr gb ga wi wa me rb ra mb ma qb qa pu : Nat) (ct cp cr cg cw c1 c2 c3 : ClassId) (p0 : Int32) (sz : Nat)  : Met l yX5_coming wsX5_coming ({ frames := 1, cells := 0, slots := 0, locals := 21 }) (va_Pc [.ref wi, .int p0] (fun U => U.heap.size = sz ∧ va_P (dC, dI) vwCl [(wi, .inr (5, [.ref pi, .ref wa, .long 0])), (wa, .inl (cw, 64, .inr (.inl (fun _ => 0)))), (pi, .inr (3, [.ref pb, .ref pr, .int 0, .int 0, .int (-1), .int 0]))] U.heap ∧ va_K (dC, dI) vwCl [(cw, .long)] U ∧ va_D (fun _ => True) [(wi, .inr (5, [.ref pi, .ref wa, .long 0])), (wa, .inl (cw, 64, .inr (.inl (fun _ => 0)))), (pi, .inr (3, [.ref pb, .ref pr, .int 0, .int 0, .int (-1), .int 0]))])) (va_Qi (fun (r : Int32) (_ : Unit) => r = sp_coming p0) (fun (u : Unit) (t : State) => va_P (dC, dI) vwCl [] t.heap ∧ va_K (dC, dI) vwCl [] t ∧ va_D (va_A [(wi, .inr (5, [.ref pi, .ref wa, .long 0])), (wa, .inl (cw, 64, .inr (.inl (fun _ => 0)))), (pi, .inr (3, [.ref pb, .ref pr, .int 0, .int 0, .int (-1), .int 0]))] sz) []) (va_A [(wi, .inr (5, [.ref pi, .ref wa, .long 0])), (wa, .inl (cw, 64, .inr (.inl (fun _ => 0)))), (pi, .inr (3, [.ref pb, .ref pr, .int 0, .int 0, .int (-1), .int 0]))] sz)) 0 0 (va_A [(wi, .inr (5, [.ref pi, .ref wa, .long 0])), (wa, .inl (cw, 64, .inr (.inl (fun _ => 0)))), (pi, .inr (3, [.ref pb, .ref pr, .int 0, .int 0, .int (-1), .int 0]))] sz) := by
  refine Met.ofW (cc := cX5_coming) (maxL := 3) (ret := (some .int)) (by decide) rfl ?_
  intro p e s m args below meth c s₁ B hml hv
  obtain ⟨rfl, hsz, hP, hK, hD0⟩ := hv
  have hx := B.exec
  have hb := B.bytes
  have hr := B.returns
  have hts := atoms_spec (ws := wsX5_coming) B.pre
  have hown : s.vm.findClass RX5 = some m.cls := findClass_of_methodNamed B.named
  have hlocks := B.notSynchronized
  subst hsz
  have hD := hD0.self (sz := s.heap.size)
  generalize hAe : va_A [(wi, .inr (5, [.ref pi, .ref wa, .long 0])), (wa, .inl (cw, 64, .inr (.inl (fun _ => 0)))), (pi, .inr (3, [.ref pb, .ref pr, .int 0, .int 0, .int (-1), .int 0]))] s.heap.size = A at hD ⊢
  have hA : ∀ q : Nat, s.heap.size ≤ q → A q := fun q h => by rw [← hAe]; exact Or.inr h
  have hS : va_S A s.heap s.heap [] := va_S.rf
  have hP : va_P (dC, dI) vwCl [(wi, .inr (5, [.ref pi, .ref wa, .long 0])), (wa, .inl (cw, 64, .inr (.inl (fun _ => 0)))), (pi, .inr (3, [.ref pb, .ref pr, .int 0, .int 0, .int (-1), .int 0]))] s.heap := hP
  have hl := lv_entry ([.ref wi, .int p0]) (n := 3) (Nat.le_of_ble_eq_true rfl)
  rw [lg_entry_eq]
  generalize (lg_sl ([.ref wi, .int p0]) ++ List.replicate (3 - (lg_sl ([.ref wi, .int p0])).length) Slot.unset).toArray = ls at hl ⊢
  have hl : lv_has ls 3 [(0, .ref wi), (1, .int p0)] := hl
  refine lv_iload_n hx hb dX5_coming_0 rfl (lv_at hl 1 rfl) ?_
  refine lv_iconst (v := 2) hx hb dX5_coming_1 (by decide) ?_
  refine lv_icmp_ne (tgt := 21) hx hb dX5_coming_2 (by decide) (fun c2_1 => ?_) (fun c2_1 => ?_)
  · refine lv_iload_n hx hb dX5_coming_21 rfl (lv_at hl 1 rfl) ?_
    refine lv_iconst (v := 3) hx hb dX5_coming_22 (by decide) ?_
    refine lv_icmp_lt (tgt := 32) hx hb dX5_coming_23 (by decide) (fun c23_2 => ?_) (fun c23_2 => ?_)
    · refine lv_aload_n hx hb dX5_coming_32 rfl (lv_at hl 0 rfl) ?_
      refine lv_iload_n hx hb dX5_coming_33 rfl (lv_at hl 1 rfl) ?_
      have hPc := hP.sub (ws' := [(wi, .inr (5, [.ref pi, .ref wa, .long 0])), (wa, .inl (cw, 64, .inr (.inl (fun _ => 0))))]) [0, 1] rfl
      have hDc := hD.sub (ws' := [(wi, .inr (5, [.ref pi, .ref wa, .long 0])), (wa, .inl (cw, 64, .inr (.inl (fun _ => 0))))]) [0, 1] (by decide) rfl
      have hKc := hK.sub (tys' := [(cw, .long)]) [0] rfl
      have hFc := va_free (wc := [(wi, .inr (5, [.ref pi, .ref wa, .long 0])), (wa, .inl (cw, 64, .inr (.inl (fun _ => 0))))]) hD hS hA [0, 1] rfl
      refine va_calli (va_runV (As := [.int p0]) (rest := []) ⟨hx, hb, hml, hown, hts⟩ (k_sent l dC dI x tb ta pi pb pa pr gr gb ga wi wa me rb ra mb ma qb qa pu ct cp cr cg cw c1 c2 c3 p0 s.heap.size) (cwV 1 hts gX5_coming_X5_sent rfl rfl rfl (by decide +kernel) ⟨Nat.le_of_ble_eq_true rfl, Nat.le_of_ble_eq_true rfl⟩) ⟨fun a U g mk q => by obtain ⟨q0, q1, qP, qK, qD⟩ := q; exact ⟨q0, q1, qP, va_K.moved (u := U) (U := U.calling g mk a) (Vm.Alike.refl U.vm) qK, qD⟩, va_recv hKc hPc (ci := 5) (q0 := 0) rfl rfl, fun U hU hW => ⟨rfl, by rw [hU], by rw [hU]; exact hPc, va_K.moved hW.alike hKc, hDc.weaken (fun _ _ _ _ => trivial)⟩⟩ rfl rfl hl.1 rfl (lv_room (Nat.le_of_ble_eq_true rfl)) dX5_coming_34 ⟨Nat.le_of_ble_eq_true rfl, Nat.le_of_ble_eq_true rfl⟩) hS (fun q _ h => hFc q h) hFc (fun r_3 u t H1 locs ht hvm hw hB hz1 hk1 hS => ?_)
      obtain ⟨hP1, hK1, hD1⟩ := hB
      rw [ht] at hP1
      have hK1 := va_K.moved hvm.symm hK1
      try dsimp only at hw
      obtain ⟨hP, hD⟩ := va_join (wr := [(pi, .inr (3, [.ref pb, .ref pr, .int 0, .int 0, .int (-1), .int 0]))]) (w1 := [(wi, .inr (5, [.ref pi, .ref wa, .long 0])), (wa, .inl (cw, 64, .inr (.inl (fun _ => 0))))]) hP hD [0, 1] [2] rfl rfl (by decide) (by decide) hk1 hFc hP1 hD1
      have hK := (hK.sub (tys' := [(cw, .long)]) [0] rfl).app hK1
      generalize H1 = H at hP hS ⊢
      have hP : va_P (dC, dI) vwCl [(pi, .inr (3, [.ref pb, .ref pr, .int 0, .int 0, .int (-1), .int 0])), (wi, .inr (5, [.ref pi, .ref wa, .long 0])), (wa, .inl (cw, 64, .inr (.inl (fun _ => 0))))] H := hP
      have hD : va_D A [(pi, .inr (3, [.ref pb, .ref pr, .int 0, .int 0, .int (-1), .int 0])), (wi, .inr (5, [.ref pi, .ref wa, .long 0])), (wa, .inl (cw, 64, .inr (.inl (fun _ => 0))))] := hD
      have hK : va_K (dC, dI) vwCl [(cw, .long), (cw, .long)] s := hK
      have hw_4 := hw
      obtain rfl := hw_4
      have hP9 := hP.sub (ws' := []) [] rfl
      have hD9 := hD.sub (ws' := []) [] (by decide) rfl
      have hK9 := hK.sub (tys' := []) [] rfl
      exact W.iret (v := 0) hx hb hr (fun t ht hW => ⟨⟨0, (), rfl, by (first | decide | ((try subst_vars); (try dsimp only); (try simp only [fa_lt, fa_le, fa_eq, tI_m1, tI_0, tI_1, tI_2, tI_3, tI_4, tI_5, tI_7, tI_8, tI_10, tI_15, tI_16, tI_20, tI_31, tI_125, tI_191, tI_255, tI_256, tI_980, tI_1000, tI_4095, tI_4096, tI_8191, tI_8192, tI_16383, tI_16384, tI_32767, tI_32768, tI_33791, tI_33792, tI_40959, tI_40960, tI_65535, tI_65536] at c2_1); (try simp only [fa_lt, fa_le, fa_eq, tI_m1, tI_0, tI_1, tI_2, tI_3, tI_4, tI_5, tI_7, tI_8, tI_10, tI_15, tI_16, tI_20, tI_31, tI_125, tI_191, tI_255, tI_256, tI_980, tI_1000, tI_4095, tI_4096, tI_8191, tI_8192, tI_16383, tI_16384, tI_32767, tI_32768, tI_33791, tI_33792, tI_40959, tI_40960, tI_65535, tI_65536] at c23_2); (try simp only [fa_lt, fa_le, fa_eq, tI_m1, tI_0, tI_1, tI_2, tI_3, tI_4, tI_5, tI_7, tI_8, tI_10, tI_15, tI_16, tI_20, tI_31, tI_125, tI_191, tI_255, tI_256, tI_980, tI_1000, tI_4095, tI_4096, tI_8191, tI_8192, tI_16383, tI_16384, tI_32767, tI_32768, tI_33791, tI_33792, tI_40959, tI_40960, tI_65535, tI_65536] at hw_4); (have k0 := tI_0); (have k1 := tI_1); (have k2 := tI_2); (have k3 := tI_3); unfold sp_coming; (repeat' split) <;> first | rfl | omega | (simp only [fa_lt, fa_le, fa_eq, tI_m1, tI_0, tI_1, tI_2, tI_3, tI_4, tI_5, tI_7, tI_8, tI_10, tI_15, tI_16, tI_20, tI_31, tI_125, tI_191, tI_255, tI_256, tI_980, tI_1000, tI_4095, tI_4096, tI_8191, tI_8192, tI_16383, tI_16384, tI_32767, tI_32768, tI_33791, tI_33792, tI_40959, tI_40960, tI_65535, tI_65536]; omega))), by rw [ht]; exact hP9, va_K.moved hW.alike hK9, hD9⟩, hS.F ht⟩) hS.2.2 dX5_coming_37
    · refine lv_iload_n hx hb dX5_coming_26 rfl (lv_at hl 1 rfl) ?_
      refine lv_bipush (v := 10) hx hb dX5_coming_27 (by decide) ?_
      refine lv_icmp_le (tgt := 38) hx hb dX5_coming_29 (by decide) (fun c29_5 => ?_) (fun c29_5 => ?_)
      · refine lv_aload_n hx hb dX5_coming_38 rfl (lv_at hl 0 rfl) ?_
        refine lv_bipush (v := 18) hx hb dX5_coming_39 (by decide) ?_
        have hPc := hP.sub (ws' := [(wi, .inr (5, [.ref pi, .ref wa, .long 0])), (wa, .inl (cw, 64, .inr (.inl (fun _ => 0))))]) [0, 1] rfl
        have hDc := hD.sub (ws' := [(wi, .inr (5, [.ref pi, .ref wa, .long 0])), (wa, .inl (cw, 64, .inr (.inl (fun _ => 0))))]) [0, 1] (by decide) rfl
        have hKc := hK.sub (tys' := [(cw, .long)]) [0] rfl
        have hFc := va_free (wc := [(wi, .inr (5, [.ref pi, .ref wa, .long 0])), (wa, .inl (cw, 64, .inr (.inl (fun _ => 0))))]) hD hS hA [0, 1] rfl
        refine va_calli (va_runV (As := [.int 18]) (rest := []) ⟨hx, hb, hml, hown, hts⟩ (k_sent l dC dI x tb ta pi pb pa pr gr gb ga wi wa me rb ra mb ma qb qa pu ct cp cr cg cw c1 c2 c3 18 s.heap.size) (cwV 1 hts gX5_coming_X5_sent rfl rfl rfl (by decide +kernel) ⟨Nat.le_of_ble_eq_true rfl, Nat.le_of_ble_eq_true rfl⟩) ⟨fun a U g mk q => by obtain ⟨q0, q1, qP, qK, qD⟩ := q; exact ⟨q0, q1, qP, va_K.moved (u := U) (U := U.calling g mk a) (Vm.Alike.refl U.vm) qK, qD⟩, va_recv hKc hPc (ci := 5) (q0 := 0) rfl rfl, fun U hU hW => ⟨rfl, by rw [hU], by rw [hU]; exact hPc, va_K.moved hW.alike hKc, hDc.weaken (fun _ _ _ _ => trivial)⟩⟩ rfl rfl hl.1 rfl (lv_room (Nat.le_of_ble_eq_true rfl)) dX5_coming_41 ⟨Nat.le_of_ble_eq_true rfl, Nat.le_of_ble_eq_true rfl⟩) hS (fun q _ h => hFc q h) hFc (fun r_6 u t H1 locs ht hvm hw hB hz1 hk1 hS => ?_)
        obtain ⟨hP1, hK1, hD1⟩ := hB
        rw [ht] at hP1
        have hK1 := va_K.moved hvm.symm hK1
        try dsimp only at hw
        obtain ⟨hP, hD⟩ := va_join (wr := [(pi, .inr (3, [.ref pb, .ref pr, .int 0, .int 0, .int (-1), .int 0]))]) (w1 := [(wi, .inr (5, [.ref pi, .ref wa, .long 0])), (wa, .inl (cw, 64, .inr (.inl (fun _ => 0))))]) hP hD [0, 1] [2] rfl rfl (by decide) (by decide) hk1 hFc hP1 hD1
        have hK := (hK.sub (tys' := [(cw, .long)]) [0] rfl).app hK1
        generalize H1 = H at hP hS ⊢
        have hP : va_P (dC, dI) vwCl [(pi, .inr (3, [.ref pb, .ref pr, .int 0, .int 0, .int (-1), .int 0])), (wi, .inr (5, [.ref pi, .ref wa, .long 0])), (wa, .inl (cw, 64, .inr (.inl (fun _ => 0))))] H := hP
        have hD : va_D A [(pi, .inr (3, [.ref pb, .ref pr, .int 0, .int 0, .int (-1), .int 0])), (wi, .inr (5, [.ref pi, .ref wa, .long 0])), (wa, .inl (cw, 64, .inr (.inl (fun _ => 0))))] := hD
        have hK : va_K (dC, dI) vwCl [(cw, .long), (cw, .long)] s := hK
        have hw_7 := hw
        obtain rfl := hw_7
        refine lv_iconst (v := 2) hx hb dX5_coming_44 (by decide) ?_
        refine lv_aload_n hx hb dX5_coming_45 rfl (lv_at hl 0 rfl) ?_
        refine lv_bipush (v := 19) hx hb dX5_coming_46 (by decide) ?_
        have hPc := hP.sub (ws' := [(wi, .inr (5, [.ref pi, .ref wa, .long 0])), (wa, .inl (cw, 64, .inr (.inl (fun _ => 0))))]) [1, 2] rfl
        have hDc := hD.sub (ws' := [(wi, .inr (5, [.ref pi, .ref wa, .long 0])), (wa, .inl (cw, 64, .inr (.inl (fun _ => 0))))]) [1, 2] (by decide) rfl
        have hKc := hK.sub (tys' := [(cw, .long)]) [0] rfl
        have hFc := va_free (wc := [(wi, .inr (5, [.ref pi, .ref wa, .long 0])), (wa, .inl (cw, 64, .inr (.inl (fun _ => 0))))]) hD hS hA [1, 2] rfl
        refine va_calli (va_runV (As := [.int 19]) (rest := [.int 2, .int 0]) ⟨hx, hb, hml, hown, hts⟩ (k_sent l dC dI x tb ta pi pb pa pr gr gb ga wi wa me rb ra mb ma qb qa pu ct cp cr cg cw c1 c2 c3 19 H.size) (cwV 1 hts gX5_coming_X5_sent rfl rfl rfl (by decide +kernel) ⟨Nat.le_of_ble_eq_true rfl, Nat.le_of_ble_eq_true rfl⟩) ⟨fun a U g mk q => by obtain ⟨q0, q1, qP, qK, qD⟩ := q; exact ⟨q0, q1, qP, va_K.moved (u := U) (U := U.calling g mk a) (Vm.Alike.refl U.vm) qK, qD⟩, va_recv hKc hPc (ci := 5) (q0 := 0) rfl rfl, fun U hU hW => ⟨rfl, by rw [hU], by rw [hU]; exact hPc, va_K.moved hW.alike hKc, hDc.weaken (fun _ _ _ _ => trivial)⟩⟩ rfl rfl hl.1 rfl (lv_room (Nat.le_of_ble_eq_true rfl)) dX5_coming_48 ⟨Nat.le_of_ble_eq_true rfl, Nat.le_of_ble_eq_true rfl⟩) hS (fun q _ h => hFc q h) hFc (fun r_8 u t H1 locs ht hvm hw hB hz1 hk1 hS => ?_)
        obtain ⟨hP1, hK1, hD1⟩ := hB
        rw [ht] at hP1
        have hK1 := va_K.moved hvm.symm hK1
        try dsimp only at hw
        obtain ⟨hP, hD⟩ := va_join (wr := [(pi, .inr (3, [.ref pb, .ref pr, .int 0, .int 0, .int (-1), .int 0]))]) (w1 := [(wi, .inr (5, [.ref pi, .ref wa, .long 0])), (wa, .inl (cw, 64, .inr (.inl (fun _ => 0))))]) hP hD [1, 2] [0] rfl rfl (by decide) (by decide) hk1 hFc hP1 hD1
        have hK := (hK.sub (tys' := [(cw, .long), (cw, .long)]) [0, 1] rfl).app hK1
        generalize H1 = H at hP hS ⊢
        have hP : va_P (dC, dI) vwCl [(pi, .inr (3, [.ref pb, .ref pr, .int 0, .int 0, .int (-1), .int 0])), (wi, .inr (5, [.ref pi, .ref wa, .long 0])), (wa, .inl (cw, 64, .inr (.inl (fun _ => 0))))] H := hP
        have hD : va_D A [(pi, .inr (3, [.ref pb, .ref pr, .int 0, .int 0, .int (-1), .int 0])), (wi, .inr (5, [.ref pi, .ref wa, .long 0])), (wa, .inl (cw, 64, .inr (.inl (fun _ => 0))))] := hD
        have hK : va_K (dC, dI) vwCl [(cw, .long), (cw, .long), (cw, .long)] s := hK
        have hw_9 := hw
        obtain rfl := hw_9
        refine lv_imul hx hb dX5_coming_51 ?_
        refine lv_topi (fun y_10 ey_10 => ?_)
        obtain rfl : y_10 = 0 := ey_10.trans (by decide)
        refine lv_iadd hx hb dX5_coming_52 ?_
        refine lv_topi (fun y_11 ey_11 => ?_)
        obtain rfl : y_11 = 0 := ey_11.trans (by decide)
        refine lv_iconst (v := 4) hx hb dX5_coming_53 (by decide) ?_
        refine lv_aload_n hx hb dX5_coming_54 rfl (lv_at hl 0 rfl) ?_
        refine lv_bipush (v := 20) hx hb dX5_coming_55 (by decide) ?_
        have hPc := hP.sub (ws' := [(wi, .inr (5, [.ref pi, .ref wa, .long 0])), (wa, .inl (cw, 64, .inr (.inl (fun _ => 0))))]) [1, 2] rfl
        have hDc := hD.sub (ws' := [(wi, .inr (5, [.ref pi, .ref wa, .long 0])), (wa, .inl (cw, 64, .inr (.inl (fun _ => 0))))]) [1, 2] (by decide) rfl
        have hKc := hK.sub (tys' := [(cw, .long)]) [0] rfl
        have hFc := va_free (wc := [(wi, .inr (5, [.ref pi, .ref wa, .long 0])), (wa, .inl (cw, 64, .inr (.inl (fun _ => 0))))]) hD hS hA [1, 2] rfl
        refine va_calli (va_runV (As := [.int 20]) (rest := [.int 4, .int 0]) ⟨hx, hb, hml, hown, hts⟩ (k_sent l dC dI x tb ta pi pb pa pr gr gb ga wi wa me rb ra mb ma qb qa pu ct cp cr cg cw c1 c2 c3 20 H.size) (cwV 1 hts gX5_coming_X5_sent rfl rfl rfl (by decide +kernel) ⟨Nat.le_of_ble_eq_true rfl, Nat.le_of_ble_eq_true rfl⟩) ⟨fun a U g mk q => by obtain ⟨q0, q1, qP, qK, qD⟩ := q; exact ⟨q0, q1, qP, va_K.moved (u := U) (U := U.calling g mk a) (Vm.Alike.refl U.vm) qK, qD⟩, va_recv hKc hPc (ci := 5) (q0 := 0) rfl rfl, fun U hU hW => ⟨rfl, by rw [hU], by rw [hU]; exact hPc, va_K.moved hW.alike hKc, hDc.weaken (fun _ _ _ _ => trivial)⟩⟩ rfl rfl hl.1 rfl (lv_room (Nat.le_of_ble_eq_true rfl)) dX5_coming_57 ⟨Nat.le_of_ble_eq_true rfl, Nat.le_of_ble_eq_true rfl⟩) hS (fun q _ h => hFc q h) hFc (fun r_12 u t H1 locs ht hvm hw hB hz1 hk1 hS => ?_)
        obtain ⟨hP1, hK1, hD1⟩ := hB
        rw [ht] at hP1
        have hK1 := va_K.moved hvm.symm hK1
        try dsimp only at hw
        obtain ⟨hP, hD⟩ := va_join (wr := [(pi, .inr (3, [.ref pb, .ref pr, .int 0, .int 0, .int (-1), .int 0]))]) (w1 := [(wi, .inr (5, [.ref pi, .ref wa, .long 0])), (wa, .inl (cw, 64, .inr (.inl (fun _ => 0))))]) hP hD [1, 2] [0] rfl rfl (by decide) (by decide) hk1 hFc hP1 hD1
        have hK := (hK.sub (tys' := [(cw, .long), (cw, .long), (cw, .long)]) [0, 1, 2] rfl).app hK1
        generalize H1 = H at hP hS ⊢
        have hP : va_P (dC, dI) vwCl [(pi, .inr (3, [.ref pb, .ref pr, .int 0, .int 0, .int (-1), .int 0])), (wi, .inr (5, [.ref pi, .ref wa, .long 0])), (wa, .inl (cw, 64, .inr (.inl (fun _ => 0))))] H := hP
        have hD : va_D A [(pi, .inr (3, [.ref pb, .ref pr, .int 0, .int 0, .int (-1), .int 0])), (wi, .inr (5, [.ref pi, .ref wa, .long 0])), (wa, .inl (cw, 64, .inr (.inl (fun _ => 0))))] := hD
        have hK : va_K (dC, dI) vwCl [(cw, .long), (cw, .long), (cw, .long), (cw, .long)] s := hK
        have hw_13 := hw
        obtain rfl := hw_13
        refine lv_imul hx hb dX5_coming_60 ?_
        refine lv_topi (fun y_14 ey_14 => ?_)
        obtain rfl : y_14 = 0 := ey_14.trans (by decide)
        refine lv_iadd hx hb dX5_coming_61 ?_
        refine lv_topi (fun y_15 ey_15 => ?_)
        obtain rfl : y_15 = 0 := ey_15.trans (by decide)
        refine lv_istore_n (lv' := [(2, .int 0), (0, .ref wi), (1, .int p0)]) hx hb dX5_coming_62 rfl hl (by decide) rfl (fun ls hl => ?_)
        refine lv_aload_n hx hb dX5_coming_63 rfl (lv_at hl 1 rfl) ?_
        refine va_get (D := (dC, dI)) (ci := 5) (v := .long 0) (C := RX5) (T := TX5) (N := 3) hx hb hts in_X5_coming_X5 hown hK hP 1 rfl rfl 2 (by decide) (hts (.fieldLink RX5 29 "WorkspaceBox$Wires" "keysDown" "J") (by decide +kernel)) (fun _ h9 => h9) rfl dX5_coming_64 ?_
        refine lv_bipush (v := 8) hx hb dX5_coming_67 (by decide) ?_
        refine lv_iload_n hx hb dX5_coming_69 rfl (lv_at hl 0 rfl) ?_
        refine lv_imul hx hb dX5_coming_70 ?_
        refine lv_topi (fun y_16 ey_16 => ?_)
        obtain rfl : y_16 = 0 := ey_16.trans (by decide)
        refine lv_iload_n hx hb dX5_coming_71 rfl (lv_at hl 2 rfl) ?_
        refine lv_iadd hx hb dX5_coming_72 ?_
        refine lv_topi (fun y_17 ey_17 => ?_)
        refine lv_iconst (v := 3) hx hb dX5_coming_73 (by decide) ?_
        refine lv_isub hx hb dX5_coming_74 ?_
        refine lv_topi (fun y_18 ey_18 => ?_)
        refine lv_lushr hx hb dX5_coming_75 rfl ?_
        refine lv_topl (fun y_19 ey_19 => ?_)
        refine lv_lconst (v := 1) hx hb dX5_coming_76 (by decide) ?_
        refine lv_land hx hb dX5_coming_77 ?_
        refine lv_topl (fun y_20 ey_20 => ?_)
        rw [show y_20 = 0 from ey_20.trans (by subst_vars; exact sh2 _)]
        refine lv_lconst (v := 1) hx hb dX5_coming_78 (by decide) ?_
        refine W.lcmp hx hb dX5_coming_79 ?_
        refine lv_topi (fun y_21 ey_21 => ?_)
        obtain rfl : y_21 = (-1) := ey_21.trans (by decide)
        refine lv_if_ne (tgt := 87) hx hb dX5_coming_80 (by decide) (fun _ => ?_) (fun h => absurd h (by decide))
        refine lv_iconst (v := 1) hx hb dX5_coming_87 (by decide) ?_
        have hP9 := hP.sub (ws' := []) [] rfl
        have hD9 := hD.sub (ws' := []) [] (by decide) rfl
        have hK9 := hK.sub (tys' := []) [] rfl
        exact W.iret (v := 1) hx hb hr (fun t ht hW => ⟨⟨1, (), rfl, by (first | decide | ((try subst_vars); (try dsimp only); (try simp only [fa_lt, fa_le, fa_eq, tI_m1, tI_0, tI_1, tI_2, tI_3, tI_4, tI_5, tI_7, tI_8, tI_10, tI_15, tI_16, tI_20, tI_31, tI_125, tI_191, tI_255, tI_256, tI_980, tI_1000, tI_4095, tI_4096, tI_8191, tI_8192, tI_16383, tI_16384, tI_32767, tI_32768, tI_33791, tI_33792, tI_40959, tI_40960, tI_65535, tI_65536] at c2_1); (try simp only [fa_lt, fa_le, fa_eq, tI_m1, tI_0, tI_1, tI_2, tI_3, tI_4, tI_5, tI_7, tI_8, tI_10, tI_15, tI_16, tI_20, tI_31, tI_125, tI_191, tI_255, tI_256, tI_980, tI_1000, tI_4095, tI_4096, tI_8191, tI_8192, tI_16383, tI_16384, tI_32767, tI_32768, tI_33791, tI_33792, tI_40959, tI_40960, tI_65535, tI_65536] at c23_2); (try simp only [fa_lt, fa_le, fa_eq, tI_m1, tI_0, tI_1, tI_2, tI_3, tI_4, tI_5, tI_7, tI_8, tI_10, tI_15, tI_16, tI_20, tI_31, tI_125, tI_191, tI_255, tI_256, tI_980, tI_1000, tI_4095, tI_4096, tI_8191, tI_8192, tI_16383, tI_16384, tI_32767, tI_32768, tI_33791, tI_33792, tI_40959, tI_40960, tI_65535, tI_65536] at c29_5); (try simp only [fa_lt, fa_le, fa_eq, tI_m1, tI_0, tI_1, tI_2, tI_3, tI_4, tI_5, tI_7, tI_8, tI_10, tI_15, tI_16, tI_20, tI_31, tI_125, tI_191, tI_255, tI_256, tI_980, tI_1000, tI_4095, tI_4096, tI_8191, tI_8192, tI_16383, tI_16384, tI_32767, tI_32768, tI_33791, tI_33792, tI_40959, tI_40960, tI_65535, tI_65536] at hw_7); (try simp only [fa_lt, fa_le, fa_eq, tI_m1, tI_0, tI_1, tI_2, tI_3, tI_4, tI_5, tI_7, tI_8, tI_10, tI_15, tI_16, tI_20, tI_31, tI_125, tI_191, tI_255, tI_256, tI_980, tI_1000, tI_4095, tI_4096, tI_8191, tI_8192, tI_16383, tI_16384, tI_32767, tI_32768, tI_33791, tI_33792, tI_40959, tI_40960, tI_65535, tI_65536] at hw_9); (try simp only [fa_lt, fa_le, fa_eq, tI_m1, tI_0, tI_1, tI_2, tI_3, tI_4, tI_5, tI_7, tI_8, tI_10, tI_15, tI_16, tI_20, tI_31, tI_125, tI_191, tI_255, tI_256, tI_980, tI_1000, tI_4095, tI_4096, tI_8191, tI_8192, tI_16383, tI_16384, tI_32767, tI_32768, tI_33791, tI_33792, tI_40959, tI_40960, tI_65535, tI_65536] at hw_13); (have k0 := tI_0); (have k1 := tI_1); (have k2 := tI_2); (have k3 := tI_3); unfold sp_coming; (repeat' split) <;> first | rfl | omega | (simp only [fa_lt, fa_le, fa_eq, tI_m1, tI_0, tI_1, tI_2, tI_3, tI_4, tI_5, tI_7, tI_8, tI_10, tI_15, tI_16, tI_20, tI_31, tI_125, tI_191, tI_255, tI_256, tI_980, tI_1000, tI_4095, tI_4096, tI_8191, tI_8192, tI_16383, tI_16384, tI_32767, tI_32768, tI_33791, tI_33792, tI_40959, tI_40960, tI_65535, tI_65536]; omega))), by rw [ht]; exact hP9, va_K.moved hW.alike hK9, hD9⟩, hS.F ht⟩) hS.2.2 dX5_coming_88
      · refine lv_aload_n hx hb dX5_coming_32 rfl (lv_at hl 0 rfl) ?_
        refine lv_iload_n hx hb dX5_coming_33 rfl (lv_at hl 1 rfl) ?_
        have hPc := hP.sub (ws' := [(wi, .inr (5, [.ref pi, .ref wa, .long 0])), (wa, .inl (cw, 64, .inr (.inl (fun _ => 0))))]) [0, 1] rfl
        have hDc := hD.sub (ws' := [(wi, .inr (5, [.ref pi, .ref wa, .long 0])), (wa, .inl (cw, 64, .inr (.inl (fun _ => 0))))]) [0, 1] (by decide) rfl
        have hKc := hK.sub (tys' := [(cw, .long)]) [0] rfl
        have hFc := va_free (wc := [(wi, .inr (5, [.ref pi, .ref wa, .long 0])), (wa, .inl (cw, 64, .inr (.inl (fun _ => 0))))]) hD hS hA [0, 1] rfl
        refine va_calli (va_runV (As := [.int p0]) (rest := []) ⟨hx, hb, hml, hown, hts⟩ (k_sent l dC dI x tb ta pi pb pa pr gr gb ga wi wa me rb ra mb ma qb qa pu ct cp cr cg cw c1 c2 c3 p0 s.heap.size) (cwV 1 hts gX5_coming_X5_sent rfl rfl rfl (by decide +kernel) ⟨Nat.le_of_ble_eq_true rfl, Nat.le_of_ble_eq_true rfl⟩) ⟨fun a U g mk q => by obtain ⟨q0, q1, qP, qK, qD⟩ := q; exact ⟨q0, q1, qP, va_K.moved (u := U) (U := U.calling g mk a) (Vm.Alike.refl U.vm) qK, qD⟩, va_recv hKc hPc (ci := 5) (q0 := 0) rfl rfl, fun U hU hW => ⟨rfl, by rw [hU], by rw [hU]; exact hPc, va_K.moved hW.alike hKc, hDc.weaken (fun _ _ _ _ => trivial)⟩⟩ rfl rfl hl.1 rfl (lv_room (Nat.le_of_ble_eq_true rfl)) dX5_coming_34 ⟨Nat.le_of_ble_eq_true rfl, Nat.le_of_ble_eq_true rfl⟩) hS (fun q _ h => hFc q h) hFc (fun r_22 u t H1 locs ht hvm hw hB hz1 hk1 hS => ?_)
        obtain ⟨hP1, hK1, hD1⟩ := hB
        rw [ht] at hP1
        have hK1 := va_K.moved hvm.symm hK1
        try dsimp only at hw
        obtain ⟨hP, hD⟩ := va_join (wr := [(pi, .inr (3, [.ref pb, .ref pr, .int 0, .int 0, .int (-1), .int 0]))]) (w1 := [(wi, .inr (5, [.ref pi, .ref wa, .long 0])), (wa, .inl (cw, 64, .inr (.inl (fun _ => 0))))]) hP hD [0, 1] [2] rfl rfl (by decide) (by decide) hk1 hFc hP1 hD1
        have hK := (hK.sub (tys' := [(cw, .long)]) [0] rfl).app hK1
        generalize H1 = H at hP hS ⊢
        have hP : va_P (dC, dI) vwCl [(pi, .inr (3, [.ref pb, .ref pr, .int 0, .int 0, .int (-1), .int 0])), (wi, .inr (5, [.ref pi, .ref wa, .long 0])), (wa, .inl (cw, 64, .inr (.inl (fun _ => 0))))] H := hP
        have hD : va_D A [(pi, .inr (3, [.ref pb, .ref pr, .int 0, .int 0, .int (-1), .int 0])), (wi, .inr (5, [.ref pi, .ref wa, .long 0])), (wa, .inl (cw, 64, .inr (.inl (fun _ => 0))))] := hD
        have hK : va_K (dC, dI) vwCl [(cw, .long), (cw, .long)] s := hK
        have hw_23 := hw
        obtain rfl := hw_23
        have hP9 := hP.sub (ws' := []) [] rfl
        have hD9 := hD.sub (ws' := []) [] (by decide) rfl
        have hK9 := hK.sub (tys' := []) [] rfl
        exact W.iret (v := 0) hx hb hr (fun t ht hW => ⟨⟨0, (), rfl, by (first | decide | ((try subst_vars); (try dsimp only); (try simp only [fa_lt, fa_le, fa_eq, tI_m1, tI_0, tI_1, tI_2, tI_3, tI_4, tI_5, tI_7, tI_8, tI_10, tI_15, tI_16, tI_20, tI_31, tI_125, tI_191, tI_255, tI_256, tI_980, tI_1000, tI_4095, tI_4096, tI_8191, tI_8192, tI_16383, tI_16384, tI_32767, tI_32768, tI_33791, tI_33792, tI_40959, tI_40960, tI_65535, tI_65536] at c2_1); (try simp only [fa_lt, fa_le, fa_eq, tI_m1, tI_0, tI_1, tI_2, tI_3, tI_4, tI_5, tI_7, tI_8, tI_10, tI_15, tI_16, tI_20, tI_31, tI_125, tI_191, tI_255, tI_256, tI_980, tI_1000, tI_4095, tI_4096, tI_8191, tI_8192, tI_16383, tI_16384, tI_32767, tI_32768, tI_33791, tI_33792, tI_40959, tI_40960, tI_65535, tI_65536] at c23_2); (try simp only [fa_lt, fa_le, fa_eq, tI_m1, tI_0, tI_1, tI_2, tI_3, tI_4, tI_5, tI_7, tI_8, tI_10, tI_15, tI_16, tI_20, tI_31, tI_125, tI_191, tI_255, tI_256, tI_980, tI_1000, tI_4095, tI_4096, tI_8191, tI_8192, tI_16383, tI_16384, tI_32767, tI_32768, tI_33791, tI_33792, tI_40959, tI_40960, tI_65535, tI_65536] at c29_5); (try simp only [fa_lt, fa_le, fa_eq, tI_m1, tI_0, tI_1, tI_2, tI_3, tI_4, tI_5, tI_7, tI_8, tI_10, tI_15, tI_16, tI_20, tI_31, tI_125, tI_191, tI_255, tI_256, tI_980, tI_1000, tI_4095, tI_4096, tI_8191, tI_8192, tI_16383, tI_16384, tI_32767, tI_32768, tI_33791, tI_33792, tI_40959, tI_40960, tI_65535, tI_65536] at hw_23); (have k0 := tI_0); (have k1 := tI_1); (have k2 := tI_2); (have k3 := tI_3); unfold sp_coming; (repeat' split) <;> first | rfl | omega | (simp only [fa_lt, fa_le, fa_eq, tI_m1, tI_0, tI_1, tI_2, tI_3, tI_4, tI_5, tI_7, tI_8, tI_10, tI_15, tI_16, tI_20, tI_31, tI_125, tI_191, tI_255, tI_256, tI_980, tI_1000, tI_4095, tI_4096, tI_8191, tI_8192, tI_16383, tI_16384, tI_32767, tI_32768, tI_33791, tI_33792, tI_40959, tI_40960, tI_65535, tI_65536]; omega))), by rw [ht]; exact hP9, va_K.moved hW.alike hK9, hD9⟩, hS.F ht⟩) hS.2.2 dX5_coming_37
  · refine lv_aload_n hx hb dX5_coming_5 rfl (lv_at hl 0 rfl) ?_
    refine va_get (D := (dC, dI)) (ci := 5) (v := .ref pi) (C := RX5) (T := TX5) (N := 3) hx hb hts in_X5_coming_X5 hown hK hP 0 rfl rfl 0 (by decide) (hts (.fieldLink RX5 13 "WorkspaceBox$Wires" "picture" "LWorkspaceBox$Picture;") (by decide +kernel)) (fun _ h9 => h9) rfl dX5_coming_6 ?_
    refine va_get (D := (dC, dI)) (ci := 3) (v := .int 0) (C := RX3) (T := TX3) (N := 6) hx hb hts in_X5_coming_X3 hown hK hP 2 rfl rfl 5 (by decide) (hts (.fieldLink RX5 19 "WorkspaceBox$Picture" "shown" "Z") (by decide +kernel)) (fun _ h9 => h9) rfl dX5_coming_9 ?_
    refine lv_if_eq (tgt := 19) hx hb dX5_coming_12 (by decide) (fun _ => ?_) (fun h => absurd (by decide) h)
    refine lv_iconst (v := 1) hx hb dX5_coming_19 (by decide) ?_
    have hP9 := hP.sub (ws' := []) [] rfl
    have hD9 := hD.sub (ws' := []) [] (by decide) rfl
    have hK9 := hK.sub (tys' := []) [] rfl
    exact W.iret (v := 1) hx hb hr (fun t ht hW => ⟨⟨1, (), rfl, by (first | decide | ((try subst_vars); (try dsimp only); (try simp only [fa_lt, fa_le, fa_eq, tI_m1, tI_0, tI_1, tI_2, tI_3, tI_4, tI_5, tI_7, tI_8, tI_10, tI_15, tI_16, tI_20, tI_31, tI_125, tI_191, tI_255, tI_256, tI_980, tI_1000, tI_4095, tI_4096, tI_8191, tI_8192, tI_16383, tI_16384, tI_32767, tI_32768, tI_33791, tI_33792, tI_40959, tI_40960, tI_65535, tI_65536] at c2_1); (have k0 := tI_0); (have k1 := tI_1); (have k2 := tI_2); (have k3 := tI_3); unfold sp_coming; (repeat' split) <;> first | rfl | omega | (simp only [fa_lt, fa_le, fa_eq, tI_m1, tI_0, tI_1, tI_2, tI_3, tI_4, tI_5, tI_7, tI_8, tI_10, tI_15, tI_16, tI_20, tI_31, tI_125, tI_191, tI_255, tI_256, tI_980, tI_1000, tI_4095, tI_4096, tI_8191, tI_8192, tI_16383, tI_16384, tI_32767, tI_32768, tI_33791, tI_33792, tI_40959, tI_40960, tI_65535, tI_65536]; omega))), by rw [ht]; exact hP9, va_K.moved hW.alike hK9, hD9⟩, hS.F ht⟩) hS.2.2 dX5_coming_20

theorem in_X6_in_X6 : ∀ w ∈ wsX60, w ∈ wsX6_in := by decide +kernel
set_option maxHeartbeats 1000000 in
set_option maxRecDepth 100000 in
theorem k_in (l : Launch) (dC : Nat → ClassId) (dI : Nat → Nat → Nat) (x tb ta pi pb pa pr gr gb ga wi wa me rb ra mb ma qb qa pu : Nat) (ct cp cr cg cw c1 c2 c3 : ClassId) (p0 : Int32) (sz : Nat)  : Met l yX6_in wsX6_in ({ frames := 2, cells := 0, slots := 0, locals := 43 }) (va_Pc [.ref x, .int p0] (fun U => U.heap.size = sz ∧ va_P (dC, dI) vwCl [(x, .inr (6, [.ref tb, .ref pi, .ref gr, .ref wi, .ref me, .ref pu, .int 0])), (wi, .inr (5, [.ref pi, .ref wa, .long 0])), (wa, .inl (cw, 64, .inr (.inl (fun _ => 0)))), (pi, .inr (3, [.ref pb, .ref pr, .int 0, .int 0, .int (-1), .int 0]))] U.heap ∧ va_K (dC, dI) vwCl [(cw, .long)] U ∧ va_D (fun _ => True) [(x, .inr (6, [.ref tb, .ref pi, .ref gr, .ref wi, .ref me, .ref pu, .int 0])), (wi, .inr (5, [.ref pi, .ref wa, .long 0])), (wa, .inl (cw, 64, .inr (.inl (fun _ => 0)))), (pi, .inr (3, [.ref pb, .ref pr, .int 0, .int 0, .int (-1), .int 0]))])) (va_Qi (fun (r : Int32) (_ : Unit) => r = sp_inn p0) (fun (u : Unit) (t : State) => va_P (dC, dI) vwCl [] t.heap ∧ va_K (dC, dI) vwCl [] t ∧ va_D (va_A [(x, .inr (6, [.ref tb, .ref pi, .ref gr, .ref wi, .ref me, .ref pu, .int 0])), (wi, .inr (5, [.ref pi, .ref wa, .long 0])), (wa, .inl (cw, 64, .inr (.inl (fun _ => 0)))), (pi, .inr (3, [.ref pb, .ref pr, .int 0, .int 0, .int (-1), .int 0]))] sz) []) (va_A [(x, .inr (6, [.ref tb, .ref pi, .ref gr, .ref wi, .ref me, .ref pu, .int 0])), (wi, .inr (5, [.ref pi, .ref wa, .long 0])), (wa, .inl (cw, 64, .inr (.inl (fun _ => 0)))), (pi, .inr (3, [.ref pb, .ref pr, .int 0, .int 0, .int (-1), .int 0]))] sz)) 0 0 (va_A [(x, .inr (6, [.ref tb, .ref pi, .ref gr, .ref wi, .ref me, .ref pu, .int 0])), (wi, .inr (5, [.ref pi, .ref wa, .long 0])), (wa, .inl (cw, 64, .inr (.inl (fun _ => 0)))), (pi, .inr (3, [.ref pb, .ref pr, .int 0, .int 0, .int (-1), .int 0]))] sz) := by
  refine Met.ofW (cc := cX6_in) (maxL := 2) (ret := (some .int)) (by decide) rfl ?_
  intro p e s m args below meth c s₁ B hml hv
  obtain ⟨rfl, hsz, hP, hK, hD0⟩ := hv
  have hx := B.exec
  have hb := B.bytes
  have hr := B.returns
  have hts := atoms_spec (ws := wsX6_in) B.pre
  have hown : s.vm.findClass RX6 = some m.cls := findClass_of_methodNamed B.named
  have hlocks := B.notSynchronized
  subst hsz
  have hD := hD0.self (sz := s.heap.size)
  generalize hAe : va_A [(x, .inr (6, [.ref tb, .ref pi, .ref gr, .ref wi, .ref me, .ref pu, .int 0])), (wi, .inr (5, [.ref pi, .ref wa, .long 0])), (wa, .inl (cw, 64, .inr (.inl (fun _ => 0)))), (pi, .inr (3, [.ref pb, .ref pr, .int 0, .int 0, .int (-1), .int 0]))] s.heap.size = A at hD ⊢
  have hA : ∀ q : Nat, s.heap.size ≤ q → A q := fun q h => by rw [← hAe]; exact Or.inr h
  have hS : va_S A s.heap s.heap [] := va_S.rf
  have hP : va_P (dC, dI) vwCl [(x, .inr (6, [.ref tb, .ref pi, .ref gr, .ref wi, .ref me, .ref pu, .int 0])), (wi, .inr (5, [.ref pi, .ref wa, .long 0])), (wa, .inl (cw, 64, .inr (.inl (fun _ => 0)))), (pi, .inr (3, [.ref pb, .ref pr, .int 0, .int 0, .int (-1), .int 0]))] s.heap := hP
  have hl := lv_entry ([.ref x, .int p0]) (n := 2) (Nat.le_of_ble_eq_true rfl)
  rw [lg_entry_eq]
  generalize (lg_sl ([.ref x, .int p0]) ++ List.replicate (2 - (lg_sl ([.ref x, .int p0])).length) Slot.unset).toArray = ls at hl ⊢
  have hl : lv_has ls 2 [(0, .ref x), (1, .int p0)] := hl
  refine lv_iload_n hx hb dX6_in_0 rfl (lv_at hl 1 rfl) ?_
  have hPc := hP.sub (ws' := []) [] rfl
  have hDc := hD.sub (ws' := []) [] (by decide) rfl
  have hKc := hK.sub (tys' := []) [] rfl
  have hFc := va_free (wc := []) hD hS hA [] rfl
  refine va_calli (va_runS (As := [.int p0]) (rest := []) ⟨hx, hb, hml, hown, hts⟩ (k_exists l dC dI x tb ta pi pb pa pr gr gb ga wi wa me rb ra mb ma qb qa pu ct cp cr cg cw c1 c2 c3 p0 s.heap.size) (va_cwS 1 hts gX6_in_X5_exists rfl rfl rfl (by decide +kernel) ⟨Nat.le_of_ble_eq_true rfl, Nat.le_of_ble_eq_true rfl⟩) ⟨fun a U g mk q => by obtain ⟨q0, q1, qP, qK, qD⟩ := q; exact ⟨q0, q1, qP, va_K.moved (u := U) (U := U.calling g mk a) (Vm.Alike.refl U.vm) qK, qD⟩, fun U hU hW => ⟨rfl, by rw [hU], by rw [hU]; exact hPc, va_K.moved hW.alike hKc, hDc.weaken (fun _ _ _ _ => trivial)⟩⟩ rfl rfl hl.1 rfl (lv_room (Nat.le_of_ble_eq_true rfl)) dX6_in_1 ⟨Nat.le_of_ble_eq_true rfl, Nat.le_of_ble_eq_true rfl⟩) hS (fun q _ h => hFc q h) hFc (fun r_1 u t H1 locs ht hvm hw hB hz1 hk1 hS => ?_)
  obtain ⟨hP1, hK1, hD1⟩ := hB
  rw [ht] at hP1
  have hK1 := va_K.moved hvm.symm hK1
  try dsimp only at hw
  obtain ⟨hP, hD⟩ := va_join (wr := [(x, .inr (6, [.ref tb, .ref pi, .ref gr, .ref wi, .ref me, .ref pu, .int 0])), (wi, .inr (5, [.ref pi, .ref wa, .long 0])), (wa, .inl (cw, 64, .inr (.inl (fun _ => 0)))), (pi, .inr (3, [.ref pb, .ref pr, .int 0, .int 0, .int (-1), .int 0]))]) (w1 := []) hP hD [] [0, 1, 2, 3] rfl rfl (by decide) (by decide) hk1 hFc hP1 hD1
  have hK := (hK.sub (tys' := [(cw, .long)]) [0] rfl).app hK1
  generalize H1 = H at hP hS ⊢
  have hP : va_P (dC, dI) vwCl [(x, .inr (6, [.ref tb, .ref pi, .ref gr, .ref wi, .ref me, .ref pu, .int 0])), (wi, .inr (5, [.ref pi, .ref wa, .long 0])), (wa, .inl (cw, 64, .inr (.inl (fun _ => 0)))), (pi, .inr (3, [.ref pb, .ref pr, .int 0, .int 0, .int (-1), .int 0]))] H := hP
  have hD : va_D A [(x, .inr (6, [.ref tb, .ref pi, .ref gr, .ref wi, .ref me, .ref pu, .int 0])), (wi, .inr (5, [.ref pi, .ref wa, .long 0])), (wa, .inl (cw, 64, .inr (.inl (fun _ => 0)))), (pi, .inr (3, [.ref pb, .ref pr, .int 0, .int 0, .int (-1), .int 0]))] := hD
  have hK : va_K (dC, dI) vwCl [(cw, .long)] s := hK
  have hw_2 := hw
  rcases hw_2 with ⟨rfl, h8, h9⟩ | ⟨rfl, h8⟩
  · refine lv_if_eq (tgt := 18) hx hb dX6_in_4 (by decide) (fun h => absurd h (by decide)) (fun _ => ?_)
    refine lv_aload_n hx hb dX6_in_7 rfl (lv_at hl 0 rfl) ?_
    refine va_get (D := (dC, dI)) (ci := 6) (v := .ref wi) (C := RX6) (T := TX6) (N := 7) hx hb hts in_X6_in_X6 hown hK hP 0 rfl rfl 3 (by decide) (hts (.fieldLink RX6 37 "WorkspaceBox" "wires" "LWorkspaceBox$Wires;") (by decide +kernel)) (fun _ h9 => h9) rfl dX6_in_8 ?_
    refine lv_iload_n hx hb dX6_in_11 rfl (lv_at hl 1 rfl) ?_
    have hPc := hP.sub (ws' := [(wi, .inr (5, [.ref pi, .ref wa, .long 0])), (wa, .inl (cw, 64, .inr (.inl (fun _ => 0)))), (pi, .inr (3, [.ref pb, .ref pr, .int 0, .int 0, .int (-1), .int 0]))]) [1, 2, 3] rfl
    have hDc := hD.sub (ws' := [(wi, .inr (5, [.ref pi, .ref wa, .long 0])), (wa, .inl (cw, 64, .inr (.inl (fun _ => 0)))), (pi, .inr (3, [.ref pb, .ref pr, .int 0, .int 0, .int (-1), .int 0]))]) [1, 2, 3] (by decide) rfl
    have hKc := hK.sub (tys' := [(cw, .long)]) [0] rfl
    have hFc := va_free (wc := [(wi, .inr (5, [.ref pi, .ref wa, .long 0])), (wa, .inl (cw, 64, .inr (.inl (fun _ => 0)))), (pi, .inr (3, [.ref pb, .ref pr, .int 0, .int 0, .int (-1), .int 0]))]) hD hS hA [1, 2, 3] rfl
    refine va_calli (va_runV (As := [.int p0]) (rest := []) ⟨hx, hb, hml, hown, hts⟩ (k_coming l dC dI x tb ta pi pb pa pr gr gb ga wi wa me rb ra mb ma qb qa pu ct cp cr cg cw c1 c2 c3 p0 H.size) (cwV 1 hts gX6_in_X5_coming rfl rfl rfl (by decide +kernel) ⟨Nat.le_of_ble_eq_true rfl, Nat.le_of_ble_eq_true rfl⟩) ⟨fun a U g mk q => by obtain ⟨q0, q1, qP, qK, qD⟩ := q; exact ⟨q0, q1, qP, va_K.moved (u := U) (U := U.calling g mk a) (Vm.Alike.refl U.vm) qK, qD⟩, va_recv hKc hPc (ci := 5) (q0 := 0) rfl rfl, fun U hU hW => ⟨rfl, by rw [hU], by rw [hU]; exact hPc, va_K.moved hW.alike hKc, hDc.weaken (fun _ _ _ _ => trivial)⟩⟩ rfl rfl hl.1 rfl (lv_room (Nat.le_of_ble_eq_true rfl)) dX6_in_12 ⟨Nat.le_of_ble_eq_true rfl, Nat.le_of_ble_eq_true rfl⟩) hS (fun q _ h => hFc q h) hFc (fun r_3 u t H1 locs ht hvm hw hB hz1 hk1 hS => ?_)
    obtain ⟨hP1, hK1, hD1⟩ := hB
    rw [ht] at hP1
    have hK1 := va_K.moved hvm.symm hK1
    try dsimp only at hw
    obtain ⟨hP, hD⟩ := va_join (wr := [(x, .inr (6, [.ref tb, .ref pi, .ref gr, .ref wi, .ref me, .ref pu, .int 0]))]) (w1 := []) hP hD [1, 2, 3] [0] rfl rfl (by decide) (by decide) hk1 hFc hP1 hD1
    have hK := (hK.sub (tys' := [(cw, .long)]) [0] rfl).app hK1
    generalize H1 = H at hP hS ⊢
    have hP : va_P (dC, dI) vwCl [(x, .inr (6, [.ref tb, .ref pi, .ref gr, .ref wi, .ref me, .ref pu, .int 0]))] H := hP
    have hD : va_D A [(x, .inr (6, [.ref tb, .ref pi, .ref gr, .ref wi, .ref me, .ref pu, .int 0]))] := hD
    have hK : va_K (dC, dI) vwCl [(cw, .long)] s := hK
    have hw_4 := hw
    refine lv_goto (tgt := 19) hx hb dX6_in_15 (by decide) ?_
    have hP9 := hP.sub (ws' := []) [] rfl
    have hD9 := hD.sub (ws' := []) [] (by decide) rfl
    have hK9 := hK.sub (tys' := []) [] rfl
    exact W.iret (v := r_3) hx hb hr (fun t ht hW => ⟨⟨r_3, (), rfl, by (first | decide | ((try subst_vars); (try simp only [fa_lt, fa_le, fa_eq, tI_m1, tI_0, tI_1, tI_2, tI_3, tI_4, tI_5, tI_7, tI_8, tI_10, tI_15, tI_16, tI_20, tI_31, tI_125, tI_191, tI_255, tI_256, tI_980, tI_1000, tI_4095, tI_4096, tI_8191, tI_8192, tI_16383, tI_16384, tI_32767, tI_32768, tI_33791, tI_33792, tI_40959, tI_40960, tI_65535, tI_65536] at hw_2); (try simp only [fa_lt, fa_le, fa_eq, tI_m1, tI_0, tI_1, tI_2, tI_3, tI_4, tI_5, tI_7, tI_8, tI_10, tI_15, tI_16, tI_20, tI_31, tI_125, tI_191, tI_255, tI_256, tI_980, tI_1000, tI_4095, tI_4096, tI_8191, tI_8192, tI_16383, tI_16384, tI_32767, tI_32768, tI_33791, tI_33792, tI_40959, tI_40960, tI_65535, tI_65536] at h8); (try simp only [fa_lt, fa_le, fa_eq, tI_m1, tI_0, tI_1, tI_2, tI_3, tI_4, tI_5, tI_7, tI_8, tI_10, tI_15, tI_16, tI_20, tI_31, tI_125, tI_191, tI_255, tI_256, tI_980, tI_1000, tI_4095, tI_4096, tI_8191, tI_8192, tI_16383, tI_16384, tI_32767, tI_32768, tI_33791, tI_33792, tI_40959, tI_40960, tI_65535, tI_65536] at h9); (try simp only [fa_lt, fa_le, fa_eq, tI_m1, tI_0, tI_1, tI_2, tI_3, tI_4, tI_5, tI_7, tI_8, tI_10, tI_15, tI_16, tI_20, tI_31, tI_125, tI_191, tI_255, tI_256, tI_980, tI_1000, tI_4095, tI_4096, tI_8191, tI_8192, tI_16383, tI_16384, tI_32767, tI_32768, tI_33791, tI_33792, tI_40959, tI_40960, tI_65535, tI_65536] at hw_4); unfold sp_inn; (try unfold sp_coming); (repeat' split) <;> first | rfl | omega)), by rw [ht]; exact hP9, va_K.moved hW.alike hK9, hD9⟩, hS.F ht⟩) hS.2.2 dX6_in_19
  · refine lv_if_eq (tgt := 18) hx hb dX6_in_4 (by decide) (fun _ => ?_) (fun h => absurd (by decide) h)
    refine lv_iconst (v := (-1)) hx hb dX6_in_18 (by decide) ?_
    have hP9 := hP.sub (ws' := []) [] rfl
    have hD9 := hD.sub (ws' := []) [] (by decide) rfl
    have hK9 := hK.sub (tys' := []) [] rfl
    exact W.iret (v := (-1)) hx hb hr (fun t ht hW => ⟨⟨(-1), (), rfl, by (first | decide | ((try subst_vars); (try simp only [fa_lt, fa_le, fa_eq, tI_m1, tI_0, tI_1, tI_2, tI_3, tI_4, tI_5, tI_7, tI_8, tI_10, tI_15, tI_16, tI_20, tI_31, tI_125, tI_191, tI_255, tI_256, tI_980, tI_1000, tI_4095, tI_4096, tI_8191, tI_8192, tI_16383, tI_16384, tI_32767, tI_32768, tI_33791, tI_33792, tI_40959, tI_40960, tI_65535, tI_65536] at hw_2); (try simp only [fa_lt, fa_le, fa_eq, tI_m1, tI_0, tI_1, tI_2, tI_3, tI_4, tI_5, tI_7, tI_8, tI_10, tI_15, tI_16, tI_20, tI_31, tI_125, tI_191, tI_255, tI_256, tI_980, tI_1000, tI_4095, tI_4096, tI_8191, tI_8192, tI_16383, tI_16384, tI_32767, tI_32768, tI_33791, tI_33792, tI_40959, tI_40960, tI_65535, tI_65536] at h8); unfold sp_inn; (try unfold sp_coming); (repeat' split) <;> first | rfl | omega)), by rw [ht]; exact hP9, va_K.moved hW.alike hK9, hD9⟩, hS.F ht⟩) hS.2.2 dX6_in_19

theorem in_X3_colourAt_X3 : ∀ w ∈ wsX30, w ∈ wsX3_colourAt := by decide +kernel
set_option maxHeartbeats 1000000 in
set_option maxRecDepth 100000 in
theorem k_colourAt (l : Launch) (dC : Nat → ClassId) (dI : Nat → Nat → Nat) (x tb ta pi pb pa pr gr gb ga wi wa me rb ra mb ma qb qa pu : Nat) (ct cp cr cg cw c1 c2 c3 : ClassId) (p0 : Int32) (p1 : Int32) (sz : Nat)  : Met l yX3_colourAt wsX3_colourAt ({ frames := 0, cells := 0, slots := 0, locals := 0 }) (va_Pc [.ref pi, .int p0, .int p1] (fun U => U.heap.size = sz ∧ va_P (dC, dI) vwCl [(pi, .inr (3, [.ref pb, .ref pr, .int 0, .int 0, .int (-1), .int 0])), (pr, .inl (cr, 8, .inl (fun _ => 0)))] U.heap ∧ va_K (dC, dI) vwCl [(cr, .int)] U ∧ va_D (fun _ => True) [(pi, .inr (3, [.ref pb, .ref pr, .int 0, .int 0, .int (-1), .int 0])), (pr, .inl (cr, 8, .inl (fun _ => 0)))])) (va_Qi (fun (r : Int32) (_ : Unit) => r = 0) (fun (u : Unit) (t : State) => va_P (dC, dI) vwCl [] t.heap ∧ va_K (dC, dI) vwCl [] t ∧ va_D (va_A [(pi, .inr (3, [.ref pb, .ref pr, .int 0, .int 0, .int (-1), .int 0])), (pr, .inl (cr, 8, .inl (fun _ => 0)))] sz) []) (va_A [(pi, .inr (3, [.ref pb, .ref pr, .int 0, .int 0, .int (-1), .int 0])), (pr, .inl (cr, 8, .inl (fun _ => 0)))] sz)) 0 0 (va_A [(pi, .inr (3, [.ref pb, .ref pr, .int 0, .int 0, .int (-1), .int 0])), (pr, .inl (cr, 8, .inl (fun _ => 0)))] sz) := by
  refine Met.ofW (cc := cX3_colourAt) (maxL := 9) (ret := (some .int)) (by decide) rfl ?_
  intro p e s m args below meth c s₁ B hml hv
  obtain ⟨rfl, hsz, hP, hK, hD0⟩ := hv
  have hx := B.exec
  have hb := B.bytes
  have hr := B.returns
  have hts := atoms_spec (ws := wsX3_colourAt) B.pre
  have hown : s.vm.findClass RX3 = some m.cls := findClass_of_methodNamed B.named
  have hlocks := B.notSynchronized
  subst hsz
  have hD := hD0.self (sz := s.heap.size)
  generalize hAe : va_A [(pi, .inr (3, [.ref pb, .ref pr, .int 0, .int 0, .int (-1), .int 0])), (pr, .inl (cr, 8, .inl (fun _ => 0)))] s.heap.size = A at hD ⊢
  have hA : ∀ q : Nat, s.heap.size ≤ q → A q := fun q h => by rw [← hAe]; exact Or.inr h
  have hS : va_S A s.heap s.heap [] := va_S.rf
  have hP : va_P (dC, dI) vwCl [(pi, .inr (3, [.ref pb, .ref pr, .int 0, .int 0, .int (-1), .int 0])), (pr, .inl (cr, 8, .inl (fun _ => 0)))] s.heap := hP
  have hl := lv_entry ([.ref pi, .int p0, .int p1]) (n := 9) (Nat.le_of_ble_eq_true rfl)
  rw [lg_entry_eq]
  generalize (lg_sl ([.ref pi, .int p0, .int p1]) ++ List.replicate (9 - (lg_sl ([.ref pi, .int p0, .int p1])).length) Slot.unset).toArray = ls at hl ⊢
  have hl : lv_has ls 9 [(0, .ref pi), (1, .int p0), (2, .int p1)] := hl
  refine lv_aload_n hx hb dX3_colourAt_0 rfl (lv_at hl 0 rfl) ?_
  refine va_get (D := (dC, dI)) (ci := 3) (v := .ref pr) (C := RX3) (T := TX3) (N := 6) hx hb hts in_X3_colourAt_X3 hown hK hP 0 rfl rfl 1 (by decide) (hts (.fieldLink RX3 20 "WorkspaceBox$Picture" "registers" "[I") (by decide +kernel)) (fun _ h9 => h9) rfl dX3_colourAt_1 ?_
  refine lv_bipush (v := 7) hx hb dX3_colourAt_4 (by decide) ?_
  refine va_iald hx hb hK hP 1 0 rfl rfl (by unfold vp_in; decide) dX3_colourAt_6 ?_
  refine lv_topi (fun y_1 ey_1 => ?_)
  obtain rfl : y_1 = 0 := ey_1
  refine lv_bipush (v := 15) hx hb dX3_colourAt_7 (by decide) ?_
  refine lv_iand hx hb dX3_colourAt_9 ?_
  refine lv_topi (fun y_2 ey_2 => ?_)
  obtain rfl : y_2 = 0 := ey_2.trans (by decide)
  refine lv_istore_n (lv' := [(3, .int 0), (0, .ref pi), (1, .int p0), (2, .int p1)]) hx hb dX3_colourAt_10 rfl hl (by decide) rfl (fun ls hl => ?_)
  refine lv_aload_n hx hb dX3_colourAt_11 rfl (lv_at hl 1 rfl) ?_
  refine va_get (D := (dC, dI)) (ci := 3) (v := .ref pr) (C := RX3) (T := TX3) (N := 6) hx hb hts in_X3_colourAt_X3 hown hK hP 0 rfl rfl 1 (by decide) (hts (.fieldLink RX3 20 "WorkspaceBox$Picture" "registers" "[I") (by decide +kernel)) (fun _ h9 => h9) rfl dX3_colourAt_12 ?_
  refine lv_iconst (v := 1) hx hb dX3_colourAt_15 (by decide) ?_
  refine va_iald hx hb hK hP 1 0 rfl rfl (by unfold vp_in; decide) dX3_colourAt_16 ?_
  refine lv_topi (fun y_3 ey_3 => ?_)
  obtain rfl : y_3 = 0 := ey_3
  refine lv_bipush (v := 64) hx hb dX3_colourAt_17 (by decide) ?_
  refine lv_iand hx hb dX3_colourAt_19 ?_
  refine lv_topi (fun y_4 ey_4 => ?_)
  obtain rfl : y_4 = 0 := ey_4.trans (by decide)
  refine lv_if_ne (tgt := 25) hx hb dX3_colourAt_20 (by decide) (fun h => absurd h (by decide)) (fun _ => ?_)
  refine lv_iload_n hx hb dX3_colourAt_23 rfl (lv_at hl 0 rfl) ?_
  have hP9 := hP.sub (ws' := []) [] rfl
  have hD9 := hD.sub (ws' := []) [] (by decide) rfl
  have hK9 := hK.sub (tys' := []) [] rfl
  exact W.iret (v := 0) hx hb hr (fun t ht hW => ⟨⟨0, (), rfl, rfl, by rw [ht]; exact hP9, va_K.moved hW.alike hK9, hD9⟩, hS.F ht⟩) hS.2.2 dX3_colourAt_24

theorem in_X6_pixel_X6 : ∀ w ∈ wsX60, w ∈ wsX6_pixel := by decide +kernel
set_option maxHeartbeats 1000000 in
set_option maxRecDepth 100000 in
theorem k_pixel (l : Launch) (dC : Nat → ClassId) (dI : Nat → Nat → Nat) (x tb ta pi pb pa pr gr gb ga wi wa me rb ra mb ma qb qa pu : Nat) (ct cp cr cg cw c1 c2 c3 : ClassId) (p0 : Int32) (p1 : Int32) (sz : Nat)  : Met l yX6_pixel wsX6_pixel ({ frames := 1, cells := 0, slots := 0, locals := 28 }) (va_Pc [.ref x, .int p0, .int p1] (fun U => U.heap.size = sz ∧ va_P (dC, dI) vwCl [(x, .inr (6, [.ref tb, .ref pi, .ref gr, .ref wi, .ref me, .ref pu, .int 0])), (pi, .inr (3, [.ref pb, .ref pr, .int 0, .int 0, .int (-1), .int 0])), (pr, .inl (cr, 8, .inl (fun _ => 0)))] U.heap ∧ va_K (dC, dI) vwCl [(cr, .int)] U ∧ va_D (fun _ => True) [(x, .inr (6, [.ref tb, .ref pi, .ref gr, .ref wi, .ref me, .ref pu, .int 0])), (pi, .inr (3, [.ref pb, .ref pr, .int 0, .int 0, .int (-1), .int 0])), (pr, .inl (cr, 8, .inl (fun _ => 0)))])) (va_Qi (fun (r : Int32) (_ : Unit) => r = sp_pixel p0 p1) (fun (u : Unit) (t : State) => va_P (dC, dI) vwCl [] t.heap ∧ va_K (dC, dI) vwCl [] t ∧ va_D (va_A [(x, .inr (6, [.ref tb, .ref pi, .ref gr, .ref wi, .ref me, .ref pu, .int 0])), (pi, .inr (3, [.ref pb, .ref pr, .int 0, .int 0, .int (-1), .int 0])), (pr, .inl (cr, 8, .inl (fun _ => 0)))] sz) []) (va_A [(x, .inr (6, [.ref tb, .ref pi, .ref gr, .ref wi, .ref me, .ref pu, .int 0])), (pi, .inr (3, [.ref pb, .ref pr, .int 0, .int 0, .int (-1), .int 0])), (pr, .inl (cr, 8, .inl (fun _ => 0)))] sz)) 0 0 (va_A [(x, .inr (6, [.ref tb, .ref pi, .ref gr, .ref wi, .ref me, .ref pu, .int 0])), (pi, .inr (3, [.ref pb, .ref pr, .int 0, .int 0, .int (-1), .int 0])), (pr, .inl (cr, 8, .inl (fun _ => 0)))] sz) := by
  refine Met.ofW (cc := cX6_pixel) (maxL := 3) (ret := (some .int)) (by decide) rfl ?_
  intro p e s m args below meth c s₁ B hml hv
  obtain ⟨rfl, hsz, hP, hK, hD0⟩ := hv
  have hx := B.exec
  have hb := B.bytes
  have hr := B.returns
  have hts := atoms_spec (ws := wsX6_pixel) B.pre
  have hown : s.vm.findClass RX6 = some m.cls := findClass_of_methodNamed B.named
  have hlocks := B.notSynchronized
  subst hsz
  have hD := hD0.self (sz := s.heap.size)
  generalize hAe : va_A [(x, .inr (6, [.ref tb, .ref pi, .ref gr, .ref wi, .ref me, .ref pu, .int 0])), (pi, .inr (3, [.ref pb, .ref pr, .int 0, .int 0, .int (-1), .int 0])), (pr, .inl (cr, 8, .inl (fun _ => 0)))] s.heap.size = A at hD ⊢
  have hA : ∀ q : Nat, s.heap.size ≤ q → A q := fun q h => by rw [← hAe]; exact Or.inr h
  have hS : va_S A s.heap s.heap [] := va_S.rf
  have hP : va_P (dC, dI) vwCl [(x, .inr (6, [.ref tb, .ref pi, .ref gr, .ref wi, .ref me, .ref pu, .int 0])), (pi, .inr (3, [.ref pb, .ref pr, .int 0, .int 0, .int (-1), .int 0])), (pr, .inl (cr, 8, .inl (fun _ => 0)))] s.heap := hP
  have hl := lv_entry ([.ref x, .int p0, .int p1]) (n := 3) (Nat.le_of_ble_eq_true rfl)
  rw [lg_entry_eq]
  generalize (lg_sl ([.ref x, .int p0, .int p1]) ++ List.replicate (3 - (lg_sl ([.ref x, .int p0, .int p1])).length) Slot.unset).toArray = ls at hl ⊢
  have hl : lv_has ls 3 [(0, .ref x), (1, .int p0), (2, .int p1)] := hl
  refine lv_iload_n hx hb dX6_pixel_0 rfl (lv_at hl 1 rfl) ?_
  refine lv_if_lt (tgt := 22) hx hb dX6_pixel_1 (by decide) (fun c1_1 => ?_) (fun c1_1 => ?_)
  · refine lv_iconst (v := (-1)) hx hb dX6_pixel_22 (by decide) ?_
    have hP9 := hP.sub (ws' := []) [] rfl
    have hD9 := hD.sub (ws' := []) [] (by decide) rfl
    have hK9 := hK.sub (tys' := []) [] rfl
    exact W.iret (v := (-1)) hx hb hr (fun t ht hW => ⟨⟨(-1), (), rfl, by (first | decide | ((try subst_vars); (try dsimp only); (try simp only [fa_lt, fa_le, fa_eq, tI_m1, tI_0, tI_1, tI_2, tI_3, tI_4, tI_5, tI_7, tI_8, tI_10, tI_15, tI_16, tI_20, tI_31, tI_125, tI_191, tI_255, tI_256, tI_980, tI_1000, tI_4095, tI_4096, tI_8191, tI_8192, tI_16383, tI_16384, tI_32767, tI_32768, tI_33791, tI_33792, tI_40959, tI_40960, tI_65535, tI_65536] at c1_1); (have k0 := tI_0); (have k1 := tI_1); (have k2 := tI_2); (have k3 := tI_3); unfold sp_pixel; (repeat' split) <;> first | rfl | omega | (simp only [fa_lt, fa_le, fa_eq, tI_m1, tI_0, tI_1, tI_2, tI_3, tI_4, tI_5, tI_7, tI_8, tI_10, tI_15, tI_16, tI_20, tI_31, tI_125, tI_191, tI_255, tI_256, tI_980, tI_1000, tI_4095, tI_4096, tI_8191, tI_8192, tI_16383, tI_16384, tI_32767, tI_32768, tI_33791, tI_33792, tI_40959, tI_40960, tI_65535, tI_65536]; omega))), by rw [ht]; exact hP9, va_K.moved hW.alike hK9, hD9⟩, hS.F ht⟩) hS.2.2 dX6_pixel_23
  · refine lv_iload_n hx hb dX6_pixel_4 rfl (lv_at hl 1 rfl) ?_
    refine lv_sipush (v := 255) hx hb dX6_pixel_5 (by decide) ?_
    refine lv_icmp_gt (tgt := 22) hx hb dX6_pixel_8 (by decide) (fun c8_2 => ?_) (fun c8_2 => ?_)
    · refine lv_iconst (v := (-1)) hx hb dX6_pixel_22 (by decide) ?_
      have hP9 := hP.sub (ws' := []) [] rfl
      have hD9 := hD.sub (ws' := []) [] (by decide) rfl
      have hK9 := hK.sub (tys' := []) [] rfl
      exact W.iret (v := (-1)) hx hb hr (fun t ht hW => ⟨⟨(-1), (), rfl, by (first | decide | ((try subst_vars); (try dsimp only); (try simp only [fa_lt, fa_le, fa_eq, tI_m1, tI_0, tI_1, tI_2, tI_3, tI_4, tI_5, tI_7, tI_8, tI_10, tI_15, tI_16, tI_20, tI_31, tI_125, tI_191, tI_255, tI_256, tI_980, tI_1000, tI_4095, tI_4096, tI_8191, tI_8192, tI_16383, tI_16384, tI_32767, tI_32768, tI_33791, tI_33792, tI_40959, tI_40960, tI_65535, tI_65536] at c1_1); (try simp only [fa_lt, fa_le, fa_eq, tI_m1, tI_0, tI_1, tI_2, tI_3, tI_4, tI_5, tI_7, tI_8, tI_10, tI_15, tI_16, tI_20, tI_31, tI_125, tI_191, tI_255, tI_256, tI_980, tI_1000, tI_4095, tI_4096, tI_8191, tI_8192, tI_16383, tI_16384, tI_32767, tI_32768, tI_33791, tI_33792, tI_40959, tI_40960, tI_65535, tI_65536] at c8_2); (have k0 := tI_0); (have k1 := tI_1); (have k2 := tI_2); (have k3 := tI_3); unfold sp_pixel; (repeat' split) <;> first | rfl | omega | (simp only [fa_lt, fa_le, fa_eq, tI_m1, tI_0, tI_1, tI_2, tI_3, tI_4, tI_5, tI_7, tI_8, tI_10, tI_15, tI_16, tI_20, tI_31, tI_125, tI_191, tI_255, tI_256, tI_980, tI_1000, tI_4095, tI_4096, tI_8191, tI_8192, tI_16383, tI_16384, tI_32767, tI_32768, tI_33791, tI_33792, tI_40959, tI_40960, tI_65535, tI_65536]; omega))), by rw [ht]; exact hP9, va_K.moved hW.alike hK9, hD9⟩, hS.F ht⟩) hS.2.2 dX6_pixel_23
    · refine lv_iload_n hx hb dX6_pixel_11 rfl (lv_at hl 2 rfl) ?_
      refine lv_if_lt (tgt := 22) hx hb dX6_pixel_12 (by decide) (fun c12_3 => ?_) (fun c12_3 => ?_)
      · refine lv_iconst (v := (-1)) hx hb dX6_pixel_22 (by decide) ?_
        have hP9 := hP.sub (ws' := []) [] rfl
        have hD9 := hD.sub (ws' := []) [] (by decide) rfl
        have hK9 := hK.sub (tys' := []) [] rfl
        exact W.iret (v := (-1)) hx hb hr (fun t ht hW => ⟨⟨(-1), (), rfl, by (first | decide | ((try subst_vars); (try dsimp only); (try simp only [fa_lt, fa_le, fa_eq, tI_m1, tI_0, tI_1, tI_2, tI_3, tI_4, tI_5, tI_7, tI_8, tI_10, tI_15, tI_16, tI_20, tI_31, tI_125, tI_191, tI_255, tI_256, tI_980, tI_1000, tI_4095, tI_4096, tI_8191, tI_8192, tI_16383, tI_16384, tI_32767, tI_32768, tI_33791, tI_33792, tI_40959, tI_40960, tI_65535, tI_65536] at c1_1); (try simp only [fa_lt, fa_le, fa_eq, tI_m1, tI_0, tI_1, tI_2, tI_3, tI_4, tI_5, tI_7, tI_8, tI_10, tI_15, tI_16, tI_20, tI_31, tI_125, tI_191, tI_255, tI_256, tI_980, tI_1000, tI_4095, tI_4096, tI_8191, tI_8192, tI_16383, tI_16384, tI_32767, tI_32768, tI_33791, tI_33792, tI_40959, tI_40960, tI_65535, tI_65536] at c8_2); (try simp only [fa_lt, fa_le, fa_eq, tI_m1, tI_0, tI_1, tI_2, tI_3, tI_4, tI_5, tI_7, tI_8, tI_10, tI_15, tI_16, tI_20, tI_31, tI_125, tI_191, tI_255, tI_256, tI_980, tI_1000, tI_4095, tI_4096, tI_8191, tI_8192, tI_16383, tI_16384, tI_32767, tI_32768, tI_33791, tI_33792, tI_40959, tI_40960, tI_65535, tI_65536] at c12_3); (have k0 := tI_0); (have k1 := tI_1); (have k2 := tI_2); (have k3 := tI_3); unfold sp_pixel; (repeat' split) <;> first | rfl | omega | (simp only [fa_lt, fa_le, fa_eq, tI_m1, tI_0, tI_1, tI_2, tI_3, tI_4, tI_5, tI_7, tI_8, tI_10, tI_15, tI_16, tI_20, tI_31, tI_125, tI_191, tI_255, tI_256, tI_980, tI_1000, tI_4095, tI_4096, tI_8191, tI_8192, tI_16383, tI_16384, tI_32767, tI_32768, tI_33791, tI_33792, tI_40959, tI_40960, tI_65535, tI_65536]; omega))), by rw [ht]; exact hP9, va_K.moved hW.alike hK9, hD9⟩, hS.F ht⟩) hS.2.2 dX6_pixel_23
      · refine lv_iload_n hx hb dX6_pixel_15 rfl (lv_at hl 2 rfl) ?_
        refine lv_sipush (v := 191) hx hb dX6_pixel_16 (by decide) ?_
        refine lv_icmp_le (tgt := 24) hx hb dX6_pixel_19 (by decide) (fun c19_4 => ?_) (fun c19_4 => ?_)
        · refine lv_aload_n hx hb dX6_pixel_24 rfl (lv_at hl 0 rfl) ?_
          refine va_get (D := (dC, dI)) (ci := 6) (v := .ref pi) (C := RX6) (T := TX6) (N := 7) hx hb hts in_X6_pixel_X6 hown hK hP 0 rfl rfl 1 (by decide) (hts (.fieldLink RX6 21 "WorkspaceBox" "picture" "LWorkspaceBox$Picture;") (by decide +kernel)) (fun _ h9 => h9) rfl dX6_pixel_25 ?_
          refine lv_iload_n hx hb dX6_pixel_28 rfl (lv_at hl 1 rfl) ?_
          refine lv_iload_n hx hb dX6_pixel_29 rfl (lv_at hl 2 rfl) ?_
          have hPc := hP.sub (ws' := [(pi, .inr (3, [.ref pb, .ref pr, .int 0, .int 0, .int (-1), .int 0])), (pr, .inl (cr, 8, .inl (fun _ => 0)))]) [1, 2] rfl
          have hDc := hD.sub (ws' := [(pi, .inr (3, [.ref pb, .ref pr, .int 0, .int 0, .int (-1), .int 0])), (pr, .inl (cr, 8, .inl (fun _ => 0)))]) [1, 2] (by decide) rfl
          have hKc := hK.sub (tys' := [(cr, .int)]) [0] rfl
          have hFc := va_free (wc := [(pi, .inr (3, [.ref pb, .ref pr, .int 0, .int 0, .int (-1), .int 0])), (pr, .inl (cr, 8, .inl (fun _ => 0)))]) hD hS hA [1, 2] rfl
          refine va_calli (va_runV (As := [.int p0, .int p1]) (rest := []) ⟨hx, hb, hml, hown, hts⟩ (k_colourAt l dC dI x tb ta pi pb pa pr gr gb ga wi wa me rb ra mb ma qb qa pu ct cp cr cg cw c1 c2 c3 p0 p1 s.heap.size) (cwV 2 hts gX6_pixel_X3_colourAt rfl rfl rfl (by decide +kernel) ⟨Nat.le_of_ble_eq_true rfl, Nat.le_of_ble_eq_true rfl⟩) ⟨fun a U g mk q => by obtain ⟨q0, q1, qP, qK, qD⟩ := q; exact ⟨q0, q1, qP, va_K.moved (u := U) (U := U.calling g mk a) (Vm.Alike.refl U.vm) qK, qD⟩, va_recv hKc hPc (ci := 3) (q0 := 0) rfl rfl, fun U hU hW => ⟨rfl, by rw [hU], by rw [hU]; exact hPc, va_K.moved hW.alike hKc, hDc.weaken (fun _ _ _ _ => trivial)⟩⟩ rfl rfl hl.1 rfl (lv_room (Nat.le_of_ble_eq_true rfl)) dX6_pixel_30 ⟨Nat.le_of_ble_eq_true rfl, Nat.le_of_ble_eq_true rfl⟩) hS (fun q _ h => hFc q h) hFc (fun r_5 u t H1 locs ht hvm hw hB hz1 hk1 hS => ?_)
          obtain ⟨hP1, hK1, hD1⟩ := hB
          rw [ht] at hP1
          have hK1 := va_K.moved hvm.symm hK1
          try dsimp only at hw
          obtain ⟨hP, hD⟩ := va_join (wr := [(x, .inr (6, [.ref tb, .ref pi, .ref gr, .ref wi, .ref me, .ref pu, .int 0]))]) (w1 := []) hP hD [1, 2] [0] rfl rfl (by decide) (by decide) hk1 hFc hP1 hD1
          have hK := (hK.sub (tys' := [(cr, .int)]) [0] rfl).app hK1
          generalize H1 = H at hP hS ⊢
          have hP : va_P (dC, dI) vwCl [(x, .inr (6, [.ref tb, .ref pi, .ref gr, .ref wi, .ref me, .ref pu, .int 0]))] H := hP
          have hD : va_D A [(x, .inr (6, [.ref tb, .ref pi, .ref gr, .ref wi, .ref me, .ref pu, .int 0]))] := hD
          have hK : va_K (dC, dI) vwCl [(cr, .int)] s := hK
          have hw_6 := hw
          obtain rfl := hw_6
          have hP9 := hP.sub (ws' := []) [] rfl
          have hD9 := hD.sub (ws' := []) [] (by decide) rfl
          have hK9 := hK.sub (tys' := []) [] rfl
          exact W.iret (v := 0) hx hb hr (fun t ht hW => ⟨⟨0, (), rfl, by (first | decide | ((try subst_vars); (try dsimp only); (try simp only [fa_lt, fa_le, fa_eq, tI_m1, tI_0, tI_1, tI_2, tI_3, tI_4, tI_5, tI_7, tI_8, tI_10, tI_15, tI_16, tI_20, tI_31, tI_125, tI_191, tI_255, tI_256, tI_980, tI_1000, tI_4095, tI_4096, tI_8191, tI_8192, tI_16383, tI_16384, tI_32767, tI_32768, tI_33791, tI_33792, tI_40959, tI_40960, tI_65535, tI_65536] at c1_1); (try simp only [fa_lt, fa_le, fa_eq, tI_m1, tI_0, tI_1, tI_2, tI_3, tI_4, tI_5, tI_7, tI_8, tI_10, tI_15, tI_16, tI_20, tI_31, tI_125, tI_191, tI_255, tI_256, tI_980, tI_1000, tI_4095, tI_4096, tI_8191, tI_8192, tI_16383, tI_16384, tI_32767, tI_32768, tI_33791, tI_33792, tI_40959, tI_40960, tI_65535, tI_65536] at c8_2); (try simp only [fa_lt, fa_le, fa_eq, tI_m1, tI_0, tI_1, tI_2, tI_3, tI_4, tI_5, tI_7, tI_8, tI_10, tI_15, tI_16, tI_20, tI_31, tI_125, tI_191, tI_255, tI_256, tI_980, tI_1000, tI_4095, tI_4096, tI_8191, tI_8192, tI_16383, tI_16384, tI_32767, tI_32768, tI_33791, tI_33792, tI_40959, tI_40960, tI_65535, tI_65536] at c12_3); (try simp only [fa_lt, fa_le, fa_eq, tI_m1, tI_0, tI_1, tI_2, tI_3, tI_4, tI_5, tI_7, tI_8, tI_10, tI_15, tI_16, tI_20, tI_31, tI_125, tI_191, tI_255, tI_256, tI_980, tI_1000, tI_4095, tI_4096, tI_8191, tI_8192, tI_16383, tI_16384, tI_32767, tI_32768, tI_33791, tI_33792, tI_40959, tI_40960, tI_65535, tI_65536] at c19_4); (try simp only [fa_lt, fa_le, fa_eq, tI_m1, tI_0, tI_1, tI_2, tI_3, tI_4, tI_5, tI_7, tI_8, tI_10, tI_15, tI_16, tI_20, tI_31, tI_125, tI_191, tI_255, tI_256, tI_980, tI_1000, tI_4095, tI_4096, tI_8191, tI_8192, tI_16383, tI_16384, tI_32767, tI_32768, tI_33791, tI_33792, tI_40959, tI_40960, tI_65535, tI_65536] at hw_6); (have k0 := tI_0); (have k1 := tI_1); (have k2 := tI_2); (have k3 := tI_3); unfold sp_pixel; (repeat' split) <;> first | rfl | omega | (simp only [fa_lt, fa_le, fa_eq, tI_m1, tI_0, tI_1, tI_2, tI_3, tI_4, tI_5, tI_7, tI_8, tI_10, tI_15, tI_16, tI_20, tI_31, tI_125, tI_191, tI_255, tI_256, tI_980, tI_1000, tI_4095, tI_4096, tI_8191, tI_8192, tI_16383, tI_16384, tI_32767, tI_32768, tI_33791, tI_33792, tI_40959, tI_40960, tI_65535, tI_65536]; omega))), by rw [ht]; exact hP9, va_K.moved hW.alike hK9, hD9⟩, hS.F ht⟩) hS.2.2 dX6_pixel_33
        · refine lv_iconst (v := (-1)) hx hb dX6_pixel_22 (by decide) ?_
          have hP9 := hP.sub (ws' := []) [] rfl
          have hD9 := hD.sub (ws' := []) [] (by decide) rfl
          have hK9 := hK.sub (tys' := []) [] rfl
          exact W.iret (v := (-1)) hx hb hr (fun t ht hW => ⟨⟨(-1), (), rfl, by (first | decide | ((try subst_vars); (try dsimp only); (try simp only [fa_lt, fa_le, fa_eq, tI_m1, tI_0, tI_1, tI_2, tI_3, tI_4, tI_5, tI_7, tI_8, tI_10, tI_15, tI_16, tI_20, tI_31, tI_125, tI_191, tI_255, tI_256, tI_980, tI_1000, tI_4095, tI_4096, tI_8191, tI_8192, tI_16383, tI_16384, tI_32767, tI_32768, tI_33791, tI_33792, tI_40959, tI_40960, tI_65535, tI_65536] at c1_1); (try simp only [fa_lt, fa_le, fa_eq, tI_m1, tI_0, tI_1, tI_2, tI_3, tI_4, tI_5, tI_7, tI_8, tI_10, tI_15, tI_16, tI_20, tI_31, tI_125, tI_191, tI_255, tI_256, tI_980, tI_1000, tI_4095, tI_4096, tI_8191, tI_8192, tI_16383, tI_16384, tI_32767, tI_32768, tI_33791, tI_33792, tI_40959, tI_40960, tI_65535, tI_65536] at c8_2); (try simp only [fa_lt, fa_le, fa_eq, tI_m1, tI_0, tI_1, tI_2, tI_3, tI_4, tI_5, tI_7, tI_8, tI_10, tI_15, tI_16, tI_20, tI_31, tI_125, tI_191, tI_255, tI_256, tI_980, tI_1000, tI_4095, tI_4096, tI_8191, tI_8192, tI_16383, tI_16384, tI_32767, tI_32768, tI_33791, tI_33792, tI_40959, tI_40960, tI_65535, tI_65536] at c12_3); (try simp only [fa_lt, fa_le, fa_eq, tI_m1, tI_0, tI_1, tI_2, tI_3, tI_4, tI_5, tI_7, tI_8, tI_10, tI_15, tI_16, tI_20, tI_31, tI_125, tI_191, tI_255, tI_256, tI_980, tI_1000, tI_4095, tI_4096, tI_8191, tI_8192, tI_16383, tI_16384, tI_32767, tI_32768, tI_33791, tI_33792, tI_40959, tI_40960, tI_65535, tI_65536] at c19_4); (have k0 := tI_0); (have k1 := tI_1); (have k2 := tI_2); (have k3 := tI_3); unfold sp_pixel; (repeat' split) <;> first | rfl | omega | (simp only [fa_lt, fa_le, fa_eq, tI_m1, tI_0, tI_1, tI_2, tI_3, tI_4, tI_5, tI_7, tI_8, tI_10, tI_15, tI_16, tI_20, tI_31, tI_125, tI_191, tI_255, tI_256, tI_980, tI_1000, tI_4095, tI_4096, tI_8191, tI_8192, tI_16383, tI_16384, tI_32767, tI_32768, tI_33791, tI_33792, tI_40959, tI_40960, tI_65535, tI_65536]; omega))), by rw [ht]; exact hP9, va_K.moved hW.alike hK9, hD9⟩, hS.F ht⟩) hS.2.2 dX6_pixel_23

