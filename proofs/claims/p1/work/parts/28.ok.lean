theorem in_X4_fetch_X4 : ∀ w ∈ wsX40, w ∈ wq_X4_fetch := by decide +kernel
set_option maxHeartbeats 1000000 in
set_option maxRecDepth 100000 in
theorem k_fetch (l : Launch) (dC : Nat → ClassId) (dI : Nat → Nat → Nat) (x tb ta pi pb pa pr gr gb ga wi wa me rb ra mb ma qb qa pu : Nat) (ct cp cr cg cw c1 c2 c3 : ClassId) (sz : Nat)  : Met l yX4_fetch wq_X4_fetch ({ frames := 0, cells := 0, slots := 0, locals := 0 }) (va_Pc [.ref pu] (fun U => U.heap.size = sz ∧ va_P (dC, dI) vwCl [(pu, .inr (4, [.ref me, .ref pi, .ref wi, .int 0, .int 0, .int 0, .int 2, .int 0, .int 0, .int 0, .int 0, .int 0]))] U.heap ∧ va_K (dC, dI) vwCl [] U ∧ va_D (fun _ => True) [(pu, .inr (4, [.ref me, .ref pi, .ref wi, .int 0, .int 0, .int 0, .int 2, .int 0, .int 0, .int 0, .int 0, .int 0]))])) (va_Qi (fun (r : Int32) (_ : Unit) => r = 0) (fun (u : Unit) (t : State) => va_P (dC, dI) vwCl [] t.heap ∧ va_K (dC, dI) vwCl [] t ∧ va_D (va_A [(pu, .inr (4, [.ref me, .ref pi, .ref wi, .int 0, .int 0, .int 0, .int 2, .int 0, .int 0, .int 0, .int 0, .int 0]))] sz) []) (va_A [(pu, .inr (4, [.ref me, .ref pi, .ref wi, .int 0, .int 0, .int 0, .int 2, .int 0, .int 0, .int 0, .int 0, .int 0]))] sz)) 0 0 (va_A [(pu, .inr (4, [.ref me, .ref pi, .ref wi, .int 0, .int 0, .int 0, .int 2, .int 0, .int 0, .int 0, .int 0, .int 0]))] sz) := by
  refine Met.ofW (cc := cX4_fetch) (maxL := 1) (ret := (some .boolean)) (by decide) rfl ?_
  intro p e s m args below meth c s₁ B hml hv
  obtain ⟨rfl, hsz, hP, hK, hD0⟩ := hv
  have hx := B.exec
  have hb := B.bytes
  have hr := B.returns
  have hts := atoms_spec (ws := wq_X4_fetch) B.pre
  have hown : s.vm.findClass RX4 = some m.cls := findClass_of_methodNamed B.named
  have hlocks := B.notSynchronized
  subst hsz
  have hD := hD0.self (sz := s.heap.size)
  generalize hAe : va_A [(pu, .inr (4, [.ref me, .ref pi, .ref wi, .int 0, .int 0, .int 0, .int 2, .int 0, .int 0, .int 0, .int 0, .int 0]))] s.heap.size = A at hD ⊢
  have hA : ∀ q : Nat, s.heap.size ≤ q → A q := fun q h => by rw [← hAe]; exact Or.inr h
  have hS : va_S A s.heap s.heap [] := va_S.rf
  have hP : va_P (dC, dI) vwCl [(pu, .inr (4, [.ref me, .ref pi, .ref wi, .int 0, .int 0, .int 0, .int 2, .int 0, .int 0, .int 0, .int 0, .int 0]))] s.heap := hP
  have hl := lv_entry ([.ref pu]) (n := 1) (Nat.le_of_ble_eq_true rfl)
  rw [lg_entry_eq]
  generalize (lg_sl ([.ref pu]) ++ List.replicate (1 - (lg_sl ([.ref pu])).length) Slot.unset).toArray = ls at hl ⊢
  have hl : lv_has ls 1 [(0, .ref pu)] := hl
  refine lv_aload_n hx hb dX4_fetch_0 rfl (lv_at hl 0 rfl) ?_
  refine va_get (D := (dC, dI)) (ci := 4) (v := .int 2) (C := RX4) (T := TX4) (N := 12) hx hb hts in_X4_fetch_X4 hown hK hP 0 rfl rfl 6 (by decide) (hts (.fieldLink RX4 9 "WorkspaceBox$Processor" "mode" "I") (by decide +kernel)) (fun _ h9 => h9) rfl dX4_fetch_1 ?_
  refine lv_iconst (v := 2) hx hb dX4_fetch_4 (by decide) ?_
  refine lv_icmp_ne (tgt := 10) hx hb dX4_fetch_5 (by decide) (fun h => absurd h (by decide)) (fun _ => ?_)
  refine lv_iconst (v := 0) hx hb dX4_fetch_8 (by decide) ?_
  have hP9 := hP.sub (ws' := []) [] rfl
  have hD9 := hD.sub (ws' := []) [] (by decide) rfl
  have hK9 := hK.sub (tys' := []) [] rfl
  exact W.zret (v := 0) hx hb hr rfl (fun t ht hW => ⟨⟨0, (), rfl, rfl, by rw [ht]; exact hP9, va_K.moved hW.alike hK9, hD9⟩, hS.F ht⟩) hS.2.2 dX4_fetch_9

theorem in_X6_run_X6 : ∀ w ∈ wsX60, w ∈ wq_X6_run := by decide +kernel
set_option maxHeartbeats 1000000 in
set_option maxRecDepth 100000 in
theorem k_run_ok (l : Launch) (dC : Nat → ClassId) (dI : Nat → Nat → Nat) (x tb ta pi pb pa pr gr gb ga wi wa me rb ra mb ma qb qa pu : Nat) (ct cp cr cg cw c1 c2 c3 : ClassId) (p0 : Int32) (sz : Nat) (hg : 0 ≤ p0.toInt ∧ p0.toInt ≤ 2000) : Met l yX6_run wq_X6_run ({ frames := 1, cells := 0, slots := 0, locals := 20 }) (va_Pc [.ref x, .int p0] (fun U => U.heap.size = sz ∧ va_P (dC, dI) vwCl [(x, .inr (6, [.ref tb, .ref pi, .ref gr, .ref wi, .ref me, .ref pu, .int 0])), (pu, .inr (4, [.ref me, .ref pi, .ref wi, .int 0, .int 0, .int 0, .int 2, .int 0, .int 0, .int 0, .int 0, .int 0]))] U.heap ∧ va_K (dC, dI) vwCl [] U ∧ va_D (fun _ => True) [(x, .inr (6, [.ref tb, .ref pi, .ref gr, .ref wi, .ref me, .ref pu, .int 0])), (pu, .inr (4, [.ref me, .ref pi, .ref wi, .int 0, .int 0, .int 0, .int 2, .int 0, .int 0, .int 0, .int 0, .int 0]))])) (va_Qi (fun (r : Int32) (_ : Unit) => r = 0) (fun (u : Unit) (t : State) => va_P (dC, dI) vwCl [] t.heap ∧ va_K (dC, dI) vwCl [] t ∧ va_D (va_A [(x, .inr (6, [.ref tb, .ref pi, .ref gr, .ref wi, .ref me, .ref pu, .int 0])), (pu, .inr (4, [.ref me, .ref pi, .ref wi, .int 0, .int 0, .int 0, .int 2, .int 0, .int 0, .int 0, .int 0, .int 0]))] sz) []) (va_A [(x, .inr (6, [.ref tb, .ref pi, .ref gr, .ref wi, .ref me, .ref pu, .int 0])), (pu, .inr (4, [.ref me, .ref pi, .ref wi, .int 0, .int 0, .int 0, .int 2, .int 0, .int 0, .int 0, .int 0, .int 0]))] sz)) 0 0 (va_A [(x, .inr (6, [.ref tb, .ref pi, .ref gr, .ref wi, .ref me, .ref pu, .int 0])), (pu, .inr (4, [.ref me, .ref pi, .ref wi, .int 0, .int 0, .int 0, .int 2, .int 0, .int 0, .int 0, .int 0, .int 0]))] sz) := by
  refine Met.ofW (cc := cX6_run) (maxL := 3) (ret := (some .int)) (by decide) rfl ?_
  intro p e s m args below meth c s₁ B hml hv
  obtain ⟨rfl, hsz, hP, hK, hD0⟩ := hv
  have hx := B.exec
  have hb := B.bytes
  have hr := B.returns
  have hts := atoms_spec (ws := wq_X6_run) B.pre
  have hown : s.vm.findClass RX6 = some m.cls := findClass_of_methodNamed B.named
  have hlocks := B.notSynchronized
  subst hsz
  have hD := hD0.self (sz := s.heap.size)
  generalize hAe : va_A [(x, .inr (6, [.ref tb, .ref pi, .ref gr, .ref wi, .ref me, .ref pu, .int 0])), (pu, .inr (4, [.ref me, .ref pi, .ref wi, .int 0, .int 0, .int 0, .int 2, .int 0, .int 0, .int 0, .int 0, .int 0]))] s.heap.size = A at hD ⊢
  have hA : ∀ q : Nat, s.heap.size ≤ q → A q := fun q h => by rw [← hAe]; exact Or.inr h
  have hS : va_S A s.heap s.heap [] := va_S.rf
  have hP : va_P (dC, dI) vwCl [(x, .inr (6, [.ref tb, .ref pi, .ref gr, .ref wi, .ref me, .ref pu, .int 0])), (pu, .inr (4, [.ref me, .ref pi, .ref wi, .int 0, .int 0, .int 0, .int 2, .int 0, .int 0, .int 0, .int 0, .int 0]))] s.heap := hP
  have hl := lv_entry ([.ref x, .int p0]) (n := 3) (Nat.le_of_ble_eq_true rfl)
  rw [lg_entry_eq]
  generalize (lg_sl ([.ref x, .int p0]) ++ List.replicate (3 - (lg_sl ([.ref x, .int p0])).length) Slot.unset).toArray = ls at hl ⊢
  have hl : lv_has ls 3 [(0, .ref x), (1, .int p0)] := hl
  refine lv_iload_n hx hb dX6_run_0 rfl (lv_at hl 1 rfl) ?_
  refine lv_if_lt (tgt := 11) hx hb dX6_run_1 (by decide) (fun h => absurd h (by simp only [fa_lt, fa_le, tI_0, tI_2000, tI_16384]; omega)) (fun _ => ?_)
  refine lv_iload_n hx hb dX6_run_4 rfl (lv_at hl 1 rfl) ?_
  refine lv_sipush (v := 2000) hx hb dX6_run_5 (by decide) ?_
  refine lv_icmp_le (tgt := 21) hx hb dX6_run_8 (by decide) (fun _ => ?_) (fun h => absurd (by simp only [fa_lt, fa_le, tI_0, tI_2000, tI_16384]; omega) h)
  refine lv_iconst (v := 0) hx hb dX6_run_21 (by decide) ?_
  refine lv_istore_n (lv' := [(2, .int 0), (0, .ref x), (1, .int p0)]) hx hb dX6_run_22 rfl hl (by decide) rfl (fun ls hl => ?_)
  refine lv_iload_n hx hb dX6_run_23 rfl (lv_at hl 0 rfl) ?_
  refine lv_iload_n hx hb dX6_run_24 rfl (lv_at hl 2 rfl) ?_
  refine lv_icmp_ge (tgt := 53) hx hb dX6_run_25 (by decide) (fun c25_1 => ?_) (fun c25_1 => ?_)
  · refine lv_iload_n hx hb dX6_run_53 rfl (lv_at hl 2 rfl) ?_
    have hP9 := hP.sub (ws' := []) [] rfl
    have hD9 := hD.sub (ws' := []) [] (by decide) rfl
    have hK9 := hK.sub (tys' := []) [] rfl
    exact W.iret (v := p0) hx hb hr (fun t ht hW => ⟨⟨p0, (), rfl, by first | rfl | ((try simp only [fa_lt, fa_le, fa_eq, tI_m1, tI_0, tI_1, tI_2, tI_3, tI_4, tI_5, tI_7, tI_8, tI_10, tI_15, tI_16, tI_20, tI_31, tI_125, tI_191, tI_255, tI_256, tI_980, tI_1000, tI_2000, tI_4095, tI_4096, tI_8191, tI_8192, tI_16383, tI_16384, tI_32767, tI_32768, tI_33791, tI_33792, tI_40959, tI_40960, tI_65535, tI_65536] at c25_1); rw [fa_eq]; simp only [tI_0]; omega), by rw [ht]; exact hP9, va_K.moved hW.alike hK9, hD9⟩, hS.F ht⟩) hS.2.2 dX6_run_54
  · refine lv_aload_n hx hb dX6_run_28 rfl (lv_at hl 1 rfl) ?_
    refine va_get (D := (dC, dI)) (ci := 6) (v := .ref pu) (C := RX6) (T := TX6) (N := 7) hx hb hts in_X6_run_X6 hown hK hP 0 rfl rfl 5 (by decide) (hts (.fieldLink RX6 55 "WorkspaceBox" "processor" "LWorkspaceBox$Processor;") (by decide +kernel)) (fun _ h9 => h9) rfl dX6_run_29 ?_
    have hPc := hP.sub (ws' := [(pu, .inr (4, [.ref me, .ref pi, .ref wi, .int 0, .int 0, .int 0, .int 2, .int 0, .int 0, .int 0, .int 0, .int 0]))]) [1] rfl
    have hDc := hD.sub (ws' := [(pu, .inr (4, [.ref me, .ref pi, .ref wi, .int 0, .int 0, .int 0, .int 2, .int 0, .int 0, .int 0, .int 0, .int 0]))]) [1] (by decide) rfl
    have hKc := hK.sub (tys' := []) [] rfl
    have hFc := va_free (wc := [(pu, .inr (4, [.ref me, .ref pi, .ref wi, .int 0, .int 0, .int 0, .int 2, .int 0, .int 0, .int 0, .int 0, .int 0]))]) hD hS hA [1] rfl
    refine va_calli (va_runV (As := []) (rest := []) ⟨hx, hb, hml, hown, hts⟩ (k_fetch l dC dI x tb ta pi pb pa pr gr gb ga wi wa me rb ra mb ma qb qa pu ct cp cr cg cw c1 c2 c3 s.heap.size) (cwV 0 hts gX6_run_X4_fetch rfl rfl rfl (by decide +kernel) ⟨Nat.le_of_ble_eq_true rfl, Nat.le_of_ble_eq_true rfl⟩) ⟨fun a U g mk q => by obtain ⟨q0, q1, qP, qK, qD⟩ := q; exact ⟨q0, q1, qP, va_K.moved (u := U) (U := U.calling g mk a) (Vm.Alike.refl U.vm) qK, qD⟩, va_recv hKc hPc (ci := 4) (q0 := 0) rfl rfl, fun U hU hW => ⟨rfl, by rw [hU], by rw [hU]; exact hPc, va_K.moved hW.alike hKc, hDc.weaken (fun _ _ _ _ => trivial)⟩⟩ rfl rfl hl.1 rfl (lv_room (Nat.le_of_ble_eq_true rfl)) dX6_run_32 ⟨Nat.le_of_ble_eq_true rfl, Nat.le_of_ble_eq_true rfl⟩) hS (fun q _ h => hFc q h) hFc (fun r_2 u t H1 locs ht hvm hw hB hz1 hk1 hS => ?_)
    obtain ⟨hP1, hK1, hD1⟩ := hB
    rw [ht] at hP1
    have hK1 := va_K.moved hvm.symm hK1
    try dsimp only at hw
    obtain ⟨hP, hD⟩ := va_join (wr := [(x, .inr (6, [.ref tb, .ref pi, .ref gr, .ref wi, .ref me, .ref pu, .int 0]))]) (w1 := []) hP hD [1] [0] rfl rfl (by decide) (by decide) hk1 hFc hP1 hD1
    have hK := (hK.sub (tys' := []) [] rfl).app hK1
    generalize H1 = H at hP hS ⊢
    have hP : va_P (dC, dI) vwCl [(x, .inr (6, [.ref tb, .ref pi, .ref gr, .ref wi, .ref me, .ref pu, .int 0]))] H := hP
    have hD : va_D A [(x, .inr (6, [.ref tb, .ref pi, .ref gr, .ref wi, .ref me, .ref pu, .int 0]))] := hD
    have hK : va_K (dC, dI) vwCl [] s := hK
    have hw_3 := hw
    obtain rfl := hw_3
    refine lv_if_ne (tgt := 40) hx hb dX6_run_35 (by decide) (fun h => absurd h (by decide)) (fun _ => ?_)
    refine lv_iload_n hx hb dX6_run_38 rfl (lv_at hl 0 rfl) ?_
    have hP9 := hP.sub (ws' := []) [] rfl
    have hD9 := hD.sub (ws' := []) [] (by decide) rfl
    have hK9 := hK.sub (tys' := []) [] rfl
    exact W.iret (v := 0) hx hb hr (fun t ht hW => ⟨⟨0, (), rfl, by first | rfl | ((try simp only [fa_lt, fa_le, fa_eq, tI_m1, tI_0, tI_1, tI_2, tI_3, tI_4, tI_5, tI_7, tI_8, tI_10, tI_15, tI_16, tI_20, tI_31, tI_125, tI_191, tI_255, tI_256, tI_980, tI_1000, tI_2000, tI_4095, tI_4096, tI_8191, tI_8192, tI_16383, tI_16384, tI_32767, tI_32768, tI_33791, tI_33792, tI_40959, tI_40960, tI_65535, tI_65536] at c25_1); (try simp only [fa_lt, fa_le, fa_eq, tI_m1, tI_0, tI_1, tI_2, tI_3, tI_4, tI_5, tI_7, tI_8, tI_10, tI_15, tI_16, tI_20, tI_31, tI_125, tI_191, tI_255, tI_256, tI_980, tI_1000, tI_2000, tI_4095, tI_4096, tI_8191, tI_8192, tI_16383, tI_16384, tI_32767, tI_32768, tI_33791, tI_33792, tI_40959, tI_40960, tI_65535, tI_65536] at hw_3); rw [fa_eq]; simp only [tI_0]; omega), by rw [ht]; exact hP9, va_K.moved hW.alike hK9, hD9⟩, hS.F ht⟩) hS.2.2 dX6_run_39

theorem in_X6_vram_X6 : ∀ w ∈ wsX60, w ∈ wq_X6_vram := by decide +kernel
theorem in_X6_vram_X3 : ∀ w ∈ wsX30, w ∈ wq_X6_vram := by decide +kernel
set_option maxHeartbeats 1000000 in
set_option maxRecDepth 100000 in
theorem k_vram_ok (l : Launch) (dC : Nat → ClassId) (dI : Nat → Nat → Nat) (x tb ta pi pb pa pr gr gb ga wi wa me rb ra mb ma qb qa pu : Nat) (ct cp cr cg cw c1 c2 c3 : ClassId) (p0 : Int32) (sz : Nat) (hg : 0 ≤ p0.toInt ∧ p0.toInt ≤ 16383) : Met l yX6_vram wq_X6_vram ({ frames := 1, cells := 0, slots := 0, locals := 22 }) (va_Pc [.ref x, .int p0] (fun U => U.heap.size = sz ∧ va_P (dC, dI) vwCl [(x, .inr (6, [.ref tb, .ref pi, .ref gr, .ref wi, .ref me, .ref pu, .int 0])), (pi, .inr (3, [.ref pb, .ref pr, .int 0, .int 0, .int (-1), .int 0])), (pb, .inr (0, [.ref pa])), (pa, .inl (cp, 2048, .inr (.inl (fun _ => 0))))] U.heap ∧ va_K (dC, dI) vwCl [(cp, .long)] U ∧ va_D (fun _ => True) [(x, .inr (6, [.ref tb, .ref pi, .ref gr, .ref wi, .ref me, .ref pu, .int 0])), (pi, .inr (3, [.ref pb, .ref pr, .int 0, .int 0, .int (-1), .int 0])), (pb, .inr (0, [.ref pa])), (pa, .inl (cp, 2048, .inr (.inl (fun _ => 0))))])) (va_Qi (fun (r : Int32) (_ : Unit) => r = 0) (fun (u : Unit) (t : State) => va_P (dC, dI) vwCl [] t.heap ∧ va_K (dC, dI) vwCl [] t ∧ va_D (va_A [(x, .inr (6, [.ref tb, .ref pi, .ref gr, .ref wi, .ref me, .ref pu, .int 0])), (pi, .inr (3, [.ref pb, .ref pr, .int 0, .int 0, .int (-1), .int 0])), (pb, .inr (0, [.ref pa])), (pa, .inl (cp, 2048, .inr (.inl (fun _ => 0))))] sz) []) (va_A [(x, .inr (6, [.ref tb, .ref pi, .ref gr, .ref wi, .ref me, .ref pu, .int 0])), (pi, .inr (3, [.ref pb, .ref pr, .int 0, .int 0, .int (-1), .int 0])), (pb, .inr (0, [.ref pa])), (pa, .inl (cp, 2048, .inr (.inl (fun _ => 0))))] sz)) 0 0 (va_A [(x, .inr (6, [.ref tb, .ref pi, .ref gr, .ref wi, .ref me, .ref pu, .int 0])), (pi, .inr (3, [.ref pb, .ref pr, .int 0, .int 0, .int (-1), .int 0])), (pb, .inr (0, [.ref pa])), (pa, .inl (cp, 2048, .inr (.inl (fun _ => 0))))] sz) := by
  refine Met.ofW (cc := cX6_vram) (maxL := 2) (ret := (some .int)) (by decide) rfl ?_
  intro p e s m args below meth c s₁ B hml hv
  obtain ⟨rfl, hsz, hP, hK, hD0⟩ := hv
  have hx := B.exec
  have hb := B.bytes
  have hr := B.returns
  have hts := atoms_spec (ws := wq_X6_vram) B.pre
  have hown : s.vm.findClass RX6 = some m.cls := findClass_of_methodNamed B.named
  have hlocks := B.notSynchronized
  subst hsz
  have hD := hD0.self (sz := s.heap.size)
  generalize hAe : va_A [(x, .inr (6, [.ref tb, .ref pi, .ref gr, .ref wi, .ref me, .ref pu, .int 0])), (pi, .inr (3, [.ref pb, .ref pr, .int 0, .int 0, .int (-1), .int 0])), (pb, .inr (0, [.ref pa])), (pa, .inl (cp, 2048, .inr (.inl (fun _ => 0))))] s.heap.size = A at hD ⊢
  have hA : ∀ q : Nat, s.heap.size ≤ q → A q := fun q h => by rw [← hAe]; exact Or.inr h
  have hS : va_S A s.heap s.heap [] := va_S.rf
  have hP : va_P (dC, dI) vwCl [(x, .inr (6, [.ref tb, .ref pi, .ref gr, .ref wi, .ref me, .ref pu, .int 0])), (pi, .inr (3, [.ref pb, .ref pr, .int 0, .int 0, .int (-1), .int 0])), (pb, .inr (0, [.ref pa])), (pa, .inl (cp, 2048, .inr (.inl (fun _ => 0))))] s.heap := hP
  have hl := lv_entry ([.ref x, .int p0]) (n := 2) (Nat.le_of_ble_eq_true rfl)
  rw [lg_entry_eq]
  generalize (lg_sl ([.ref x, .int p0]) ++ List.replicate (2 - (lg_sl ([.ref x, .int p0])).length) Slot.unset).toArray = ls at hl ⊢
  have hl : lv_has ls 2 [(0, .ref x), (1, .int p0)] := hl
  refine lv_iload_n hx hb dX6_vram_0 rfl (lv_at hl 1 rfl) ?_
  refine lv_if_lt (tgt := 11) hx hb dX6_vram_1 (by decide) (fun h => absurd h (by simp only [fa_lt, fa_le, tI_0, tI_2000, tI_16384]; omega)) (fun _ => ?_)
  refine lv_iload_n hx hb dX6_vram_4 rfl (lv_at hl 1 rfl) ?_
  refine lv_sipush (v := 16384) hx hb dX6_vram_5 (by decide) ?_
  refine lv_icmp_lt (tgt := 21) hx hb dX6_vram_8 (by decide) (fun _ => ?_) (fun h => absurd (by simp only [fa_lt, fa_le, tI_0, tI_2000, tI_16384]; omega) h)
  refine lv_aload_n hx hb dX6_vram_21 rfl (lv_at hl 0 rfl) ?_
  refine va_get (D := (dC, dI)) (ci := 6) (v := .ref pi) (C := RX6) (T := TX6) (N := 7) hx hb hts in_X6_vram_X6 hown hK hP 0 rfl rfl 1 (by decide) (hts (.fieldLink RX6 21 "WorkspaceBox" "picture" "LWorkspaceBox$Picture;") (by decide +kernel)) (fun _ h9 => h9) rfl dX6_vram_22 ?_
  refine va_get (D := (dC, dI)) (ci := 3) (v := .ref pb) (C := RX3) (T := TX3) (N := 6) hx hb hts in_X6_vram_X3 hown hK hP 1 rfl rfl 0 (by decide) (hts (.fieldLink RX6 88 "WorkspaceBox$Picture" "cells" "LWorkspaceBox$Bytes;") (by decide +kernel)) (fun _ h9 => h9) rfl dX6_vram_25 ?_
  refine lv_iload_n hx hb dX6_vram_28 rfl (lv_at hl 1 rfl) ?_
  have hPc := hP.sub (ws' := [(pb, .inr (0, [.ref pa])), (pa, .inl (cp, 2048, .inr (.inl (fun _ => 0))))]) [2, 3] rfl
  have hDc := hD.sub (ws' := [(pb, .inr (0, [.ref pa])), (pa, .inl (cp, 2048, .inr (.inl (fun _ => 0))))]) [2, 3] (by decide) rfl
  have hKc := hK.sub (tys' := [(cp, .long)]) [0] rfl
  have hFc := va_free (wc := [(pb, .inr (0, [.ref pa])), (pa, .inl (cp, 2048, .inr (.inl (fun _ => 0))))]) hD hS hA [2, 3] rfl
  refine va_calli (va_runV (As := [.int p0]) (rest := []) ⟨hx, hb, hml, hown, hts⟩ (k_Bytes_get l dC dI pb pa 2048 (fun _ => 0) cp p0 s.heap.size (by decide)) (cwV 1 hts gqX6_vram_X0_get rfl rfl rfl (by decide +kernel) ⟨Nat.le_of_ble_eq_true rfl, Nat.le_of_ble_eq_true rfl⟩) ⟨fun a U g mk q => by obtain ⟨q0, q1, qP, qK, qD⟩ := q; exact ⟨q0, q1, qP, va_K.moved (u := U) (U := U.calling g mk a) (Vm.Alike.refl U.vm) qK, qD⟩, va_recv hKc hPc (ci := 0) (q0 := 0) rfl rfl, fun U hU hW => ⟨rfl, by rw [hU], by rw [hU]; exact hPc, va_K.moved hW.alike hKc, hDc.weaken (fun _ _ _ _ => trivial)⟩⟩ rfl rfl hl.1 rfl (lv_room (Nat.le_of_ble_eq_true rfl)) dX6_vram_29 ⟨Nat.le_of_ble_eq_true rfl, Nat.le_of_ble_eq_true rfl⟩) hS (fun q _ h => hFc q h) hFc (fun r_1 u t H1 locs ht hvm hw hB hz1 hk1 hS => ?_)
  obtain ⟨hP1, hK1, hD1⟩ := hB
  rw [ht] at hP1
  have hK1 := va_K.moved hvm.symm hK1
  try dsimp only at hw
  obtain ⟨hP, hD⟩ := va_join (wr := [(x, .inr (6, [.ref tb, .ref pi, .ref gr, .ref wi, .ref me, .ref pu, .int 0])), (pi, .inr (3, [.ref pb, .ref pr, .int 0, .int 0, .int (-1), .int 0]))]) (w1 := [(pb, .inr (0, [.ref pa])), (pa, .inl (cp, 2048, .inr (.inl (fun _ => 0))))]) hP hD [2, 3] [0, 1] rfl rfl (by decide) (by decide) hk1 hFc hP1 hD1
  have hK := (hK.sub (tys' := [(cp, .long)]) [0] rfl).app hK1
  generalize H1 = H at hP hS ⊢
  have hP : va_P (dC, dI) vwCl [(x, .inr (6, [.ref tb, .ref pi, .ref gr, .ref wi, .ref me, .ref pu, .int 0])), (pi, .inr (3, [.ref pb, .ref pr, .int 0, .int 0, .int (-1), .int 0])), (pb, .inr (0, [.ref pa])), (pa, .inl (cp, 2048, .inr (.inl (fun _ => 0))))] H := hP
  have hD : va_D A [(x, .inr (6, [.ref tb, .ref pi, .ref gr, .ref wi, .ref me, .ref pu, .int 0])), (pi, .inr (3, [.ref pb, .ref pr, .int 0, .int 0, .int (-1), .int 0])), (pb, .inr (0, [.ref pa])), (pa, .inl (cp, 2048, .inr (.inl (fun _ => 0))))] := hD
  have hK : va_K (dC, dI) vwCl [(cp, .long), (cp, .long)] s := hK
  have hw_2 := hw
  obtain rfl := hw_2 (fun _ => rfl)
  have hP9 := hP.sub (ws' := []) [] rfl
  have hD9 := hD.sub (ws' := []) [] (by decide) rfl
  have hK9 := hK.sub (tys' := []) [] rfl
  exact W.iret (v := 0) hx hb hr (fun t ht hW => ⟨⟨0, (), rfl, rfl, by rw [ht]; exact hP9, va_K.moved hW.alike hK9, hD9⟩, hS.F ht⟩) hS.2.2 dX6_vram_32

set_option maxHeartbeats 1000000 in
set_option maxRecDepth 100000 in
theorem l_run_ok (l : Launch) (dC : Nat → ClassId) (dI : Nat → Nat → Nat) (x tb ta pi pb pa pr gr gb ga wi wa me rb ra mb ma qb qa pu : Nat) (ct cp cr cg cw c1 c2 c3 : ClassId) (p0 : Int32) (oa : Nat) (co : ClassId) (sz : Nat) (hg : 0 ≤ p0.toInt ∧ p0.toInt ≤ 2000) : Met l yL_run wq_L_run ({ frames := 2, cells := 0, slots := 0, locals := 42 }) (va_Pc [.ref x, .int p0, .ref oa] (fun U => U.heap.size = sz ∧ va_P (dC, dI) vwCl [(x, .inr (6, [.ref tb, .ref pi, .ref gr, .ref wi, .ref me, .ref pu, .int 0])), (pu, .inr (4, [.ref me, .ref pi, .ref wi, .int 0, .int 0, .int 0, .int 2, .int 0, .int 0, .int 0, .int 0, .int 0])), (oa, .inl (co, 1, .inr (.inl (fun _ => 0))))] U.heap ∧ va_K (dC, dI) vwCl [(co, .long)] U ∧ va_D (fun _ => True) [(x, .inr (6, [.ref tb, .ref pi, .ref gr, .ref wi, .ref me, .ref pu, .int 0])), (pu, .inr (4, [.ref me, .ref pi, .ref wi, .int 0, .int 0, .int 0, .int 2, .int 0, .int 0, .int 0, .int 0, .int 0])), (oa, .inl (co, 1, .inr (.inl (fun _ => 0))))])) (va_Qi (fun (r : Int32) (u : Nat → Int64) => r = 0 ∧ u 0 = 0) (fun (u : Nat → Int64) (t : State) => va_P (dC, dI) vwCl [(oa, .inl (co, 1, .inr (.inl (u))))] t.heap ∧ va_K (dC, dI) vwCl [(co, .long)] t ∧ va_D (va_A [(x, .inr (6, [.ref tb, .ref pi, .ref gr, .ref wi, .ref me, .ref pu, .int 0])), (pu, .inr (4, [.ref me, .ref pi, .ref wi, .int 0, .int 0, .int 0, .int 2, .int 0, .int 0, .int 0, .int 0, .int 0])), (oa, .inl (co, 1, .inr (.inl (fun _ => 0))))] sz) [(oa, .inl (co, 1, .inr (.inl (u))))]) (va_A [(x, .inr (6, [.ref tb, .ref pi, .ref gr, .ref wi, .ref me, .ref pu, .int 0])), (pu, .inr (4, [.ref me, .ref pi, .ref wi, .int 0, .int 0, .int 0, .int 2, .int 0, .int 0, .int 0, .int 0, .int 0])), (oa, .inl (co, 1, .inr (.inl (fun _ => 0))))] sz)) 0 0 (va_A [(x, .inr (6, [.ref tb, .ref pi, .ref gr, .ref wi, .ref me, .ref pu, .int 0])), (pu, .inr (4, [.ref me, .ref pi, .ref wi, .int 0, .int 0, .int 0, .int 2, .int 0, .int 0, .int 0, .int 0, .int 0])), (oa, .inl (co, 1, .inr (.inl (fun _ => 0))))] sz) := by
  refine va_MetW (cc := cL_run) (maxL := 4) (ret := (some .int)) (hh := [(0, 9, 12, 13)]) (by decide) rfl ?_
  intro p e s m args below meth c s₁ B hml hv
  obtain ⟨rfl, hsz, hP, hK, hD0⟩ := hv
  have hx := B.exec
  have hb := B.bytes
  have hr := B.returns
  have hts := atoms_spec (ws := wq_L_run) B.pre
  have hown : s.vm.findClass RL = some m.cls := findClass_of_methodNamed B.named
  have hlocks := B.notSynchronized
  subst hsz
  have hD := hD0.self (sz := s.heap.size)
  generalize hAe : va_A [(x, .inr (6, [.ref tb, .ref pi, .ref gr, .ref wi, .ref me, .ref pu, .int 0])), (pu, .inr (4, [.ref me, .ref pi, .ref wi, .int 0, .int 0, .int 0, .int 2, .int 0, .int 0, .int 0, .int 0, .int 0])), (oa, .inl (co, 1, .inr (.inl (fun _ => 0))))] s.heap.size = A at hD ⊢
  have hA : ∀ q : Nat, s.heap.size ≤ q → A q := fun q h => by rw [← hAe]; exact Or.inr h
  have hS : va_S A s.heap s.heap [] := va_S.rf
  have hP : va_P (dC, dI) vwCl [(x, .inr (6, [.ref tb, .ref pi, .ref gr, .ref wi, .ref me, .ref pu, .int 0])), (pu, .inr (4, [.ref me, .ref pi, .ref wi, .int 0, .int 0, .int 0, .int 2, .int 0, .int 0, .int 0, .int 0, .int 0])), (oa, .inl (co, 1, .inr (.inl (fun _ => 0))))] s.heap := hP
  have hl := lv_entry ([.ref x, .int p0, .ref oa]) (n := 4) (Nat.le_of_ble_eq_true rfl)
  rw [lg_entry_eq]
  generalize (lg_sl ([.ref x, .int p0, .ref oa]) ++ List.replicate (4 - (lg_sl ([.ref x, .int p0, .ref oa])).length) Slot.unset).toArray = ls at hl ⊢
  have hl : lv_has ls 4 [(0, .ref x), (1, .int p0), (2, .ref oa)] := hl
  refine lv_aload_n hx hb dL_run_0 rfl (lv_at hl 2 rfl) ?_
  refine lv_iconst (v := 0) hx hb dL_run_1 (by decide) ?_
  refine lv_aload_n hx hb dL_run_2 rfl (lv_at hl 0 rfl) ?_
  refine lv_iload_n hx hb dL_run_3 rfl (lv_at hl 1 rfl) ?_
  have hPc := hP.sub (ws' := [(x, .inr (6, [.ref tb, .ref pi, .ref gr, .ref wi, .ref me, .ref pu, .int 0])), (pu, .inr (4, [.ref me, .ref pi, .ref wi, .int 0, .int 0, .int 0, .int 2, .int 0, .int 0, .int 0, .int 0, .int 0]))]) [0, 1] rfl
  have hDc := hD.sub (ws' := [(x, .inr (6, [.ref tb, .ref pi, .ref gr, .ref wi, .ref me, .ref pu, .int 0])), (pu, .inr (4, [.ref me, .ref pi, .ref wi, .int 0, .int 0, .int 0, .int 2, .int 0, .int 0, .int 0, .int 0, .int 0]))]) [0, 1] (by decide) rfl
  have hKc := hK.sub (tys' := []) [] rfl
  have hFc := va_free (wc := [(x, .inr (6, [.ref tb, .ref pi, .ref gr, .ref wi, .ref me, .ref pu, .int 0])), (pu, .inr (4, [.ref me, .ref pi, .ref wi, .int 0, .int 0, .int 0, .int 2, .int 0, .int 0, .int 0, .int 0, .int 0]))]) hD hS hA [0, 1] rfl
  refine va_calli (va_runV (As := [.int p0]) (rest := [.int 0, .ref oa]) ⟨hx, hb, hml, hown, hts⟩ (k_run_ok l dC dI x tb ta pi pb pa pr gr gb ga wi wa me rb ra mb ma qb qa pu ct cp cr cg cw c1 c2 c3 p0 s.heap.size hg) (cwV 1 hts gL_run_X6_run rfl rfl rfl (by decide +kernel) ⟨Nat.le_of_ble_eq_true rfl, Nat.le_of_ble_eq_true rfl⟩) ⟨fun a U g mk q => by obtain ⟨q0, q1, qP, qK, qD⟩ := q; exact ⟨q0, q1, qP, va_K.moved (u := U) (U := U.calling g mk a) (Vm.Alike.refl U.vm) qK, qD⟩, va_recv hKc hPc (ci := 6) (q0 := 0) rfl rfl, fun U hU hW => ⟨rfl, by rw [hU], by rw [hU]; exact hPc, va_K.moved hW.alike hKc, hDc.weaken (fun _ _ _ _ => trivial)⟩⟩ rfl rfl hl.1 rfl (lv_room (Nat.le_of_ble_eq_true rfl)) dL_run_4 ⟨Nat.le_of_ble_eq_true rfl, Nat.le_of_ble_eq_true rfl⟩) hS (fun q _ h => hFc q h) hFc (fun r_1 u t H1 locs ht hvm hw hB hz1 hk1 hS => ?_)
  obtain ⟨hP1, hK1, hD1⟩ := hB
  rw [ht] at hP1
  have hK1 := va_K.moved hvm.symm hK1
  try dsimp only at hw
  obtain ⟨hP, hD⟩ := va_join (wr := [(oa, .inl (co, 1, .inr (.inl (fun _ => 0))))]) (w1 := []) hP hD [0, 1] [2] rfl rfl (by decide) (by decide) hk1 hFc hP1 hD1
  have hK := (hK.sub (tys' := [(co, .long)]) [0] rfl).app hK1
  generalize H1 = H at hP hS ⊢
  have hP : va_P (dC, dI) vwCl [(oa, .inl (co, 1, .inr (.inl (fun _ => 0))))] H := hP
  have hD : va_D A [(oa, .inl (co, 1, .inr (.inl (fun _ => 0))))] := hD
  have hK : va_K (dC, dI) vwCl [(co, .long)] s := hK
  have hw_2 := hw
  obtain rfl := hw_2
  refine lv_i2l hx hb dL_run_7 rfl ?_
  refine lv_topl (fun y_3 ey_3 => ?_)
  obtain rfl : y_3 = 0 := ey_3.trans (by decide)
  refine va_last hx hb hK hP hD hS 0 0 rfl rfl (by unfold vp_in; decide) dL_run_8 (fun H locs hP hD hS => ?_)
  obtain ⟨f_4, ef_4⟩ : ∃ g, g = vp_updL (fun _ => 0) (0 : Int32).toNatClampNeg 0 := ⟨_, rfl⟩
  have hP : va_P (dC, dI) vwCl [(oa, .inl (co, 1, .inr (.inl (f_4))))] H := by rw [ef_4]; exact hP
  have hD : va_D A [(oa, .inl (co, 1, .inr (.inl (f_4))))] := by rw [ef_4]; exact hD
  refine lv_goto (tgt := 15) hx hb dL_run_9 (by decide) ?_
  refine lv_iconst (v := 0) hx hb dL_run_15 (by decide) ?_
  have hP9 := hP.sub (ws' := [(oa, .inl (co, 1, .inr (.inl (f_4))))]) [0] rfl
  have hD9 := hD.sub (ws' := [(oa, .inl (co, 1, .inr (.inl (f_4))))]) [0] (by decide) rfl
  have hK9 := hK.sub (tys' := [(co, .long)]) [0] rfl
  exact W.iret (v := 0) hx hb hr (fun t ht hW => ⟨⟨0, f_4, rfl, ⟨rfl, by subst_vars; rfl⟩, by rw [ht]; exact hP9, va_K.moved hW.alike hK9, hD9⟩, hS.F ht⟩) hS.2.2 dL_run_16

set_option maxHeartbeats 1000000 in
set_option maxRecDepth 100000 in
theorem l_vram_ok (l : Launch) (dC : Nat → ClassId) (dI : Nat → Nat → Nat) (x tb ta pi pb pa pr gr gb ga wi wa me rb ra mb ma qb qa pu : Nat) (ct cp cr cg cw c1 c2 c3 : ClassId) (p0 : Int32) (oa : Nat) (co : ClassId) (sz : Nat) (hg : 0 ≤ p0.toInt ∧ p0.toInt ≤ 16383) : Met l yL_vram wq_L_vram ({ frames := 2, cells := 0, slots := 0, locals := 43 }) (va_Pc [.ref x, .int p0, .ref oa] (fun U => U.heap.size = sz ∧ va_P (dC, dI) vwCl [(x, .inr (6, [.ref tb, .ref pi, .ref gr, .ref wi, .ref me, .ref pu, .int 0])), (pi, .inr (3, [.ref pb, .ref pr, .int 0, .int 0, .int (-1), .int 0])), (pb, .inr (0, [.ref pa])), (pa, .inl (cp, 2048, .inr (.inl (fun _ => 0)))), (oa, .inl (co, 1, .inr (.inl (fun _ => 0))))] U.heap ∧ va_K (dC, dI) vwCl [(cp, .long), (co, .long)] U ∧ va_D (fun _ => True) [(x, .inr (6, [.ref tb, .ref pi, .ref gr, .ref wi, .ref me, .ref pu, .int 0])), (pi, .inr (3, [.ref pb, .ref pr, .int 0, .int 0, .int (-1), .int 0])), (pb, .inr (0, [.ref pa])), (pa, .inl (cp, 2048, .inr (.inl (fun _ => 0)))), (oa, .inl (co, 1, .inr (.inl (fun _ => 0))))])) (va_Qi (fun (r : Int32) (u : Nat → Int64) => r = 0 ∧ u 0 = 0) (fun (u : Nat → Int64) (t : State) => va_P (dC, dI) vwCl [(oa, .inl (co, 1, .inr (.inl (u))))] t.heap ∧ va_K (dC, dI) vwCl [(co, .long)] t ∧ va_D (va_A [(x, .inr (6, [.ref tb, .ref pi, .ref gr, .ref wi, .ref me, .ref pu, .int 0])), (pi, .inr (3, [.ref pb, .ref pr, .int 0, .int 0, .int (-1), .int 0])), (pb, .inr (0, [.ref pa])), (pa, .inl (cp, 2048, .inr (.inl (fun _ => 0)))), (oa, .inl (co, 1, .inr (.inl (fun _ => 0))))] sz) [(oa, .inl (co, 1, .inr (.inl (u))))]) (va_A [(x, .inr (6, [.ref tb, .ref pi, .ref gr, .ref wi, .ref me, .ref pu, .int 0])), (pi, .inr (3, [.ref pb, .ref pr, .int 0, .int 0, .int (-1), .int 0])), (pb, .inr (0, [.ref pa])), (pa, .inl (cp, 2048, .inr (.inl (fun _ => 0)))), (oa, .inl (co, 1, .inr (.inl (fun _ => 0))))] sz)) 0 0 (va_A [(x, .inr (6, [.ref tb, .ref pi, .ref gr, .ref wi, .ref me, .ref pu, .int 0])), (pi, .inr (3, [.ref pb, .ref pr, .int 0, .int 0, .int (-1), .int 0])), (pb, .inr (0, [.ref pa])), (pa, .inl (cp, 2048, .inr (.inl (fun _ => 0)))), (oa, .inl (co, 1, .inr (.inl (fun _ => 0))))] sz) := by
  refine va_MetW (cc := cL_vram) (maxL := 4) (ret := (some .int)) (hh := [(0, 9, 12, 18)]) (by decide) rfl ?_
  intro p e s m args below meth c s₁ B hml hv
  obtain ⟨rfl, hsz, hP, hK, hD0⟩ := hv
  have hx := B.exec
  have hb := B.bytes
  have hr := B.returns
  have hts := atoms_spec (ws := wq_L_vram) B.pre
  have hown : s.vm.findClass RL = some m.cls := findClass_of_methodNamed B.named
  have hlocks := B.notSynchronized
  subst hsz
  have hD := hD0.self (sz := s.heap.size)
  generalize hAe : va_A [(x, .inr (6, [.ref tb, .ref pi, .ref gr, .ref wi, .ref me, .ref pu, .int 0])), (pi, .inr (3, [.ref pb, .ref pr, .int 0, .int 0, .int (-1), .int 0])), (pb, .inr (0, [.ref pa])), (pa, .inl (cp, 2048, .inr (.inl (fun _ => 0)))), (oa, .inl (co, 1, .inr (.inl (fun _ => 0))))] s.heap.size = A at hD ⊢
  have hA : ∀ q : Nat, s.heap.size ≤ q → A q := fun q h => by rw [← hAe]; exact Or.inr h
  have hS : va_S A s.heap s.heap [] := va_S.rf
  have hP : va_P (dC, dI) vwCl [(x, .inr (6, [.ref tb, .ref pi, .ref gr, .ref wi, .ref me, .ref pu, .int 0])), (pi, .inr (3, [.ref pb, .ref pr, .int 0, .int 0, .int (-1), .int 0])), (pb, .inr (0, [.ref pa])), (pa, .inl (cp, 2048, .inr (.inl (fun _ => 0)))), (oa, .inl (co, 1, .inr (.inl (fun _ => 0))))] s.heap := hP
  have hl := lv_entry ([.ref x, .int p0, .ref oa]) (n := 4) (Nat.le_of_ble_eq_true rfl)
  rw [lg_entry_eq]
  generalize (lg_sl ([.ref x, .int p0, .ref oa]) ++ List.replicate (4 - (lg_sl ([.ref x, .int p0, .ref oa])).length) Slot.unset).toArray = ls at hl ⊢
  have hl : lv_has ls 4 [(0, .ref x), (1, .int p0), (2, .ref oa)] := hl
  refine lv_aload_n hx hb dL_vram_0 rfl (lv_at hl 2 rfl) ?_
  refine lv_iconst (v := 0) hx hb dL_vram_1 (by decide) ?_
  refine lv_aload_n hx hb dL_vram_2 rfl (lv_at hl 0 rfl) ?_
  refine lv_iload_n hx hb dL_vram_3 rfl (lv_at hl 1 rfl) ?_
  have hPc := hP.sub (ws' := [(x, .inr (6, [.ref tb, .ref pi, .ref gr, .ref wi, .ref me, .ref pu, .int 0])), (pi, .inr (3, [.ref pb, .ref pr, .int 0, .int 0, .int (-1), .int 0])), (pb, .inr (0, [.ref pa])), (pa, .inl (cp, 2048, .inr (.inl (fun _ => 0))))]) [0, 1, 2, 3] rfl
  have hDc := hD.sub (ws' := [(x, .inr (6, [.ref tb, .ref pi, .ref gr, .ref wi, .ref me, .ref pu, .int 0])), (pi, .inr (3, [.ref pb, .ref pr, .int 0, .int 0, .int (-1), .int 0])), (pb, .inr (0, [.ref pa])), (pa, .inl (cp, 2048, .inr (.inl (fun _ => 0))))]) [0, 1, 2, 3] (by decide) rfl
  have hKc := hK.sub (tys' := [(cp, .long)]) [0] rfl
  have hFc := va_free (wc := [(x, .inr (6, [.ref tb, .ref pi, .ref gr, .ref wi, .ref me, .ref pu, .int 0])), (pi, .inr (3, [.ref pb, .ref pr, .int 0, .int 0, .int (-1), .int 0])), (pb, .inr (0, [.ref pa])), (pa, .inl (cp, 2048, .inr (.inl (fun _ => 0))))]) hD hS hA [0, 1, 2, 3] rfl
  refine va_calli (va_runV (As := [.int p0]) (rest := [.int 0, .ref oa]) ⟨hx, hb, hml, hown, hts⟩ (k_vram_ok l dC dI x tb ta pi pb pa pr gr gb ga wi wa me rb ra mb ma qb qa pu ct cp cr cg cw c1 c2 c3 p0 s.heap.size hg) (cwV 1 hts gL_vram_X6_vram rfl rfl rfl (by decide +kernel) ⟨Nat.le_of_ble_eq_true rfl, Nat.le_of_ble_eq_true rfl⟩) ⟨fun a U g mk q => by obtain ⟨q0, q1, qP, qK, qD⟩ := q; exact ⟨q0, q1, qP, va_K.moved (u := U) (U := U.calling g mk a) (Vm.Alike.refl U.vm) qK, qD⟩, va_recv hKc hPc (ci := 6) (q0 := 0) rfl rfl, fun U hU hW => ⟨rfl, by rw [hU], by rw [hU]; exact hPc, va_K.moved hW.alike hKc, hDc.weaken (fun _ _ _ _ => trivial)⟩⟩ rfl rfl hl.1 rfl (lv_room (Nat.le_of_ble_eq_true rfl)) dL_vram_4 ⟨Nat.le_of_ble_eq_true rfl, Nat.le_of_ble_eq_true rfl⟩) hS (fun q _ h => hFc q h) hFc (fun r_1 u t H1 locs ht hvm hw hB hz1 hk1 hS => ?_)
  obtain ⟨hP1, hK1, hD1⟩ := hB
  rw [ht] at hP1
  have hK1 := va_K.moved hvm.symm hK1
  try dsimp only at hw
  obtain ⟨hP, hD⟩ := va_join (wr := [(oa, .inl (co, 1, .inr (.inl (fun _ => 0))))]) (w1 := []) hP hD [0, 1, 2, 3] [4] rfl rfl (by decide) (by decide) hk1 hFc hP1 hD1
  have hK := (hK.sub (tys' := [(cp, .long), (co, .long)]) [0, 1] rfl).app hK1
  generalize H1 = H at hP hS ⊢
  have hP : va_P (dC, dI) vwCl [(oa, .inl (co, 1, .inr (.inl (fun _ => 0))))] H := hP
  have hD : va_D A [(oa, .inl (co, 1, .inr (.inl (fun _ => 0))))] := hD
  have hK : va_K (dC, dI) vwCl [(cp, .long), (co, .long)] s := hK
  have hw_2 := hw
  obtain rfl := hw_2
  refine lv_i2l hx hb dL_vram_7 rfl ?_
  refine lv_topl (fun y_3 ey_3 => ?_)
  obtain rfl : y_3 = 0 := ey_3.trans (by decide)
  refine va_last hx hb hK hP hD hS 0 1 rfl rfl (by unfold vp_in; decide) dL_vram_8 (fun H locs hP hD hS => ?_)
  obtain ⟨f_4, ef_4⟩ : ∃ g, g = vp_updL (fun _ => 0) (0 : Int32).toNatClampNeg 0 := ⟨_, rfl⟩
  have hP : va_P (dC, dI) vwCl [(oa, .inl (co, 1, .inr (.inl (f_4))))] H := by rw [ef_4]; exact hP
  have hD : va_D A [(oa, .inl (co, 1, .inr (.inl (f_4))))] := by rw [ef_4]; exact hD
  refine lv_goto (tgt := 15) hx hb dL_vram_9 (by decide) ?_
  refine lv_iconst (v := 0) hx hb dL_vram_15 (by decide) ?_
  have hP9 := hP.sub (ws' := [(oa, .inl (co, 1, .inr (.inl (f_4))))]) [0] rfl
  have hD9 := hD.sub (ws' := [(oa, .inl (co, 1, .inr (.inl (f_4))))]) [0] (by decide) rfl
  have hK9 := hK.sub (tys' := [(co, .long)]) [1] rfl
  exact W.iret (v := 0) hx hb hr (fun t ht hW => ⟨⟨0, f_4, rfl, ⟨rfl, by subst_vars; rfl⟩, by rw [ht]; exact hP9, va_K.moved hW.alike hK9, hD9⟩, hS.F ht⟩) hS.2.2 dL_vram_16

