theorem in_X6_append_X6 : ∀ w ∈ wsX60, w ∈ wsX6_append := by decide +kernel
set_option maxHeartbeats 1000000 in
set_option maxRecDepth 100000 in
theorem k_append (l : Launch) (dC : Nat → ClassId) (dI : Nat → Nat → Nat) (x tb ta pi pb pa pr gr gb ga wi wa me rb ra mb ma qb qa pu : Nat) (ct cp cr cg cw c1 c2 c3 : ClassId) (p0 : Int32) (tl : Int32) (f : Nat → Int64) (sz : Nat)  : Met l yX6_append wsX6_append ({ frames := 1, cells := 0, slots := 0, locals := 26 }) (va_Pc [.ref x, .int p0] (fun U => U.heap.size = sz ∧ va_P (dC, dI) vwCl [(x, .inr (6, [.ref tb, .ref pi, .ref gr, .ref wi, .ref me, .ref pu, .int tl])), (tb, .inr (0, [.ref ta])), (ta, .inl (ct, 125, .inr (.inl (f))))] U.heap ∧ va_K (dC, dI) vwCl [(ct, .long)] U ∧ va_D (fun _ => True) [(x, .inr (6, [.ref tb, .ref pi, .ref gr, .ref wi, .ref me, .ref pu, .int tl])), (tb, .inr (0, [.ref ta])), (ta, .inl (ct, 125, .inr (.inl (f))))])) (va_Qv (fun (u : Int32 × (Nat → Int64)) => u.1 = tl + 1 + 1 + 1 + 1) (fun (u : Int32 × (Nat → Int64)) (t : State) => va_P (dC, dI) vwCl [(x, .inr (6, [.ref tb, .ref pi, .ref gr, .ref wi, .ref me, .ref pu, .int u.1])), (tb, .inr (0, [.ref ta])), (ta, .inl (ct, 125, .inr (.inl (u.2))))] t.heap ∧ va_K (dC, dI) vwCl [(ct, .long)] t ∧ va_D (va_A [(x, .inr (6, [.ref tb, .ref pi, .ref gr, .ref wi, .ref me, .ref pu, .int tl])), (tb, .inr (0, [.ref ta])), (ta, .inl (ct, 125, .inr (.inl (f))))] sz) [(x, .inr (6, [.ref tb, .ref pi, .ref gr, .ref wi, .ref me, .ref pu, .int u.1])), (tb, .inr (0, [.ref ta])), (ta, .inl (ct, 125, .inr (.inl (u.2))))]) (va_A [(x, .inr (6, [.ref tb, .ref pi, .ref gr, .ref wi, .ref me, .ref pu, .int tl])), (tb, .inr (0, [.ref ta])), (ta, .inl (ct, 125, .inr (.inl (f))))] sz)) 0 0 (va_A [(x, .inr (6, [.ref tb, .ref pi, .ref gr, .ref wi, .ref me, .ref pu, .int tl])), (tb, .inr (0, [.ref ta])), (ta, .inl (ct, 125, .inr (.inl (f))))] sz) := by
  refine Met.ofW (cc := cX6_append) (maxL := 3) (ret := none) (by decide) rfl ?_
  intro p e s m args below meth c s₁ B hml hv
  obtain ⟨rfl, hsz, hP, hK, hD0⟩ := hv
  have hx := B.exec
  have hb := B.bytes
  have hr := B.returns
  have hts := atoms_spec (ws := wsX6_append) B.pre
  have hown : s.vm.findClass RX6 = some m.cls := findClass_of_methodNamed B.named
  have hlocks := B.notSynchronized
  subst hsz
  have hD := hD0.self (sz := s.heap.size)
  generalize hAe : va_A [(x, .inr (6, [.ref tb, .ref pi, .ref gr, .ref wi, .ref me, .ref pu, .int tl])), (tb, .inr (0, [.ref ta])), (ta, .inl (ct, 125, .inr (.inl (f))))] s.heap.size = A at hD ⊢
  have hA : ∀ q : Nat, s.heap.size ≤ q → A q := fun q h => by rw [← hAe]; exact Or.inr h
  have hS : va_S A s.heap s.heap [] := va_S.rf
  have hP : va_P (dC, dI) vwCl [(x, .inr (6, [.ref tb, .ref pi, .ref gr, .ref wi, .ref me, .ref pu, .int tl])), (tb, .inr (0, [.ref ta])), (ta, .inl (ct, 125, .inr (.inl (f))))] s.heap := hP
  have hl := lv_entry ([.ref x, .int p0]) (n := 3) (Nat.le_of_ble_eq_true rfl)
  rw [lg_entry_eq]
  generalize (lg_sl ([.ref x, .int p0]) ++ List.replicate (3 - (lg_sl ([.ref x, .int p0])).length) Slot.unset).toArray = ls at hl ⊢
  have hl : lv_has ls 3 [(0, .ref x), (1, .int p0)] := hl
  refine lv_bipush (v := 24) hx hb dX6_append_0 (by decide) ?_
  refine lv_istore_n (lv' := [(2, .int 24), (0, .ref x), (1, .int p0)]) hx hb dX6_append_2 rfl hl (by decide) rfl (fun ls hl => ?_)
  refine lv_iload_n hx hb dX6_append_3 rfl (lv_at hl 0 rfl) ?_
  refine lv_if_lt (tgt := 37) hx hb dX6_append_4 (by decide) (fun h => absurd h (by decide)) (fun _ => ?_)
  refine lv_aload_n hx hb dX6_append_7 rfl (lv_at hl 1 rfl) ?_
  refine va_get (D := (dC, dI)) (ci := 6) (v := .ref tb) (C := RX6) (T := TX6) (N := 7) hx hb hts in_X6_append_X6 hown hK hP 0 rfl rfl 0 (by decide) (hts (.fieldLink RX6 14 "WorkspaceBox" "tape" "LWorkspaceBox$Bytes;") (by decide +kernel)) (fun _ h9 => h9) rfl dX6_append_8 ?_
  refine lv_aload_n hx hb dX6_append_11 rfl (lv_at hl 1 rfl) ?_
  refine va_get (D := (dC, dI)) (ci := 6) (v := .int tl) (C := RX6) (T := TX6) (N := 7) hx hb hts in_X6_append_X6 hown hK hP 0 rfl rfl 6 (by decide) (hts (.fieldLink RX6 59 "WorkspaceBox" "tapeLength" "I") (by decide +kernel)) (fun _ h9 => h9) rfl dX6_append_12 ?_
  refine lv_iload_n hx hb dX6_append_15 rfl (lv_at hl 2 rfl) ?_
  refine lv_iload_n hx hb dX6_append_16 rfl (lv_at hl 0 rfl) ?_
  refine lv_ishr hx hb dX6_append_17 ?_
  refine lv_topi (fun y_1 ey_1 => ?_)
  have hPc := hP.sub (ws' := [(tb, .inr (0, [.ref ta])), (ta, .inl (ct, 125, .inr (.inl (f))))]) [1, 2] rfl
  have hDc := hD.sub (ws' := [(tb, .inr (0, [.ref ta])), (ta, .inl (ct, 125, .inr (.inl (f))))]) [1, 2] (by decide) rfl
  have hKc := hK.sub (tys' := [(ct, .long)]) [0] rfl
  have hFc := va_free (wc := [(tb, .inr (0, [.ref ta])), (ta, .inl (ct, 125, .inr (.inl (f))))]) hD hS hA [1, 2] rfl
  refine va_callv (va_runV (As := [.int tl, .int y_1]) (rest := []) ⟨hx, hb, hml, hown, hts⟩ (k_Bytes_put l dC dI tb ta 125 (f) ct tl y_1 s.heap.size (by decide)) (cwV 2 hts gX6_append_X0_put rfl rfl rfl (by decide +kernel) ⟨Nat.le_of_ble_eq_true rfl, Nat.le_of_ble_eq_true rfl⟩) ⟨fun a U g mk q => by obtain ⟨q0, q1, qP, qK, qD⟩ := q; exact ⟨q0, q1, qP, va_K.moved (u := U) (U := U.calling g mk a) (Vm.Alike.refl U.vm) qK, qD⟩, va_recv hKc hPc (ci := 0) (q0 := 0) rfl rfl, fun U hU hW => ⟨rfl, by rw [hU], by rw [hU]; exact hPc, va_K.moved hW.alike hKc, hDc.weaken (fun _ _ _ _ => trivial)⟩⟩ rfl rfl hl.1 rfl (lv_room (Nat.le_of_ble_eq_true rfl)) dX6_append_18 ⟨Nat.le_of_ble_eq_true rfl, Nat.le_of_ble_eq_true rfl⟩) hS (fun q _ h => hFc q h) hFc (fun u t H1 locs ht hvm hw hB hz1 hk1 hS => ?_)
  obtain ⟨f_3, rfl⟩ : ∃ z, z = u := ⟨_, rfl⟩
  obtain ⟨hP1, hK1, hD1⟩ := hB
  rw [ht] at hP1
  have hK1 := va_K.moved hvm.symm hK1
  try dsimp only at hw
  obtain ⟨hP, hD⟩ := va_join (wr := [(x, .inr (6, [.ref tb, .ref pi, .ref gr, .ref wi, .ref me, .ref pu, .int tl]))]) (w1 := [(tb, .inr (0, [.ref ta])), (ta, .inl (ct, 125, .inr (.inl (f_3))))]) hP hD [1, 2] [0] rfl rfl (by decide) (by decide) hk1 hFc hP1 hD1
  have hK := (hK.sub (tys' := [(ct, .long)]) [0] rfl).app hK1
  generalize H1 = H at hP hS ⊢
  have hP : va_P (dC, dI) vwCl [(x, .inr (6, [.ref tb, .ref pi, .ref gr, .ref wi, .ref me, .ref pu, .int tl])), (tb, .inr (0, [.ref ta])), (ta, .inl (ct, 125, .inr (.inl (f_3))))] H := hP
  have hD : va_D A [(x, .inr (6, [.ref tb, .ref pi, .ref gr, .ref wi, .ref me, .ref pu, .int tl])), (tb, .inr (0, [.ref ta])), (ta, .inl (ct, 125, .inr (.inl (f_3))))] := hD
  have hK : va_K (dC, dI) vwCl [(ct, .long), (ct, .long)] s := hK
  have hw_4 := hw
  refine lv_aload_n hx hb dX6_append_21 rfl (lv_at hl 1 rfl) ?_
  refine lv_dup hx hb dX6_append_22 rfl ?_
  refine va_get (D := (dC, dI)) (ci := 6) (v := .int tl) (C := RX6) (T := TX6) (N := 7) hx hb hts in_X6_append_X6 hown hK hP 0 rfl rfl 6 (by decide) (hts (.fieldLink RX6 59 "WorkspaceBox" "tapeLength" "I") (by decide +kernel)) (fun _ h9 => h9) rfl dX6_append_23 ?_
  refine lv_iconst (v := 1) hx hb dX6_append_26 (by decide) ?_
  refine lv_iadd hx hb dX6_append_27 ?_
  refine lv_topi (fun y_5 ey_5 => ?_)
  refine va_put (D := (dC, dI)) (ci := 6) (v := .int y_5) (ty := .int) (C := RX6) (T := TX6) (N := 7) hx hb hts in_X6_append_X6 tyX6 tyX6_ok nmX6 hown hK hP hD hS 0 rfl rfl 6 (by decide) (hts (.fieldLink RX6 59 "WorkspaceBox" "tapeLength" "I") (by decide +kernel)) (fun _ h9 => h9) rfl (by decide +kernel) rfl rfl (Nat.le_of_ble_eq_true rfl) dX6_append_28 (fun H locs hP hD hS => ?_)
  have hP : va_P (dC, dI) vwCl [(x, .inr (6, [.ref tb, .ref pi, .ref gr, .ref wi, .ref me, .ref pu, .int y_5])), (tb, .inr (0, [.ref ta])), (ta, .inl (ct, 125, .inr (.inl (f_3))))] H := hP
  have hD : va_D A [(x, .inr (6, [.ref tb, .ref pi, .ref gr, .ref wi, .ref me, .ref pu, .int y_5])), (tb, .inr (0, [.ref ta])), (ta, .inl (ct, 125, .inr (.inl (f_3))))] := hD
  refine lv_iinc (v := 16) (lv' := [(2, .int 16), (0, .ref x), (1, .int p0)]) hx hb dX6_append_31 hl (k := 0) rfl (by decide) (by decide) rfl (fun ls hl => ?_)
  refine lv_goto (tgt := 3) hx hb dX6_append_34 (by decide) ?_
  refine lv_iload_n hx hb dX6_append_3 rfl (lv_at hl 0 rfl) ?_
  refine lv_if_lt (tgt := 37) hx hb dX6_append_4 (by decide) (fun h => absurd h (by decide)) (fun _ => ?_)
  refine lv_aload_n hx hb dX6_append_7 rfl (lv_at hl 1 rfl) ?_
  refine va_get (D := (dC, dI)) (ci := 6) (v := .ref tb) (C := RX6) (T := TX6) (N := 7) hx hb hts in_X6_append_X6 hown hK hP 0 rfl rfl 0 (by decide) (hts (.fieldLink RX6 14 "WorkspaceBox" "tape" "LWorkspaceBox$Bytes;") (by decide +kernel)) (fun _ h9 => h9) rfl dX6_append_8 ?_
  refine lv_aload_n hx hb dX6_append_11 rfl (lv_at hl 1 rfl) ?_
  refine va_get (D := (dC, dI)) (ci := 6) (v := .int y_5) (C := RX6) (T := TX6) (N := 7) hx hb hts in_X6_append_X6 hown hK hP 0 rfl rfl 6 (by decide) (hts (.fieldLink RX6 59 "WorkspaceBox" "tapeLength" "I") (by decide +kernel)) (fun _ h9 => h9) rfl dX6_append_12 ?_
  refine lv_iload_n hx hb dX6_append_15 rfl (lv_at hl 2 rfl) ?_
  refine lv_iload_n hx hb dX6_append_16 rfl (lv_at hl 0 rfl) ?_
  refine lv_ishr hx hb dX6_append_17 ?_
  refine lv_topi (fun y_6 ey_6 => ?_)
  have hPc := hP.sub (ws' := [(tb, .inr (0, [.ref ta])), (ta, .inl (ct, 125, .inr (.inl (f_3))))]) [1, 2] rfl
  have hDc := hD.sub (ws' := [(tb, .inr (0, [.ref ta])), (ta, .inl (ct, 125, .inr (.inl (f_3))))]) [1, 2] (by decide) rfl
  have hKc := hK.sub (tys' := [(ct, .long)]) [0] rfl
  have hFc := va_free (wc := [(tb, .inr (0, [.ref ta])), (ta, .inl (ct, 125, .inr (.inl (f_3))))]) hD hS hA [1, 2] rfl
  refine va_callv (va_runV (As := [.int y_5, .int y_6]) (rest := []) ⟨hx, hb, hml, hown, hts⟩ (k_Bytes_put l dC dI tb ta 125 (f_3) ct y_5 y_6 H.size (by decide)) (cwV 2 hts gX6_append_X0_put rfl rfl rfl (by decide +kernel) ⟨Nat.le_of_ble_eq_true rfl, Nat.le_of_ble_eq_true rfl⟩) ⟨fun a U g mk q => by obtain ⟨q0, q1, qP, qK, qD⟩ := q; exact ⟨q0, q1, qP, va_K.moved (u := U) (U := U.calling g mk a) (Vm.Alike.refl U.vm) qK, qD⟩, va_recv hKc hPc (ci := 0) (q0 := 0) rfl rfl, fun U hU hW => ⟨rfl, by rw [hU], by rw [hU]; exact hPc, va_K.moved hW.alike hKc, hDc.weaken (fun _ _ _ _ => trivial)⟩⟩ rfl rfl hl.1 rfl (lv_room (Nat.le_of_ble_eq_true rfl)) dX6_append_18 ⟨Nat.le_of_ble_eq_true rfl, Nat.le_of_ble_eq_true rfl⟩) hS (fun q _ h => hFc q h) hFc (fun u t H1 locs ht hvm hw hB hz1 hk1 hS => ?_)
  obtain ⟨f_8, rfl⟩ : ∃ z, z = u := ⟨_, rfl⟩
  obtain ⟨hP1, hK1, hD1⟩ := hB
  rw [ht] at hP1
  have hK1 := va_K.moved hvm.symm hK1
  try dsimp only at hw
  obtain ⟨hP, hD⟩ := va_join (wr := [(x, .inr (6, [.ref tb, .ref pi, .ref gr, .ref wi, .ref me, .ref pu, .int y_5]))]) (w1 := [(tb, .inr (0, [.ref ta])), (ta, .inl (ct, 125, .inr (.inl (f_8))))]) hP hD [1, 2] [0] rfl rfl (by decide) (by decide) hk1 hFc hP1 hD1
  have hK := (hK.sub (tys' := [(ct, .long), (ct, .long)]) [0, 1] rfl).app hK1
  generalize H1 = H at hP hS ⊢
  have hP : va_P (dC, dI) vwCl [(x, .inr (6, [.ref tb, .ref pi, .ref gr, .ref wi, .ref me, .ref pu, .int y_5])), (tb, .inr (0, [.ref ta])), (ta, .inl (ct, 125, .inr (.inl (f_8))))] H := hP
  have hD : va_D A [(x, .inr (6, [.ref tb, .ref pi, .ref gr, .ref wi, .ref me, .ref pu, .int y_5])), (tb, .inr (0, [.ref ta])), (ta, .inl (ct, 125, .inr (.inl (f_8))))] := hD
  have hK : va_K (dC, dI) vwCl [(ct, .long), (ct, .long), (ct, .long)] s := hK
  have hw_9 := hw
  refine lv_aload_n hx hb dX6_append_21 rfl (lv_at hl 1 rfl) ?_
  refine lv_dup hx hb dX6_append_22 rfl ?_
  refine va_get (D := (dC, dI)) (ci := 6) (v := .int y_5) (C := RX6) (T := TX6) (N := 7) hx hb hts in_X6_append_X6 hown hK hP 0 rfl rfl 6 (by decide) (hts (.fieldLink RX6 59 "WorkspaceBox" "tapeLength" "I") (by decide +kernel)) (fun _ h9 => h9) rfl dX6_append_23 ?_
  refine lv_iconst (v := 1) hx hb dX6_append_26 (by decide) ?_
  refine lv_iadd hx hb dX6_append_27 ?_
  refine lv_topi (fun y_10 ey_10 => ?_)
  refine va_put (D := (dC, dI)) (ci := 6) (v := .int y_10) (ty := .int) (C := RX6) (T := TX6) (N := 7) hx hb hts in_X6_append_X6 tyX6 tyX6_ok nmX6 hown hK hP hD hS 0 rfl rfl 6 (by decide) (hts (.fieldLink RX6 59 "WorkspaceBox" "tapeLength" "I") (by decide +kernel)) (fun _ h9 => h9) rfl (by decide +kernel) rfl rfl (Nat.le_of_ble_eq_true rfl) dX6_append_28 (fun H locs hP hD hS => ?_)
  have hP : va_P (dC, dI) vwCl [(x, .inr (6, [.ref tb, .ref pi, .ref gr, .ref wi, .ref me, .ref pu, .int y_10])), (tb, .inr (0, [.ref ta])), (ta, .inl (ct, 125, .inr (.inl (f_8))))] H := hP
  have hD : va_D A [(x, .inr (6, [.ref tb, .ref pi, .ref gr, .ref wi, .ref me, .ref pu, .int y_10])), (tb, .inr (0, [.ref ta])), (ta, .inl (ct, 125, .inr (.inl (f_8))))] := hD
  refine lv_iinc (v := 8) (lv' := [(2, .int 8), (0, .ref x), (1, .int p0)]) hx hb dX6_append_31 hl (k := 0) rfl (by decide) (by decide) rfl (fun ls hl => ?_)
  refine lv_goto (tgt := 3) hx hb dX6_append_34 (by decide) ?_
  refine lv_iload_n hx hb dX6_append_3 rfl (lv_at hl 0 rfl) ?_
  refine lv_if_lt (tgt := 37) hx hb dX6_append_4 (by decide) (fun h => absurd h (by decide)) (fun _ => ?_)
  refine lv_aload_n hx hb dX6_append_7 rfl (lv_at hl 1 rfl) ?_
  refine va_get (D := (dC, dI)) (ci := 6) (v := .ref tb) (C := RX6) (T := TX6) (N := 7) hx hb hts in_X6_append_X6 hown hK hP 0 rfl rfl 0 (by decide) (hts (.fieldLink RX6 14 "WorkspaceBox" "tape" "LWorkspaceBox$Bytes;") (by decide +kernel)) (fun _ h9 => h9) rfl dX6_append_8 ?_
  refine lv_aload_n hx hb dX6_append_11 rfl (lv_at hl 1 rfl) ?_
  refine va_get (D := (dC, dI)) (ci := 6) (v := .int y_10) (C := RX6) (T := TX6) (N := 7) hx hb hts in_X6_append_X6 hown hK hP 0 rfl rfl 6 (by decide) (hts (.fieldLink RX6 59 "WorkspaceBox" "tapeLength" "I") (by decide +kernel)) (fun _ h9 => h9) rfl dX6_append_12 ?_
  refine lv_iload_n hx hb dX6_append_15 rfl (lv_at hl 2 rfl) ?_
  refine lv_iload_n hx hb dX6_append_16 rfl (lv_at hl 0 rfl) ?_
  refine lv_ishr hx hb dX6_append_17 ?_
  refine lv_topi (fun y_11 ey_11 => ?_)
  have hPc := hP.sub (ws' := [(tb, .inr (0, [.ref ta])), (ta, .inl (ct, 125, .inr (.inl (f_8))))]) [1, 2] rfl
  have hDc := hD.sub (ws' := [(tb, .inr (0, [.ref ta])), (ta, .inl (ct, 125, .inr (.inl (f_8))))]) [1, 2] (by decide) rfl
  have hKc := hK.sub (tys' := [(ct, .long)]) [0] rfl
  have hFc := va_free (wc := [(tb, .inr (0, [.ref ta])), (ta, .inl (ct, 125, .inr (.inl (f_8))))]) hD hS hA [1, 2] rfl
  refine va_callv (va_runV (As := [.int y_10, .int y_11]) (rest := []) ⟨hx, hb, hml, hown, hts⟩ (k_Bytes_put l dC dI tb ta 125 (f_8) ct y_10 y_11 H.size (by decide)) (cwV 2 hts gX6_append_X0_put rfl rfl rfl (by decide +kernel) ⟨Nat.le_of_ble_eq_true rfl, Nat.le_of_ble_eq_true rfl⟩) ⟨fun a U g mk q => by obtain ⟨q0, q1, qP, qK, qD⟩ := q; exact ⟨q0, q1, qP, va_K.moved (u := U) (U := U.calling g mk a) (Vm.Alike.refl U.vm) qK, qD⟩, va_recv hKc hPc (ci := 0) (q0 := 0) rfl rfl, fun U hU hW => ⟨rfl, by rw [hU], by rw [hU]; exact hPc, va_K.moved hW.alike hKc, hDc.weaken (fun _ _ _ _ => trivial)⟩⟩ rfl rfl hl.1 rfl (lv_room (Nat.le_of_ble_eq_true rfl)) dX6_append_18 ⟨Nat.le_of_ble_eq_true rfl, Nat.le_of_ble_eq_true rfl⟩) hS (fun q _ h => hFc q h) hFc (fun u t H1 locs ht hvm hw hB hz1 hk1 hS => ?_)
  obtain ⟨f_13, rfl⟩ : ∃ z, z = u := ⟨_, rfl⟩
  obtain ⟨hP1, hK1, hD1⟩ := hB
  rw [ht] at hP1
  have hK1 := va_K.moved hvm.symm hK1
  try dsimp only at hw
  obtain ⟨hP, hD⟩ := va_join (wr := [(x, .inr (6, [.ref tb, .ref pi, .ref gr, .ref wi, .ref me, .ref pu, .int y_10]))]) (w1 := [(tb, .inr (0, [.ref ta])), (ta, .inl (ct, 125, .inr (.inl (f_13))))]) hP hD [1, 2] [0] rfl rfl (by decide) (by decide) hk1 hFc hP1 hD1
  have hK := (hK.sub (tys' := [(ct, .long), (ct, .long), (ct, .long)]) [0, 1, 2] rfl).app hK1
  generalize H1 = H at hP hS ⊢
  have hP : va_P (dC, dI) vwCl [(x, .inr (6, [.ref tb, .ref pi, .ref gr, .ref wi, .ref me, .ref pu, .int y_10])), (tb, .inr (0, [.ref ta])), (ta, .inl (ct, 125, .inr (.inl (f_13))))] H := hP
  have hD : va_D A [(x, .inr (6, [.ref tb, .ref pi, .ref gr, .ref wi, .ref me, .ref pu, .int y_10])), (tb, .inr (0, [.ref ta])), (ta, .inl (ct, 125, .inr (.inl (f_13))))] := hD
  have hK : va_K (dC, dI) vwCl [(ct, .long), (ct, .long), (ct, .long), (ct, .long)] s := hK
  have hw_14 := hw
  refine lv_aload_n hx hb dX6_append_21 rfl (lv_at hl 1 rfl) ?_
  refine lv_dup hx hb dX6_append_22 rfl ?_
  refine va_get (D := (dC, dI)) (ci := 6) (v := .int y_10) (C := RX6) (T := TX6) (N := 7) hx hb hts in_X6_append_X6 hown hK hP 0 rfl rfl 6 (by decide) (hts (.fieldLink RX6 59 "WorkspaceBox" "tapeLength" "I") (by decide +kernel)) (fun _ h9 => h9) rfl dX6_append_23 ?_
  refine lv_iconst (v := 1) hx hb dX6_append_26 (by decide) ?_
  refine lv_iadd hx hb dX6_append_27 ?_
  refine lv_topi (fun y_15 ey_15 => ?_)
  refine va_put (D := (dC, dI)) (ci := 6) (v := .int y_15) (ty := .int) (C := RX6) (T := TX6) (N := 7) hx hb hts in_X6_append_X6 tyX6 tyX6_ok nmX6 hown hK hP hD hS 0 rfl rfl 6 (by decide) (hts (.fieldLink RX6 59 "WorkspaceBox" "tapeLength" "I") (by decide +kernel)) (fun _ h9 => h9) rfl (by decide +kernel) rfl rfl (Nat.le_of_ble_eq_true rfl) dX6_append_28 (fun H locs hP hD hS => ?_)
  have hP : va_P (dC, dI) vwCl [(x, .inr (6, [.ref tb, .ref pi, .ref gr, .ref wi, .ref me, .ref pu, .int y_15])), (tb, .inr (0, [.ref ta])), (ta, .inl (ct, 125, .inr (.inl (f_13))))] H := hP
  have hD : va_D A [(x, .inr (6, [.ref tb, .ref pi, .ref gr, .ref wi, .ref me, .ref pu, .int y_15])), (tb, .inr (0, [.ref ta])), (ta, .inl (ct, 125, .inr (.inl (f_13))))] := hD
  refine lv_iinc (v := 0) (lv' := [(2, .int 0), (0, .ref x), (1, .int p0)]) hx hb dX6_append_31 hl (k := 0) rfl (by decide) (by decide) rfl (fun ls hl => ?_)
  refine lv_goto (tgt := 3) hx hb dX6_append_34 (by decide) ?_
  refine lv_iload_n hx hb dX6_append_3 rfl (lv_at hl 0 rfl) ?_
  refine lv_if_lt (tgt := 37) hx hb dX6_append_4 (by decide) (fun h => absurd h (by decide)) (fun _ => ?_)
  refine lv_aload_n hx hb dX6_append_7 rfl (lv_at hl 1 rfl) ?_
  refine va_get (D := (dC, dI)) (ci := 6) (v := .ref tb) (C := RX6) (T := TX6) (N := 7) hx hb hts in_X6_append_X6 hown hK hP 0 rfl rfl 0 (by decide) (hts (.fieldLink RX6 14 "WorkspaceBox" "tape" "LWorkspaceBox$Bytes;") (by decide +kernel)) (fun _ h9 => h9) rfl dX6_append_8 ?_
  refine lv_aload_n hx hb dX6_append_11 rfl (lv_at hl 1 rfl) ?_
  refine va_get (D := (dC, dI)) (ci := 6) (v := .int y_15) (C := RX6) (T := TX6) (N := 7) hx hb hts in_X6_append_X6 hown hK hP 0 rfl rfl 6 (by decide) (hts (.fieldLink RX6 59 "WorkspaceBox" "tapeLength" "I") (by decide +kernel)) (fun _ h9 => h9) rfl dX6_append_12 ?_
  refine lv_iload_n hx hb dX6_append_15 rfl (lv_at hl 2 rfl) ?_
  refine lv_iload_n hx hb dX6_append_16 rfl (lv_at hl 0 rfl) ?_
  refine lv_ishr hx hb dX6_append_17 ?_
  refine lv_topi (fun y_16 ey_16 => ?_)
  have hPc := hP.sub (ws' := [(tb, .inr (0, [.ref ta])), (ta, .inl (ct, 125, .inr (.inl (f_13))))]) [1, 2] rfl
  have hDc := hD.sub (ws' := [(tb, .inr (0, [.ref ta])), (ta, .inl (ct, 125, .inr (.inl (f_13))))]) [1, 2] (by decide) rfl
  have hKc := hK.sub (tys' := [(ct, .long)]) [0] rfl
  have hFc := va_free (wc := [(tb, .inr (0, [.ref ta])), (ta, .inl (ct, 125, .inr (.inl (f_13))))]) hD hS hA [1, 2] rfl
  refine va_callv (va_runV (As := [.int y_15, .int y_16]) (rest := []) ⟨hx, hb, hml, hown, hts⟩ (k_Bytes_put l dC dI tb ta 125 (f_13) ct y_15 y_16 H.size (by decide)) (cwV 2 hts gX6_append_X0_put rfl rfl rfl (by decide +kernel) ⟨Nat.le_of_ble_eq_true rfl, Nat.le_of_ble_eq_true rfl⟩) ⟨fun a U g mk q => by obtain ⟨q0, q1, qP, qK, qD⟩ := q; exact ⟨q0, q1, qP, va_K.moved (u := U) (U := U.calling g mk a) (Vm.Alike.refl U.vm) qK, qD⟩, va_recv hKc hPc (ci := 0) (q0 := 0) rfl rfl, fun U hU hW => ⟨rfl, by rw [hU], by rw [hU]; exact hPc, va_K.moved hW.alike hKc, hDc.weaken (fun _ _ _ _ => trivial)⟩⟩ rfl rfl hl.1 rfl (lv_room (Nat.le_of_ble_eq_true rfl)) dX6_append_18 ⟨Nat.le_of_ble_eq_true rfl, Nat.le_of_ble_eq_true rfl⟩) hS (fun q _ h => hFc q h) hFc (fun u t H1 locs ht hvm hw hB hz1 hk1 hS => ?_)
  obtain ⟨f_18, rfl⟩ : ∃ z, z = u := ⟨_, rfl⟩
  obtain ⟨hP1, hK1, hD1⟩ := hB
  rw [ht] at hP1
  have hK1 := va_K.moved hvm.symm hK1
  try dsimp only at hw
  obtain ⟨hP, hD⟩ := va_join (wr := [(x, .inr (6, [.ref tb, .ref pi, .ref gr, .ref wi, .ref me, .ref pu, .int y_15]))]) (w1 := [(tb, .inr (0, [.ref ta])), (ta, .inl (ct, 125, .inr (.inl (f_18))))]) hP hD [1, 2] [0] rfl rfl (by decide) (by decide) hk1 hFc hP1 hD1
  have hK := (hK.sub (tys' := [(ct, .long), (ct, .long), (ct, .long), (ct, .long)]) [0, 1, 2, 3] rfl).app hK1
  generalize H1 = H at hP hS ⊢
  have hP : va_P (dC, dI) vwCl [(x, .inr (6, [.ref tb, .ref pi, .ref gr, .ref wi, .ref me, .ref pu, .int y_15])), (tb, .inr (0, [.ref ta])), (ta, .inl (ct, 125, .inr (.inl (f_18))))] H := hP
  have hD : va_D A [(x, .inr (6, [.ref tb, .ref pi, .ref gr, .ref wi, .ref me, .ref pu, .int y_15])), (tb, .inr (0, [.ref ta])), (ta, .inl (ct, 125, .inr (.inl (f_18))))] := hD
  have hK : va_K (dC, dI) vwCl [(ct, .long), (ct, .long), (ct, .long), (ct, .long), (ct, .long)] s := hK
  have hw_19 := hw
  refine lv_aload_n hx hb dX6_append_21 rfl (lv_at hl 1 rfl) ?_
  refine lv_dup hx hb dX6_append_22 rfl ?_
  refine va_get (D := (dC, dI)) (ci := 6) (v := .int y_15) (C := RX6) (T := TX6) (N := 7) hx hb hts in_X6_append_X6 hown hK hP 0 rfl rfl 6 (by decide) (hts (.fieldLink RX6 59 "WorkspaceBox" "tapeLength" "I") (by decide +kernel)) (fun _ h9 => h9) rfl dX6_append_23 ?_
  refine lv_iconst (v := 1) hx hb dX6_append_26 (by decide) ?_
  refine lv_iadd hx hb dX6_append_27 ?_
  refine lv_topi (fun y_20 ey_20 => ?_)
  refine va_put (D := (dC, dI)) (ci := 6) (v := .int y_20) (ty := .int) (C := RX6) (T := TX6) (N := 7) hx hb hts in_X6_append_X6 tyX6 tyX6_ok nmX6 hown hK hP hD hS 0 rfl rfl 6 (by decide) (hts (.fieldLink RX6 59 "WorkspaceBox" "tapeLength" "I") (by decide +kernel)) (fun _ h9 => h9) rfl (by decide +kernel) rfl rfl (Nat.le_of_ble_eq_true rfl) dX6_append_28 (fun H locs hP hD hS => ?_)
  have hP : va_P (dC, dI) vwCl [(x, .inr (6, [.ref tb, .ref pi, .ref gr, .ref wi, .ref me, .ref pu, .int y_20])), (tb, .inr (0, [.ref ta])), (ta, .inl (ct, 125, .inr (.inl (f_18))))] H := hP
  have hD : va_D A [(x, .inr (6, [.ref tb, .ref pi, .ref gr, .ref wi, .ref me, .ref pu, .int y_20])), (tb, .inr (0, [.ref ta])), (ta, .inl (ct, 125, .inr (.inl (f_18))))] := hD
  refine lv_iinc (v := (-8)) (lv' := [(2, .int (-8)), (0, .ref x), (1, .int p0)]) hx hb dX6_append_31 hl (k := 0) rfl (by decide) (by decide) rfl (fun ls hl => ?_)
  refine lv_goto (tgt := 3) hx hb dX6_append_34 (by decide) ?_
  refine lv_iload_n hx hb dX6_append_3 rfl (lv_at hl 0 rfl) ?_
  refine lv_if_lt (tgt := 37) hx hb dX6_append_4 (by decide) (fun _ => ?_) (fun h => absurd (by decide) h)
  have hP9 := hP.sub (ws' := [(x, .inr (6, [.ref tb, .ref pi, .ref gr, .ref wi, .ref me, .ref pu, .int y_20])), (tb, .inr (0, [.ref ta])), (ta, .inl (ct, 125, .inr (.inl (f_18))))]) [0, 1, 2] rfl
  have hD9 := hD.sub (ws' := [(x, .inr (6, [.ref tb, .ref pi, .ref gr, .ref wi, .ref me, .ref pu, .int y_20])), (tb, .inr (0, [.ref ta])), (ta, .inl (ct, 125, .inr (.inl (f_18))))]) [0, 1, 2] (by decide) rfl
  have hK9 := hK.sub (tys' := [(ct, .long)]) [0] rfl
  exact W.vret hx hb hr (fun t ht hW => ⟨⟨(y_20, f_18), rfl, by subst_vars; rfl, by rw [ht]; exact hP9, va_K.moved hW.alike hK9, hD9⟩, hS.F ht⟩) hS.2.2 dX6_append_37

theorem in_X6_feed_X6 : ∀ w ∈ wsX60, w ∈ wsX6_feed := by decide +kernel
set_option maxHeartbeats 1000000 in
set_option maxRecDepth 100000 in
theorem k_feed (l : Launch) (dC : Nat → ClassId) (dI : Nat → Nat → Nat) (x tb ta pi pb pa pr gr gb ga wi wa me rb ra mb ma qb qa pu : Nat) (ct cp cr cg cw c1 c2 c3 : ClassId) (p0 : Int32) (p1 : Int32) (p2 : Int32) (p3 : Int32) (p4 : Int32) (sz : Nat)  : Met l yX6_feed wsX6_feed ({ frames := 2, cells := 0, slots := 0, locals := 48 }) (va_Pc [.ref x, .int p0, .int p1, .int p2, .int p3, .int p4] (fun U => U.heap.size = sz ∧ va_P (dC, dI) vwCl [(x, .inr (6, [.ref tb, .ref pi, .ref gr, .ref wi, .ref me, .ref pu, .int 0])), (tb, .inr (0, [.ref ta])), (ta, .inl (ct, 125, .inr (.inl (fun _ => 0))))] U.heap ∧ va_K (dC, dI) vwCl [(ct, .long)] U ∧ va_D (fun _ => True) [(x, .inr (6, [.ref tb, .ref pi, .ref gr, .ref wi, .ref me, .ref pu, .int 0])), (tb, .inr (0, [.ref ta])), (ta, .inl (ct, 125, .inr (.inl (fun _ => 0))))])) (va_Qi (fun (r : Int32) (_ : Unit) => r = 20) (fun (u : Unit) (t : State) => va_P (dC, dI) vwCl [] t.heap ∧ va_K (dC, dI) vwCl [] t ∧ va_D (va_A [(x, .inr (6, [.ref tb, .ref pi, .ref gr, .ref wi, .ref me, .ref pu, .int 0])), (tb, .inr (0, [.ref ta])), (ta, .inl (ct, 125, .inr (.inl (fun _ => 0))))] sz) []) (va_A [(x, .inr (6, [.ref tb, .ref pi, .ref gr, .ref wi, .ref me, .ref pu, .int 0])), (tb, .inr (0, [.ref ta])), (ta, .inl (ct, 125, .inr (.inl (fun _ => 0))))] sz)) 0 0 (va_A [(x, .inr (6, [.ref tb, .ref pi, .ref gr, .ref wi, .ref me, .ref pu, .int 0])), (tb, .inr (0, [.ref ta])), (ta, .inl (ct, 125, .inr (.inl (fun _ => 0))))] sz) := by
  refine Met.ofW (cc := cX6_feed) (maxL := 6) (ret := (some .int)) (by decide) rfl ?_
  intro p e s m args below meth c s₁ B hml hv
  obtain ⟨rfl, hsz, hP, hK, hD0⟩ := hv
  have hx := B.exec
  have hb := B.bytes
  have hr := B.returns
  have hts := atoms_spec (ws := wsX6_feed) B.pre
  have hown : s.vm.findClass RX6 = some m.cls := findClass_of_methodNamed B.named
  have hlocks := B.notSynchronized
  subst hsz
  have hD := hD0.self (sz := s.heap.size)
  generalize hAe : va_A [(x, .inr (6, [.ref tb, .ref pi, .ref gr, .ref wi, .ref me, .ref pu, .int 0])), (tb, .inr (0, [.ref ta])), (ta, .inl (ct, 125, .inr (.inl (fun _ => 0))))] s.heap.size = A at hD ⊢
  have hA : ∀ q : Nat, s.heap.size ≤ q → A q := fun q h => by rw [← hAe]; exact Or.inr h
  have hS : va_S A s.heap s.heap [] := va_S.rf
  have hP : va_P (dC, dI) vwCl [(x, .inr (6, [.ref tb, .ref pi, .ref gr, .ref wi, .ref me, .ref pu, .int 0])), (tb, .inr (0, [.ref ta])), (ta, .inl (ct, 125, .inr (.inl (fun _ => 0))))] s.heap := hP
  have hl := lv_entry ([.ref x, .int p0, .int p1, .int p2, .int p3, .int p4]) (n := 6) (Nat.le_of_ble_eq_true rfl)
  rw [lg_entry_eq]
  generalize (lg_sl ([.ref x, .int p0, .int p1, .int p2, .int p3, .int p4]) ++ List.replicate (6 - (lg_sl ([.ref x, .int p0, .int p1, .int p2, .int p3, .int p4])).length) Slot.unset).toArray = ls at hl ⊢
  have hl : lv_has ls 6 [(0, .ref x), (1, .int p0), (2, .int p1), (3, .int p2), (4, .int p3), (5, .int p4)] := hl
  refine lv_aload_n hx hb dX6_feed_0 rfl (lv_at hl 0 rfl) ?_
  refine va_get (D := (dC, dI)) (ci := 6) (v := .int 0) (C := RX6) (T := TX6) (N := 7) hx hb hts in_X6_feed_X6 hown hK hP 0 rfl rfl 6 (by decide) (hts (.fieldLink RX6 59 "WorkspaceBox" "tapeLength" "I") (by decide +kernel)) (fun _ h9 => h9) rfl dX6_feed_1 ?_
  refine lv_sipush (v := 980) hx hb dX6_feed_4 (by decide) ?_
  refine lv_icmp_le (tgt := 12) hx hb dX6_feed_7 (by decide) (fun _ => ?_) (fun h => absurd (by decide) h)
  refine lv_aload_n hx hb dX6_feed_12 rfl (lv_at hl 0 rfl) ?_
  refine lv_iload_n hx hb dX6_feed_13 rfl (lv_at hl 1 rfl) ?_
  have hPc := hP.sub (ws' := [(x, .inr (6, [.ref tb, .ref pi, .ref gr, .ref wi, .ref me, .ref pu, .int 0])), (tb, .inr (0, [.ref ta])), (ta, .inl (ct, 125, .inr (.inl (fun _ => 0))))]) [0, 1, 2] rfl
  have hDc := hD.sub (ws' := [(x, .inr (6, [.ref tb, .ref pi, .ref gr, .ref wi, .ref me, .ref pu, .int 0])), (tb, .inr (0, [.ref ta])), (ta, .inl (ct, 125, .inr (.inl (fun _ => 0))))]) [0, 1, 2] (by decide) rfl
  have hKc := hK.sub (tys' := [(ct, .long)]) [0] rfl
  have hFc := va_free (wc := [(x, .inr (6, [.ref tb, .ref pi, .ref gr, .ref wi, .ref me, .ref pu, .int 0])), (tb, .inr (0, [.ref ta])), (ta, .inl (ct, 125, .inr (.inl (fun _ => 0))))]) hD hS hA [0, 1, 2] rfl
  refine va_callv (va_runV (As := [.int p0]) (rest := []) ⟨hx, hb, hml, hown, hts⟩ (k_append l dC dI x tb ta pi pb pa pr gr gb ga wi wa me rb ra mb ma qb qa pu ct cp cr cg cw c1 c2 c3 p0 0 (fun _ => 0) s.heap.size) (cwV 1 hts gX6_feed_X6_append rfl rfl rfl (by decide +kernel) ⟨Nat.le_of_ble_eq_true rfl, Nat.le_of_ble_eq_true rfl⟩) ⟨fun a U g mk q => by obtain ⟨q0, q1, qP, qK, qD⟩ := q; exact ⟨q0, q1, qP, va_K.moved (u := U) (U := U.calling g mk a) (Vm.Alike.refl U.vm) qK, qD⟩, va_recv hKc hPc (ci := 6) (q0 := 0) rfl rfl, fun U hU hW => ⟨rfl, by rw [hU], by rw [hU]; exact hPc, va_K.moved hW.alike hKc, hDc.weaken (fun _ _ _ _ => trivial)⟩⟩ rfl rfl hl.1 rfl (lv_room (Nat.le_of_ble_eq_true rfl)) dX6_feed_14 ⟨Nat.le_of_ble_eq_true rfl, Nat.le_of_ble_eq_true rfl⟩) hS (fun q _ h => hFc q h) hFc (fun u t H1 locs ht hvm hw hB hz1 hk1 hS => ?_)
  obtain ⟨y_2, f_3⟩ := u
  obtain ⟨hP1, hK1, hD1⟩ := hB
  rw [ht] at hP1
  have hK1 := va_K.moved hvm.symm hK1
  try dsimp only at hw
  obtain ⟨hP, hD⟩ := va_join (wr := []) (w1 := [(x, .inr (6, [.ref tb, .ref pi, .ref gr, .ref wi, .ref me, .ref pu, .int y_2])), (tb, .inr (0, [.ref ta])), (ta, .inl (ct, 125, .inr (.inl (f_3))))]) hP hD [0, 1, 2] [] rfl rfl (by decide) (by decide) hk1 hFc hP1 hD1
  have hK := (hK.sub (tys' := [(ct, .long)]) [0] rfl).app hK1
  generalize H1 = H at hP hS ⊢
  have hP : va_P (dC, dI) vwCl [(x, .inr (6, [.ref tb, .ref pi, .ref gr, .ref wi, .ref me, .ref pu, .int y_2])), (tb, .inr (0, [.ref ta])), (ta, .inl (ct, 125, .inr (.inl (f_3))))] H := hP
  have hD : va_D A [(x, .inr (6, [.ref tb, .ref pi, .ref gr, .ref wi, .ref me, .ref pu, .int y_2])), (tb, .inr (0, [.ref ta])), (ta, .inl (ct, 125, .inr (.inl (f_3))))] := hD
  have hK : va_K (dC, dI) vwCl [(ct, .long), (ct, .long)] s := hK
  have hw_4 := hw
  refine lv_aload_n hx hb dX6_feed_17 rfl (lv_at hl 0 rfl) ?_
  refine lv_iload_n hx hb dX6_feed_18 rfl (lv_at hl 2 rfl) ?_
  have hPc := hP.sub (ws' := [(x, .inr (6, [.ref tb, .ref pi, .ref gr, .ref wi, .ref me, .ref pu, .int y_2])), (tb, .inr (0, [.ref ta])), (ta, .inl (ct, 125, .inr (.inl (f_3))))]) [0, 1, 2] rfl
  have hDc := hD.sub (ws' := [(x, .inr (6, [.ref tb, .ref pi, .ref gr, .ref wi, .ref me, .ref pu, .int y_2])), (tb, .inr (0, [.ref ta])), (ta, .inl (ct, 125, .inr (.inl (f_3))))]) [0, 1, 2] (by decide) rfl
  have hKc := hK.sub (tys' := [(ct, .long)]) [0] rfl
  have hFc := va_free (wc := [(x, .inr (6, [.ref tb, .ref pi, .ref gr, .ref wi, .ref me, .ref pu, .int y_2])), (tb, .inr (0, [.ref ta])), (ta, .inl (ct, 125, .inr (.inl (f_3))))]) hD hS hA [0, 1, 2] rfl
  refine va_callv (va_runV (As := [.int p1]) (rest := []) ⟨hx, hb, hml, hown, hts⟩ (k_append l dC dI x tb ta pi pb pa pr gr gb ga wi wa me rb ra mb ma qb qa pu ct cp cr cg cw c1 c2 c3 p1 y_2 (f_3) H.size) (cwV 1 hts gX6_feed_X6_append rfl rfl rfl (by decide +kernel) ⟨Nat.le_of_ble_eq_true rfl, Nat.le_of_ble_eq_true rfl⟩) ⟨fun a U g mk q => by obtain ⟨q0, q1, qP, qK, qD⟩ := q; exact ⟨q0, q1, qP, va_K.moved (u := U) (U := U.calling g mk a) (Vm.Alike.refl U.vm) qK, qD⟩, va_recv hKc hPc (ci := 6) (q0 := 0) rfl rfl, fun U hU hW => ⟨rfl, by rw [hU], by rw [hU]; exact hPc, va_K.moved hW.alike hKc, hDc.weaken (fun _ _ _ _ => trivial)⟩⟩ rfl rfl hl.1 rfl (lv_room (Nat.le_of_ble_eq_true rfl)) dX6_feed_19 ⟨Nat.le_of_ble_eq_true rfl, Nat.le_of_ble_eq_true rfl⟩) hS (fun q _ h => hFc q h) hFc (fun u t H1 locs ht hvm hw hB hz1 hk1 hS => ?_)
  obtain ⟨y_6, f_7⟩ := u
  obtain ⟨hP1, hK1, hD1⟩ := hB
  rw [ht] at hP1
  have hK1 := va_K.moved hvm.symm hK1
  try dsimp only at hw
  obtain ⟨hP, hD⟩ := va_join (wr := []) (w1 := [(x, .inr (6, [.ref tb, .ref pi, .ref gr, .ref wi, .ref me, .ref pu, .int y_6])), (tb, .inr (0, [.ref ta])), (ta, .inl (ct, 125, .inr (.inl (f_7))))]) hP hD [0, 1, 2] [] rfl rfl (by decide) (by decide) hk1 hFc hP1 hD1
  have hK := (hK.sub (tys' := [(ct, .long), (ct, .long)]) [0, 1] rfl).app hK1
  generalize H1 = H at hP hS ⊢
  have hP : va_P (dC, dI) vwCl [(x, .inr (6, [.ref tb, .ref pi, .ref gr, .ref wi, .ref me, .ref pu, .int y_6])), (tb, .inr (0, [.ref ta])), (ta, .inl (ct, 125, .inr (.inl (f_7))))] H := hP
  have hD : va_D A [(x, .inr (6, [.ref tb, .ref pi, .ref gr, .ref wi, .ref me, .ref pu, .int y_6])), (tb, .inr (0, [.ref ta])), (ta, .inl (ct, 125, .inr (.inl (f_7))))] := hD
  have hK : va_K (dC, dI) vwCl [(ct, .long), (ct, .long), (ct, .long)] s := hK
  have hw_8 := hw
  refine lv_aload_n hx hb dX6_feed_22 rfl (lv_at hl 0 rfl) ?_
  refine lv_iload_n hx hb dX6_feed_23 rfl (lv_at hl 3 rfl) ?_
  have hPc := hP.sub (ws' := [(x, .inr (6, [.ref tb, .ref pi, .ref gr, .ref wi, .ref me, .ref pu, .int y_6])), (tb, .inr (0, [.ref ta])), (ta, .inl (ct, 125, .inr (.inl (f_7))))]) [0, 1, 2] rfl
  have hDc := hD.sub (ws' := [(x, .inr (6, [.ref tb, .ref pi, .ref gr, .ref wi, .ref me, .ref pu, .int y_6])), (tb, .inr (0, [.ref ta])), (ta, .inl (ct, 125, .inr (.inl (f_7))))]) [0, 1, 2] (by decide) rfl
  have hKc := hK.sub (tys' := [(ct, .long)]) [0] rfl
  have hFc := va_free (wc := [(x, .inr (6, [.ref tb, .ref pi, .ref gr, .ref wi, .ref me, .ref pu, .int y_6])), (tb, .inr (0, [.ref ta])), (ta, .inl (ct, 125, .inr (.inl (f_7))))]) hD hS hA [0, 1, 2] rfl
  refine va_callv (va_runV (As := [.int p2]) (rest := []) ⟨hx, hb, hml, hown, hts⟩ (k_append l dC dI x tb ta pi pb pa pr gr gb ga wi wa me rb ra mb ma qb qa pu ct cp cr cg cw c1 c2 c3 p2 y_6 (f_7) H.size) (cwV 1 hts gX6_feed_X6_append rfl rfl rfl (by decide +kernel) ⟨Nat.le_of_ble_eq_true rfl, Nat.le_of_ble_eq_true rfl⟩) ⟨fun a U g mk q => by obtain ⟨q0, q1, qP, qK, qD⟩ := q; exact ⟨q0, q1, qP, va_K.moved (u := U) (U := U.calling g mk a) (Vm.Alike.refl U.vm) qK, qD⟩, va_recv hKc hPc (ci := 6) (q0 := 0) rfl rfl, fun U hU hW => ⟨rfl, by rw [hU], by rw [hU]; exact hPc, va_K.moved hW.alike hKc, hDc.weaken (fun _ _ _ _ => trivial)⟩⟩ rfl rfl hl.1 rfl (lv_room (Nat.le_of_ble_eq_true rfl)) dX6_feed_24 ⟨Nat.le_of_ble_eq_true rfl, Nat.le_of_ble_eq_true rfl⟩) hS (fun q _ h => hFc q h) hFc (fun u t H1 locs ht hvm hw hB hz1 hk1 hS => ?_)
  obtain ⟨y_10, f_11⟩ := u
  obtain ⟨hP1, hK1, hD1⟩ := hB
  rw [ht] at hP1
  have hK1 := va_K.moved hvm.symm hK1
  try dsimp only at hw
  obtain ⟨hP, hD⟩ := va_join (wr := []) (w1 := [(x, .inr (6, [.ref tb, .ref pi, .ref gr, .ref wi, .ref me, .ref pu, .int y_10])), (tb, .inr (0, [.ref ta])), (ta, .inl (ct, 125, .inr (.inl (f_11))))]) hP hD [0, 1, 2] [] rfl rfl (by decide) (by decide) hk1 hFc hP1 hD1
  have hK := (hK.sub (tys' := [(ct, .long), (ct, .long), (ct, .long)]) [0, 1, 2] rfl).app hK1
  generalize H1 = H at hP hS ⊢
  have hP : va_P (dC, dI) vwCl [(x, .inr (6, [.ref tb, .ref pi, .ref gr, .ref wi, .ref me, .ref pu, .int y_10])), (tb, .inr (0, [.ref ta])), (ta, .inl (ct, 125, .inr (.inl (f_11))))] H := hP
  have hD : va_D A [(x, .inr (6, [.ref tb, .ref pi, .ref gr, .ref wi, .ref me, .ref pu, .int y_10])), (tb, .inr (0, [.ref ta])), (ta, .inl (ct, 125, .inr (.inl (f_11))))] := hD
  have hK : va_K (dC, dI) vwCl [(ct, .long), (ct, .long), (ct, .long), (ct, .long)] s := hK
  have hw_12 := hw
  refine lv_aload_n hx hb dX6_feed_27 rfl (lv_at hl 0 rfl) ?_
  refine lv_iload hx hb dX6_feed_28 (lv_at hl 4 rfl) ?_
  have hPc := hP.sub (ws' := [(x, .inr (6, [.ref tb, .ref pi, .ref gr, .ref wi, .ref me, .ref pu, .int y_10])), (tb, .inr (0, [.ref ta])), (ta, .inl (ct, 125, .inr (.inl (f_11))))]) [0, 1, 2] rfl
  have hDc := hD.sub (ws' := [(x, .inr (6, [.ref tb, .ref pi, .ref gr, .ref wi, .ref me, .ref pu, .int y_10])), (tb, .inr (0, [.ref ta])), (ta, .inl (ct, 125, .inr (.inl (f_11))))]) [0, 1, 2] (by decide) rfl
  have hKc := hK.sub (tys' := [(ct, .long)]) [0] rfl
  have hFc := va_free (wc := [(x, .inr (6, [.ref tb, .ref pi, .ref gr, .ref wi, .ref me, .ref pu, .int y_10])), (tb, .inr (0, [.ref ta])), (ta, .inl (ct, 125, .inr (.inl (f_11))))]) hD hS hA [0, 1, 2] rfl
  refine va_callv (va_runV (As := [.int p3]) (rest := []) ⟨hx, hb, hml, hown, hts⟩ (k_append l dC dI x tb ta pi pb pa pr gr gb ga wi wa me rb ra mb ma qb qa pu ct cp cr cg cw c1 c2 c3 p3 y_10 (f_11) H.size) (cwV 1 hts gX6_feed_X6_append rfl rfl rfl (by decide +kernel) ⟨Nat.le_of_ble_eq_true rfl, Nat.le_of_ble_eq_true rfl⟩) ⟨fun a U g mk q => by obtain ⟨q0, q1, qP, qK, qD⟩ := q; exact ⟨q0, q1, qP, va_K.moved (u := U) (U := U.calling g mk a) (Vm.Alike.refl U.vm) qK, qD⟩, va_recv hKc hPc (ci := 6) (q0 := 0) rfl rfl, fun U hU hW => ⟨rfl, by rw [hU], by rw [hU]; exact hPc, va_K.moved hW.alike hKc, hDc.weaken (fun _ _ _ _ => trivial)⟩⟩ rfl rfl hl.1 rfl (lv_room (Nat.le_of_ble_eq_true rfl)) dX6_feed_30 ⟨Nat.le_of_ble_eq_true rfl, Nat.le_of_ble_eq_true rfl⟩) hS (fun q _ h => hFc q h) hFc (fun u t H1 locs ht hvm hw hB hz1 hk1 hS => ?_)
  obtain ⟨y_14, f_15⟩ := u
  obtain ⟨hP1, hK1, hD1⟩ := hB
  rw [ht] at hP1
  have hK1 := va_K.moved hvm.symm hK1
  try dsimp only at hw
  obtain ⟨hP, hD⟩ := va_join (wr := []) (w1 := [(x, .inr (6, [.ref tb, .ref pi, .ref gr, .ref wi, .ref me, .ref pu, .int y_14])), (tb, .inr (0, [.ref ta])), (ta, .inl (ct, 125, .inr (.inl (f_15))))]) hP hD [0, 1, 2] [] rfl rfl (by decide) (by decide) hk1 hFc hP1 hD1
  have hK := (hK.sub (tys' := [(ct, .long), (ct, .long), (ct, .long), (ct, .long)]) [0, 1, 2, 3] rfl).app hK1
  generalize H1 = H at hP hS ⊢
  have hP : va_P (dC, dI) vwCl [(x, .inr (6, [.ref tb, .ref pi, .ref gr, .ref wi, .ref me, .ref pu, .int y_14])), (tb, .inr (0, [.ref ta])), (ta, .inl (ct, 125, .inr (.inl (f_15))))] H := hP
  have hD : va_D A [(x, .inr (6, [.ref tb, .ref pi, .ref gr, .ref wi, .ref me, .ref pu, .int y_14])), (tb, .inr (0, [.ref ta])), (ta, .inl (ct, 125, .inr (.inl (f_15))))] := hD
  have hK : va_K (dC, dI) vwCl [(ct, .long), (ct, .long), (ct, .long), (ct, .long), (ct, .long)] s := hK
  have hw_16 := hw
  refine lv_aload_n hx hb dX6_feed_33 rfl (lv_at hl 0 rfl) ?_
  refine lv_iload hx hb dX6_feed_34 (lv_at hl 5 rfl) ?_
  have hPc := hP.sub (ws' := [(x, .inr (6, [.ref tb, .ref pi, .ref gr, .ref wi, .ref me, .ref pu, .int y_14])), (tb, .inr (0, [.ref ta])), (ta, .inl (ct, 125, .inr (.inl (f_15))))]) [0, 1, 2] rfl
  have hDc := hD.sub (ws' := [(x, .inr (6, [.ref tb, .ref pi, .ref gr, .ref wi, .ref me, .ref pu, .int y_14])), (tb, .inr (0, [.ref ta])), (ta, .inl (ct, 125, .inr (.inl (f_15))))]) [0, 1, 2] (by decide) rfl
  have hKc := hK.sub (tys' := [(ct, .long)]) [0] rfl
  have hFc := va_free (wc := [(x, .inr (6, [.ref tb, .ref pi, .ref gr, .ref wi, .ref me, .ref pu, .int y_14])), (tb, .inr (0, [.ref ta])), (ta, .inl (ct, 125, .inr (.inl (f_15))))]) hD hS hA [0, 1, 2] rfl
  refine va_callv (va_runV (As := [.int p4]) (rest := []) ⟨hx, hb, hml, hown, hts⟩ (k_append l dC dI x tb ta pi pb pa pr gr gb ga wi wa me rb ra mb ma qb qa pu ct cp cr cg cw c1 c2 c3 p4 y_14 (f_15) H.size) (cwV 1 hts gX6_feed_X6_append rfl rfl rfl (by decide +kernel) ⟨Nat.le_of_ble_eq_true rfl, Nat.le_of_ble_eq_true rfl⟩) ⟨fun a U g mk q => by obtain ⟨q0, q1, qP, qK, qD⟩ := q; exact ⟨q0, q1, qP, va_K.moved (u := U) (U := U.calling g mk a) (Vm.Alike.refl U.vm) qK, qD⟩, va_recv hKc hPc (ci := 6) (q0 := 0) rfl rfl, fun U hU hW => ⟨rfl, by rw [hU], by rw [hU]; exact hPc, va_K.moved hW.alike hKc, hDc.weaken (fun _ _ _ _ => trivial)⟩⟩ rfl rfl hl.1 rfl (lv_room (Nat.le_of_ble_eq_true rfl)) dX6_feed_36 ⟨Nat.le_of_ble_eq_true rfl, Nat.le_of_ble_eq_true rfl⟩) hS (fun q _ h => hFc q h) hFc (fun u t H1 locs ht hvm hw hB hz1 hk1 hS => ?_)
  obtain ⟨y_18, f_19⟩ := u
  obtain ⟨hP1, hK1, hD1⟩ := hB
  rw [ht] at hP1
  have hK1 := va_K.moved hvm.symm hK1
  try dsimp only at hw
  obtain ⟨hP, hD⟩ := va_join (wr := []) (w1 := [(x, .inr (6, [.ref tb, .ref pi, .ref gr, .ref wi, .ref me, .ref pu, .int y_18])), (tb, .inr (0, [.ref ta])), (ta, .inl (ct, 125, .inr (.inl (f_19))))]) hP hD [0, 1, 2] [] rfl rfl (by decide) (by decide) hk1 hFc hP1 hD1
  have hK := (hK.sub (tys' := [(ct, .long), (ct, .long), (ct, .long), (ct, .long), (ct, .long)]) [0, 1, 2, 3, 4] rfl).app hK1
  generalize H1 = H at hP hS ⊢
  have hP : va_P (dC, dI) vwCl [(x, .inr (6, [.ref tb, .ref pi, .ref gr, .ref wi, .ref me, .ref pu, .int y_18])), (tb, .inr (0, [.ref ta])), (ta, .inl (ct, 125, .inr (.inl (f_19))))] H := hP
  have hD : va_D A [(x, .inr (6, [.ref tb, .ref pi, .ref gr, .ref wi, .ref me, .ref pu, .int y_18])), (tb, .inr (0, [.ref ta])), (ta, .inl (ct, 125, .inr (.inl (f_19))))] := hD
  have hK : va_K (dC, dI) vwCl [(ct, .long), (ct, .long), (ct, .long), (ct, .long), (ct, .long), (ct, .long)] s := hK
  have hw_20 := hw
  refine lv_aload_n hx hb dX6_feed_39 rfl (lv_at hl 0 rfl) ?_
  refine va_get (D := (dC, dI)) (ci := 6) (v := .int y_18) (C := RX6) (T := TX6) (N := 7) hx hb hts in_X6_feed_X6 hown hK hP 0 rfl rfl 6 (by decide) (hts (.fieldLink RX6 59 "WorkspaceBox" "tapeLength" "I") (by decide +kernel)) (fun _ h9 => h9) rfl dX6_feed_40 ?_
  have hP9 := hP.sub (ws' := []) [] rfl
  have hD9 := hD.sub (ws' := []) [] (by decide) rfl
  have hK9 := hK.sub (tys' := []) [] rfl
  exact W.iret (v := y_18) hx hb hr (fun t ht hW => ⟨⟨y_18, (), rfl, by subst_vars; first | (simp_all; done) | (simp_all; decide) | decide, by rw [ht]; exact hP9, va_K.moved hW.alike hK9, hD9⟩, hS.F ht⟩) hS.2.2 dX6_feed_43

theorem in_X6_end_X6 : ∀ w ∈ wsX60, w ∈ wsX6_end := by decide +kernel
set_option maxHeartbeats 1000000 in
set_option maxRecDepth 100000 in
theorem k_end (l : Launch) (dC : Nat → ClassId) (dI : Nat → Nat → Nat) (x tb ta pi pb pa pr gr gb ga wi wa me rb ra mb ma qb qa pu : Nat) (ct cp cr cg cw c1 c2 c3 : ClassId) (p0 : Int32) (sz : Nat)  : Met l yX6_end wsX6_end ({ frames := 0, cells := 0, slots := 0, locals := 0 }) (va_Pc [.ref x, .int p0] (fun U => U.heap.size = sz ∧ va_P (dC, dI) vwCl [(x, .inr (6, [.ref tb, .ref pi, .ref gr, .ref wi, .ref me, .ref pu, .int 0]))] U.heap ∧ va_K (dC, dI) vwCl [] U ∧ va_D (fun _ => True) [(x, .inr (6, [.ref tb, .ref pi, .ref gr, .ref wi, .ref me, .ref pu, .int 0]))])) (va_Qi (fun (r : Int32) (_ : Unit) => r = sp_end p0) (fun (u : Unit) (t : State) => va_P (dC, dI) vwCl [] t.heap ∧ va_K (dC, dI) vwCl [] t ∧ va_D (va_A [(x, .inr (6, [.ref tb, .ref pi, .ref gr, .ref wi, .ref me, .ref pu, .int 0]))] sz) []) (va_A [(x, .inr (6, [.ref tb, .ref pi, .ref gr, .ref wi, .ref me, .ref pu, .int 0]))] sz)) 0 0 (va_A [(x, .inr (6, [.ref tb, .ref pi, .ref gr, .ref wi, .ref me, .ref pu, .int 0]))] sz) := by
  refine Met.ofW (cc := cX6_end) (maxL := 2) (ret := (some .int)) (by decide) rfl ?_
  intro p e s m args below meth c s₁ B hml hv
  obtain ⟨rfl, hsz, hP, hK, hD0⟩ := hv
  have hx := B.exec
  have hb := B.bytes
  have hr := B.returns
  have hts := atoms_spec (ws := wsX6_end) B.pre
  have hown : s.vm.findClass RX6 = some m.cls := findClass_of_methodNamed B.named
  have hlocks := B.notSynchronized
  subst hsz
  have hD := hD0.self (sz := s.heap.size)
  generalize hAe : va_A [(x, .inr (6, [.ref tb, .ref pi, .ref gr, .ref wi, .ref me, .ref pu, .int 0]))] s.heap.size = A at hD ⊢
  have hA : ∀ q : Nat, s.heap.size ≤ q → A q := fun q h => by rw [← hAe]; exact Or.inr h
  have hS : va_S A s.heap s.heap [] := va_S.rf
  have hP : va_P (dC, dI) vwCl [(x, .inr (6, [.ref tb, .ref pi, .ref gr, .ref wi, .ref me, .ref pu, .int 0]))] s.heap := hP
  have hl := lv_entry ([.ref x, .int p0]) (n := 2) (Nat.le_of_ble_eq_true rfl)
  rw [lg_entry_eq]
  generalize (lg_sl ([.ref x, .int p0]) ++ List.replicate (2 - (lg_sl ([.ref x, .int p0])).length) Slot.unset).toArray = ls at hl ⊢
  have hl : lv_has ls 2 [(0, .ref x), (1, .int p0)] := hl
  refine lv_iload_n hx hb dX6_end_0 rfl (lv_at hl 1 rfl) ?_
  refine lv_if_lt (tgt := 12) hx hb dX6_end_1 (by decide) (fun c1_1 => ?_) (fun c1_1 => ?_)
  · refine lv_iconst (v := (-1)) hx hb dX6_end_12 (by decide) ?_
    have hP9 := hP.sub (ws' := []) [] rfl
    have hD9 := hD.sub (ws' := []) [] (by decide) rfl
    have hK9 := hK.sub (tys' := []) [] rfl
    exact W.iret (v := (-1)) hx hb hr (fun t ht hW => ⟨⟨(-1), (), rfl, by (first | decide | ((try subst_vars); (try dsimp only); (try simp only [fa_lt, fa_le, fa_eq, tI_m1, tI_0, tI_1, tI_2, tI_3, tI_4, tI_5, tI_7, tI_8, tI_10, tI_15, tI_16, tI_20, tI_31, tI_125, tI_191, tI_255, tI_256, tI_980, tI_1000, tI_4095, tI_4096, tI_8191, tI_8192, tI_16383, tI_16384, tI_32767, tI_32768, tI_33791, tI_33792, tI_40959, tI_40960, tI_65535, tI_65536] at c1_1); (have k0 := tI_0); (have k1 := tI_1); (have k2 := tI_2); (have k3 := tI_3); unfold sp_end; (repeat' split) <;> first | rfl | omega | (simp only [fa_lt, fa_le, fa_eq, tI_m1, tI_0, tI_1, tI_2, tI_3, tI_4, tI_5, tI_7, tI_8, tI_10, tI_15, tI_16, tI_20, tI_31, tI_125, tI_191, tI_255, tI_256, tI_980, tI_1000, tI_4095, tI_4096, tI_8191, tI_8192, tI_16383, tI_16384, tI_32767, tI_32768, tI_33791, tI_33792, tI_40959, tI_40960, tI_65535, tI_65536]; omega))), by rw [ht]; exact hP9, va_K.moved hW.alike hK9, hD9⟩, hS.F ht⟩) hS.2.2 dX6_end_13
  · refine lv_iload_n hx hb dX6_end_4 rfl (lv_at hl 1 rfl) ?_
    refine lv_aload_n hx hb dX6_end_5 rfl (lv_at hl 0 rfl) ?_
    refine va_get (D := (dC, dI)) (ci := 6) (v := .int 0) (C := RX6) (T := TX6) (N := 7) hx hb hts in_X6_end_X6 hown hK hP 0 rfl rfl 6 (by decide) (hts (.fieldLink RX6 59 "WorkspaceBox" "tapeLength" "I") (by decide +kernel)) (fun _ h9 => h9) rfl dX6_end_6 ?_
    refine lv_icmp_le (tgt := 14) hx hb dX6_end_9 (by decide) (fun c9_2 => ?_) (fun c9_2 => ?_)
    · refine lv_aload_n hx hb dX6_end_14 rfl (lv_at hl 0 rfl) ?_
      refine lv_iload_n hx hb dX6_end_15 rfl (lv_at hl 1 rfl) ?_
      refine va_put (D := (dC, dI)) (ci := 6) (v := .int p0) (ty := .int) (C := RX6) (T := TX6) (N := 7) hx hb hts in_X6_end_X6 tyX6 tyX6_ok nmX6 hown hK hP hD hS 0 rfl rfl 6 (by decide) (hts (.fieldLink RX6 59 "WorkspaceBox" "tapeLength" "I") (by decide +kernel)) (fun _ h9 => h9) rfl (by decide +kernel) rfl rfl (Nat.le_of_ble_eq_true rfl) dX6_end_16 (fun H locs hP hD hS => ?_)
      have hP : va_P (dC, dI) vwCl [(x, .inr (6, [.ref tb, .ref pi, .ref gr, .ref wi, .ref me, .ref pu, .int p0]))] H := hP
      have hD : va_D A [(x, .inr (6, [.ref tb, .ref pi, .ref gr, .ref wi, .ref me, .ref pu, .int p0]))] := hD
      refine lv_iload_n hx hb dX6_end_19 rfl (lv_at hl 1 rfl) ?_
      have hP9 := hP.sub (ws' := []) [] rfl
      have hD9 := hD.sub (ws' := []) [] (by decide) rfl
      have hK9 := hK.sub (tys' := []) [] rfl
      exact W.iret (v := p0) hx hb hr (fun t ht hW => ⟨⟨p0, (), rfl, by (first | decide | ((try subst_vars); (try dsimp only); (try simp only [fa_lt, fa_le, fa_eq, tI_m1, tI_0, tI_1, tI_2, tI_3, tI_4, tI_5, tI_7, tI_8, tI_10, tI_15, tI_16, tI_20, tI_31, tI_125, tI_191, tI_255, tI_256, tI_980, tI_1000, tI_4095, tI_4096, tI_8191, tI_8192, tI_16383, tI_16384, tI_32767, tI_32768, tI_33791, tI_33792, tI_40959, tI_40960, tI_65535, tI_65536] at c1_1); (try simp only [fa_lt, fa_le, fa_eq, tI_m1, tI_0, tI_1, tI_2, tI_3, tI_4, tI_5, tI_7, tI_8, tI_10, tI_15, tI_16, tI_20, tI_31, tI_125, tI_191, tI_255, tI_256, tI_980, tI_1000, tI_4095, tI_4096, tI_8191, tI_8192, tI_16383, tI_16384, tI_32767, tI_32768, tI_33791, tI_33792, tI_40959, tI_40960, tI_65535, tI_65536] at c9_2); (have k0 := tI_0); (have k1 := tI_1); (have k2 := tI_2); (have k3 := tI_3); unfold sp_end; (repeat' split) <;> first | rfl | omega | (simp only [fa_lt, fa_le, fa_eq, tI_m1, tI_0, tI_1, tI_2, tI_3, tI_4, tI_5, tI_7, tI_8, tI_10, tI_15, tI_16, tI_20, tI_31, tI_125, tI_191, tI_255, tI_256, tI_980, tI_1000, tI_4095, tI_4096, tI_8191, tI_8192, tI_16383, tI_16384, tI_32767, tI_32768, tI_33791, tI_33792, tI_40959, tI_40960, tI_65535, tI_65536]; omega))), by rw [ht]; exact hP9, va_K.moved hW.alike hK9, hD9⟩, hS.F ht⟩) hS.2.2 dX6_end_20
    · refine lv_iconst (v := (-1)) hx hb dX6_end_12 (by decide) ?_
      have hP9 := hP.sub (ws' := []) [] rfl
      have hD9 := hD.sub (ws' := []) [] (by decide) rfl
      have hK9 := hK.sub (tys' := []) [] rfl
      exact W.iret (v := (-1)) hx hb hr (fun t ht hW => ⟨⟨(-1), (), rfl, by (first | decide | ((try subst_vars); (try dsimp only); (try simp only [fa_lt, fa_le, fa_eq, tI_m1, tI_0, tI_1, tI_2, tI_3, tI_4, tI_5, tI_7, tI_8, tI_10, tI_15, tI_16, tI_20, tI_31, tI_125, tI_191, tI_255, tI_256, tI_980, tI_1000, tI_4095, tI_4096, tI_8191, tI_8192, tI_16383, tI_16384, tI_32767, tI_32768, tI_33791, tI_33792, tI_40959, tI_40960, tI_65535, tI_65536] at c1_1); (try simp only [fa_lt, fa_le, fa_eq, tI_m1, tI_0, tI_1, tI_2, tI_3, tI_4, tI_5, tI_7, tI_8, tI_10, tI_15, tI_16, tI_20, tI_31, tI_125, tI_191, tI_255, tI_256, tI_980, tI_1000, tI_4095, tI_4096, tI_8191, tI_8192, tI_16383, tI_16384, tI_32767, tI_32768, tI_33791, tI_33792, tI_40959, tI_40960, tI_65535, tI_65536] at c9_2); (have k0 := tI_0); (have k1 := tI_1); (have k2 := tI_2); (have k3 := tI_3); unfold sp_end; (repeat' split) <;> first | rfl | omega | (simp only [fa_lt, fa_le, fa_eq, tI_m1, tI_0, tI_1, tI_2, tI_3, tI_4, tI_5, tI_7, tI_8, tI_10, tI_15, tI_16, tI_20, tI_31, tI_125, tI_191, tI_255, tI_256, tI_980, tI_1000, tI_4095, tI_4096, tI_8191, tI_8192, tI_16383, tI_16384, tI_32767, tI_32768, tI_33791, tI_33792, tI_40959, tI_40960, tI_65535, tI_65536]; omega))), by rw [ht]; exact hP9, va_K.moved hW.alike hK9, hD9⟩, hS.F ht⟩) hS.2.2 dX6_end_13

set_option maxHeartbeats 1000000 in
set_option maxRecDepth 100000 in
theorem k_sizeOfArea (l : Launch) (dC : Nat → ClassId) (dI : Nat → Nat → Nat) (x tb ta pi pb pa pr gr gb ga wi wa me rb ra mb ma qb qa pu : Nat) (ct cp cr cg cw c1 c2 c3 : ClassId) (p0 : Int32) (sz : Nat)  : Met l yX6_sizeOfArea wsX6_sizeOfArea ({ frames := 0, cells := 0, slots := 0, locals := 0 }) (va_Pc [.int p0] (fun U => U.heap.size = sz ∧ va_P (dC, dI) vwCl [] U.heap ∧ va_K (dC, dI) vwCl [] U ∧ va_D (fun _ => True) [])) (va_Qi (fun (r : Int32) (_ : Unit) => (r = -1 ∧ (p0.toInt < 0 ∨ 3 < p0.toInt)) ∨ (r = 8192 ∧ p0 = 0) ∨ (r = 65536 ∧ p0 = 1) ∨ (r = 16384 ∧ p0 = 2) ∨ (r = 8192 ∧ p0 = 3)) (fun (u : Unit) (t : State) => va_P (dC, dI) vwCl [] t.heap ∧ va_K (dC, dI) vwCl [] t ∧ va_D (va_A [] sz) []) (va_A [] sz)) 0 0 (va_A [] sz) := by
  refine Met.ofW (cc := cX6_sizeOfArea) (maxL := 1) (ret := (some .int)) (by decide) rfl ?_
  intro p e s m args below meth c s₁ B hml hv
  obtain ⟨rfl, hsz, hP, hK, hD0⟩ := hv
  have hx := B.exec
  have hb := B.bytes
  have hr := B.returns
  have hts := atoms_spec (ws := wsX6_sizeOfArea) B.pre
  have hown : s.vm.findClass RX6 = some m.cls := findClass_of_methodNamed B.named
  have hlocks := B.notSynchronized
  subst hsz
  have hD := hD0.self (sz := s.heap.size)
  generalize hAe : va_A [] s.heap.size = A at hD ⊢
  have hA : ∀ q : Nat, s.heap.size ≤ q → A q := fun q h => by rw [← hAe]; exact Or.inr h
  have hS : va_S A s.heap s.heap [] := va_S.rf
  have hP : va_P (dC, dI) vwCl [] s.heap := hP
  have hl := lv_entry ([.int p0]) (n := 1) (Nat.le_of_ble_eq_true rfl)
  rw [lg_entry_eq]
  generalize (lg_sl ([.int p0]) ++ List.replicate (1 - (lg_sl ([.int p0])).length) Slot.unset).toArray = ls at hl ⊢
  have hl : lv_has ls 1 [(0, .int p0)] := hl
  refine lv_iload_n hx hb dX6_sizeOfArea_0 rfl (lv_at hl 0 rfl) ?_
  rcases sw_0_3 p0 with c1_1 | rfl | rfl | rfl | rfl
  · refine lv_tableOut (tgt := 47) hx hb dX6_sizeOfArea_1 c1_1 (by decide) ?_
    refine lv_iconst (v := (-1)) hx hb dX6_sizeOfArea_47 (by decide) ?_
    have hP9 := hP.sub (ws' := []) [] rfl
    have hD9 := hD.sub (ws' := []) [] (by decide) rfl
    have hK9 := hK.sub (tys' := []) [] rfl
    exact W.iret (v := (-1)) hx hb hr (fun t ht hW => ⟨⟨(-1), (), rfl, by simp_all, by rw [ht]; exact hP9, va_K.moved hW.alike hK9, hD9⟩, hS.F ht⟩) hS.2.2 dX6_sizeOfArea_48
  · refine lv_tableIn (tgt := 32) hx hb dX6_sizeOfArea_1 (by decide) (by decide) rfl (by decide) ?_
    refine lv_sipush (v := 8192) hx hb dX6_sizeOfArea_32 (by decide) ?_
    have hP9 := hP.sub (ws' := []) [] rfl
    have hD9 := hD.sub (ws' := []) [] (by decide) rfl
    have hK9 := hK.sub (tys' := []) [] rfl
    exact W.iret (v := 8192) hx hb hr (fun t ht hW => ⟨⟨8192, (), rfl, by simp_all, by rw [ht]; exact hP9, va_K.moved hW.alike hK9, hD9⟩, hS.F ht⟩) hS.2.2 dX6_sizeOfArea_35
  · refine lv_tableIn (tgt := 36) hx hb dX6_sizeOfArea_1 (by decide) (by decide) rfl (by decide) ?_
    refine lv_ldc hx hb hown (hts (.constant RX6 81 (65536)) (by decide +kernel)) dX6_sizeOfArea_36 ?_
    have hP9 := hP.sub (ws' := []) [] rfl
    have hD9 := hD.sub (ws' := []) [] (by decide) rfl
    have hK9 := hK.sub (tys' := []) [] rfl
    exact W.iret (v := 65536) hx hb hr (fun t ht hW => ⟨⟨65536, (), rfl, by simp_all, by rw [ht]; exact hP9, va_K.moved hW.alike hK9, hD9⟩, hS.F ht⟩) hS.2.2 dX6_sizeOfArea_38
  · refine lv_tableIn (tgt := 39) hx hb dX6_sizeOfArea_1 (by decide) (by decide) rfl (by decide) ?_
    refine lv_sipush (v := 16384) hx hb dX6_sizeOfArea_39 (by decide) ?_
    have hP9 := hP.sub (ws' := []) [] rfl
    have hD9 := hD.sub (ws' := []) [] (by decide) rfl
    have hK9 := hK.sub (tys' := []) [] rfl
    exact W.iret (v := 16384) hx hb hr (fun t ht hW => ⟨⟨16384, (), rfl, by simp_all, by rw [ht]; exact hP9, va_K.moved hW.alike hK9, hD9⟩, hS.F ht⟩) hS.2.2 dX6_sizeOfArea_42
  · refine lv_tableIn (tgt := 43) hx hb dX6_sizeOfArea_1 (by decide) (by decide) rfl (by decide) ?_
    refine lv_sipush (v := 8192) hx hb dX6_sizeOfArea_43 (by decide) ?_
    have hP9 := hP.sub (ws' := []) [] rfl
    have hD9 := hD.sub (ws' := []) [] (by decide) rfl
    have hK9 := hK.sub (tys' := []) [] rfl
    exact W.iret (v := 8192) hx hb hr (fun t ht hW => ⟨⟨8192, (), rfl, by simp_all, by rw [ht]; exact hP9, va_K.moved hW.alike hK9, hD9⟩, hS.F ht⟩) hS.2.2 dX6_sizeOfArea_46

theorem in_X6_load_X6 : ∀ w ∈ wsX60, w ∈ wsX6_load := by decide +kernel
set_option maxHeartbeats 1000000 in
set_option maxRecDepth 100000 in
theorem k_load (l : Launch) (dC : Nat → ClassId) (dI : Nat → Nat → Nat) (x tb ta pi pb pa pr gr gb ga wi wa me rb ra mb ma qb qa pu : Nat) (ct cp cr cg cw c1 c2 c3 : ClassId) (p0 : Int32) (p1 : Int32) (sz : Nat)  : Met l yX6_load wsX6_load ({ frames := 1, cells := 0, slots := 0, locals := 20 }) (va_Pc [.ref x, .int p0, .int p1] (fun U => U.heap.size = sz ∧ va_P (dC, dI) vwCl [(x, .inr (6, [.ref tb, .ref pi, .ref gr, .ref wi, .ref me, .ref pu, .int 0]))] U.heap ∧ va_K (dC, dI) vwCl [] U ∧ va_D (fun _ => True) [(x, .inr (6, [.ref tb, .ref pi, .ref gr, .ref wi, .ref me, .ref pu, .int 0]))])) (va_Qi (fun (r : Int32) (_ : Unit) => r = sp_load p0 p1) (fun (u : Unit) (t : State) => va_P (dC, dI) vwCl [] t.heap ∧ va_K (dC, dI) vwCl [] t ∧ va_D (va_A [(x, .inr (6, [.ref tb, .ref pi, .ref gr, .ref wi, .ref me, .ref pu, .int 0]))] sz) []) (va_A [(x, .inr (6, [.ref tb, .ref pi, .ref gr, .ref wi, .ref me, .ref pu, .int 0]))] sz)) 0 0 (va_A [(x, .inr (6, [.ref tb, .ref pi, .ref gr, .ref wi, .ref me, .ref pu, .int 0]))] sz) := by
  refine Met.ofW (cc := cX6_load) (maxL := 6) (ret := (some .int)) (by decide) rfl ?_
  intro p e s m args below meth c s₁ B hml hv
  obtain ⟨rfl, hsz, hP, hK, hD0⟩ := hv
  have hx := B.exec
  have hb := B.bytes
  have hr := B.returns
  have hts := atoms_spec (ws := wsX6_load) B.pre
  have hown : s.vm.findClass RX6 = some m.cls := findClass_of_methodNamed B.named
  have hlocks := B.notSynchronized
  subst hsz
  have hD := hD0.self (sz := s.heap.size)
  generalize hAe : va_A [(x, .inr (6, [.ref tb, .ref pi, .ref gr, .ref wi, .ref me, .ref pu, .int 0]))] s.heap.size = A at hD ⊢
  have hA : ∀ q : Nat, s.heap.size ≤ q → A q := fun q h => by rw [← hAe]; exact Or.inr h
  have hS : va_S A s.heap s.heap [] := va_S.rf
  have hP : va_P (dC, dI) vwCl [(x, .inr (6, [.ref tb, .ref pi, .ref gr, .ref wi, .ref me, .ref pu, .int 0]))] s.heap := hP
  have hl := lv_entry ([.ref x, .int p0, .int p1]) (n := 6) (Nat.le_of_ble_eq_true rfl)
  rw [lg_entry_eq]
  generalize (lg_sl ([.ref x, .int p0, .int p1]) ++ List.replicate (6 - (lg_sl ([.ref x, .int p0, .int p1])).length) Slot.unset).toArray = ls at hl ⊢
  have hl : lv_has ls 6 [(0, .ref x), (1, .int p0), (2, .int p1)] := hl
  refine lv_iload_n hx hb dX6_load_0 rfl (lv_at hl 1 rfl) ?_
  have hPc := hP.sub (ws' := []) [] rfl
  have hDc := hD.sub (ws' := []) [] (by decide) rfl
  have hKc := hK.sub (tys' := []) [] rfl
  have hFc := va_free (wc := []) hD hS hA [] rfl
  refine va_calli (va_runS (As := [.int p0]) (rest := []) ⟨hx, hb, hml, hown, hts⟩ (k_sizeOfArea l dC dI x tb ta pi pb pa pr gr gb ga wi wa me rb ra mb ma qb qa pu ct cp cr cg cw c1 c2 c3 p0 s.heap.size) (va_cwS 1 hts gX6_load_X6_sizeOfArea rfl rfl rfl (by decide +kernel) ⟨Nat.le_of_ble_eq_true rfl, Nat.le_of_ble_eq_true rfl⟩) ⟨fun a U g mk q => by obtain ⟨q0, q1, qP, qK, qD⟩ := q; exact ⟨q0, q1, qP, va_K.moved (u := U) (U := U.calling g mk a) (Vm.Alike.refl U.vm) qK, qD⟩, fun U hU hW => ⟨rfl, by rw [hU], by rw [hU]; exact hPc, va_K.moved hW.alike hKc, hDc.weaken (fun _ _ _ _ => trivial)⟩⟩ rfl rfl hl.1 rfl (lv_room (Nat.le_of_ble_eq_true rfl)) dX6_load_1 ⟨Nat.le_of_ble_eq_true rfl, Nat.le_of_ble_eq_true rfl⟩) hS (fun q _ h => hFc q h) hFc (fun r_1 u t H1 locs ht hvm hw hB hz1 hk1 hS => ?_)
  obtain ⟨hP1, hK1, hD1⟩ := hB
  rw [ht] at hP1
  have hK1 := va_K.moved hvm.symm hK1
  try dsimp only at hw
  obtain ⟨hP, hD⟩ := va_join (wr := [(x, .inr (6, [.ref tb, .ref pi, .ref gr, .ref wi, .ref me, .ref pu, .int 0]))]) (w1 := []) hP hD [] [0] rfl rfl (by decide) (by decide) hk1 hFc hP1 hD1
  have hK := (hK.sub (tys' := []) [] rfl).app hK1
  generalize H1 = H at hP hS ⊢
  have hP : va_P (dC, dI) vwCl [(x, .inr (6, [.ref tb, .ref pi, .ref gr, .ref wi, .ref me, .ref pu, .int 0]))] H := hP
  have hD : va_D A [(x, .inr (6, [.ref tb, .ref pi, .ref gr, .ref wi, .ref me, .ref pu, .int 0]))] := hD
  have hK : va_K (dC, dI) vwCl [] s := hK
  have hw_2 := hw
  rcases hw_2 with ⟨rfl, h9⟩ | ⟨rfl, rfl⟩ | ⟨rfl, rfl⟩ | ⟨rfl, rfl⟩ | ⟨rfl, rfl⟩
  · refine lv_istore_n (lv' := [(3, .int (-1)), (0, .ref x), (1, .int p0), (2, .int p1)]) hx hb dX6_load_4 rfl hl (by decide) rfl (fun ls hl => ?_)
    refine lv_iload_n hx hb dX6_load_5 rfl (lv_at hl 0 rfl) ?_
    refine lv_iconst (v := (-1)) hx hb dX6_load_6 (by decide) ?_
    refine lv_icmp_eq (tgt := 24) hx hb dX6_load_7 (by decide) (fun _ => ?_) (fun h => absurd (by decide) h)
    refine lv_iconst (v := (-1)) hx hb dX6_load_24 (by decide) ?_
    have hP9 := hP.sub (ws' := []) [] rfl
    have hD9 := hD.sub (ws' := []) [] (by decide) rfl
    have hK9 := hK.sub (tys' := []) [] rfl
    exact W.iret (v := (-1)) hx hb hr (fun t ht hW => ⟨⟨(-1), (), rfl, by (first | decide | ((try subst_vars); (try dsimp only); (try simp only [fa_lt, fa_le, fa_eq, tI_m1, tI_0, tI_1, tI_2, tI_3, tI_4, tI_5, tI_7, tI_8, tI_10, tI_15, tI_16, tI_20, tI_31, tI_125, tI_191, tI_255, tI_256, tI_980, tI_1000, tI_4095, tI_4096, tI_8191, tI_8192, tI_16383, tI_16384, tI_32767, tI_32768, tI_33791, tI_33792, tI_40959, tI_40960, tI_65535, tI_65536] at hw_2); (try simp only [fa_lt, fa_le, fa_eq, tI_m1, tI_0, tI_1, tI_2, tI_3, tI_4, tI_5, tI_7, tI_8, tI_10, tI_15, tI_16, tI_20, tI_31, tI_125, tI_191, tI_255, tI_256, tI_980, tI_1000, tI_4095, tI_4096, tI_8191, tI_8192, tI_16383, tI_16384, tI_32767, tI_32768, tI_33791, tI_33792, tI_40959, tI_40960, tI_65535, tI_65536] at h9); (have k0 := tI_0); (have k1 := tI_1); (have k2 := tI_2); (have k3 := tI_3); unfold sp_load; (repeat' split) <;> first | rfl | omega | (simp only [fa_lt, fa_le, fa_eq, tI_m1, tI_0, tI_1, tI_2, tI_3, tI_4, tI_5, tI_7, tI_8, tI_10, tI_15, tI_16, tI_20, tI_31, tI_125, tI_191, tI_255, tI_256, tI_980, tI_1000, tI_4095, tI_4096, tI_8191, tI_8192, tI_16383, tI_16384, tI_32767, tI_32768, tI_33791, tI_33792, tI_40959, tI_40960, tI_65535, tI_65536]; omega))), by rw [ht]; exact hP9, va_K.moved hW.alike hK9, hD9⟩, hS.F ht⟩) hS.2.2 dX6_load_25
  · refine lv_istore_n (lv' := [(3, .int 8192), (0, .ref x), (1, .int 0), (2, .int p1)]) hx hb dX6_load_4 rfl hl (by decide) rfl (fun ls hl => ?_)
    refine lv_iload_n hx hb dX6_load_5 rfl (lv_at hl 0 rfl) ?_
    refine lv_iconst (v := (-1)) hx hb dX6_load_6 (by decide) ?_
    refine lv_icmp_eq (tgt := 24) hx hb dX6_load_7 (by decide) (fun h => absurd h (by decide)) (fun _ => ?_)
    refine lv_iload_n hx hb dX6_load_10 rfl (lv_at hl 3 rfl) ?_
    refine lv_if_lt (tgt := 24) hx hb dX6_load_11 (by decide) (fun c11_3 => ?_) (fun c11_3 => ?_)
    · refine lv_iconst (v := (-1)) hx hb dX6_load_24 (by decide) ?_
      have hP9 := hP.sub (ws' := []) [] rfl
      have hD9 := hD.sub (ws' := []) [] (by decide) rfl
      have hK9 := hK.sub (tys' := []) [] rfl
      exact W.iret (v := (-1)) hx hb hr (fun t ht hW => ⟨⟨(-1), (), rfl, by (first | decide | ((try subst_vars); (try dsimp only); (try simp only [fa_lt, fa_le, fa_eq, tI_m1, tI_0, tI_1, tI_2, tI_3, tI_4, tI_5, tI_7, tI_8, tI_10, tI_15, tI_16, tI_20, tI_31, tI_125, tI_191, tI_255, tI_256, tI_980, tI_1000, tI_4095, tI_4096, tI_8191, tI_8192, tI_16383, tI_16384, tI_32767, tI_32768, tI_33791, tI_33792, tI_40959, tI_40960, tI_65535, tI_65536] at hw_2); (try simp only [fa_lt, fa_le, fa_eq, tI_m1, tI_0, tI_1, tI_2, tI_3, tI_4, tI_5, tI_7, tI_8, tI_10, tI_15, tI_16, tI_20, tI_31, tI_125, tI_191, tI_255, tI_256, tI_980, tI_1000, tI_4095, tI_4096, tI_8191, tI_8192, tI_16383, tI_16384, tI_32767, tI_32768, tI_33791, tI_33792, tI_40959, tI_40960, tI_65535, tI_65536] at c11_3); (have k0 := tI_0); (have k1 := tI_1); (have k2 := tI_2); (have k3 := tI_3); unfold sp_load; (repeat' split) <;> first | rfl | omega | (simp only [fa_lt, fa_le, fa_eq, tI_m1, tI_0, tI_1, tI_2, tI_3, tI_4, tI_5, tI_7, tI_8, tI_10, tI_15, tI_16, tI_20, tI_31, tI_125, tI_191, tI_255, tI_256, tI_980, tI_1000, tI_4095, tI_4096, tI_8191, tI_8192, tI_16383, tI_16384, tI_32767, tI_32768, tI_33791, tI_33792, tI_40959, tI_40960, tI_65535, tI_65536]; omega))), by rw [ht]; exact hP9, va_K.moved hW.alike hK9, hD9⟩, hS.F ht⟩) hS.2.2 dX6_load_25
    · refine lv_iload_n hx hb dX6_load_14 rfl (lv_at hl 3 rfl) ?_
      refine lv_iload_n hx hb dX6_load_15 rfl (lv_at hl 0 rfl) ?_
      refine lv_aload_n hx hb dX6_load_16 rfl (lv_at hl 1 rfl) ?_
      refine va_get (D := (dC, dI)) (ci := 6) (v := .int 0) (C := RX6) (T := TX6) (N := 7) hx hb hts in_X6_load_X6 hown hK hP 0 rfl rfl 6 (by decide) (hts (.fieldLink RX6 59 "WorkspaceBox" "tapeLength" "I") (by decide +kernel)) (fun _ h9 => h9) rfl dX6_load_17 ?_
      refine lv_isub hx hb dX6_load_20 ?_
      refine lv_topi (fun y_4 ey_4 => ?_)
      obtain rfl : y_4 = 8192 := ey_4.trans (by decide)
      refine lv_icmp_le (tgt := 26) hx hb dX6_load_21 (by decide) (fun c21_5 => ?_) (fun c21_5 => ?_)
      · refine lv_aload_n hx hb dX6_load_26 rfl (lv_at hl 1 rfl) ?_
        refine va_get (D := (dC, dI)) (ci := 6) (v := .int 0) (C := RX6) (T := TX6) (N := 7) hx hb hts in_X6_load_X6 hown hK hP 0 rfl rfl 6 (by decide) (hts (.fieldLink RX6 59 "WorkspaceBox" "tapeLength" "I") (by decide +kernel)) (fun _ h9 => h9) rfl dX6_load_27 ?_
        refine lv_istore (lv' := [(4, .int 0), (3, .int 8192), (0, .ref x), (1, .int 0), (2, .int p1)]) hx hb dX6_load_30 hl (by decide) rfl (fun ls hl => ?_)
        refine lv_iconst (v := 0) hx hb dX6_load_32 (by decide) ?_
        refine lv_istore (lv' := [(5, .int 0), (4, .int 0), (3, .int 8192), (0, .ref x), (1, .int 0), (2, .int p1)]) hx hb dX6_load_33 hl (by decide) rfl (fun ls hl => ?_)
        refine lv_iload hx hb dX6_load_35 (lv_at hl 0 rfl) ?_
        refine lv_iload hx hb dX6_load_37 (lv_at hl 1 rfl) ?_
        refine lv_icmp_ge (tgt := 66) hx hb dX6_load_39 (by decide) (fun _ => ?_) (fun h => absurd (by decide) h)
        refine lv_aload_n hx hb dX6_load_66 rfl (lv_at hl 3 rfl) ?_
        refine lv_iconst (v := 0) hx hb dX6_load_67 (by decide) ?_
        refine va_put (D := (dC, dI)) (ci := 6) (v := .int 0) (ty := .int) (C := RX6) (T := TX6) (N := 7) hx hb hts in_X6_load_X6 tyX6 tyX6_ok nmX6 hown hK hP hD hS 0 rfl rfl 6 (by decide) (hts (.fieldLink RX6 59 "WorkspaceBox" "tapeLength" "I") (by decide +kernel)) (fun _ h9 => h9) rfl (by decide +kernel) rfl rfl (Nat.le_of_ble_eq_true rfl) dX6_load_68 (fun H locs hP hD hS => ?_)
        have hP : va_P (dC, dI) vwCl [(x, .inr (6, [.ref tb, .ref pi, .ref gr, .ref wi, .ref me, .ref pu, .int 0]))] H := hP
        have hD : va_D A [(x, .inr (6, [.ref tb, .ref pi, .ref gr, .ref wi, .ref me, .ref pu, .int 0]))] := hD
        refine lv_iload hx hb dX6_load_71 (lv_at hl 1 rfl) ?_
        have hP9 := hP.sub (ws' := []) [] rfl
        have hD9 := hD.sub (ws' := []) [] (by decide) rfl
        have hK9 := hK.sub (tys' := []) [] rfl
        exact W.iret (v := 0) hx hb hr (fun t ht hW => ⟨⟨0, (), rfl, by (first | decide | ((try subst_vars); (try dsimp only); (try simp only [fa_lt, fa_le, fa_eq, tI_m1, tI_0, tI_1, tI_2, tI_3, tI_4, tI_5, tI_7, tI_8, tI_10, tI_15, tI_16, tI_20, tI_31, tI_125, tI_191, tI_255, tI_256, tI_980, tI_1000, tI_4095, tI_4096, tI_8191, tI_8192, tI_16383, tI_16384, tI_32767, tI_32768, tI_33791, tI_33792, tI_40959, tI_40960, tI_65535, tI_65536] at hw_2); (try simp only [fa_lt, fa_le, fa_eq, tI_m1, tI_0, tI_1, tI_2, tI_3, tI_4, tI_5, tI_7, tI_8, tI_10, tI_15, tI_16, tI_20, tI_31, tI_125, tI_191, tI_255, tI_256, tI_980, tI_1000, tI_4095, tI_4096, tI_8191, tI_8192, tI_16383, tI_16384, tI_32767, tI_32768, tI_33791, tI_33792, tI_40959, tI_40960, tI_65535, tI_65536] at c11_3); (try simp only [fa_lt, fa_le, fa_eq, tI_m1, tI_0, tI_1, tI_2, tI_3, tI_4, tI_5, tI_7, tI_8, tI_10, tI_15, tI_16, tI_20, tI_31, tI_125, tI_191, tI_255, tI_256, tI_980, tI_1000, tI_4095, tI_4096, tI_8191, tI_8192, tI_16383, tI_16384, tI_32767, tI_32768, tI_33791, tI_33792, tI_40959, tI_40960, tI_65535, tI_65536] at c21_5); (have k0 := tI_0); (have k1 := tI_1); (have k2 := tI_2); (have k3 := tI_3); unfold sp_load; (repeat' split) <;> first | rfl | omega | (simp only [fa_lt, fa_le, fa_eq, tI_m1, tI_0, tI_1, tI_2, tI_3, tI_4, tI_5, tI_7, tI_8, tI_10, tI_15, tI_16, tI_20, tI_31, tI_125, tI_191, tI_255, tI_256, tI_980, tI_1000, tI_4095, tI_4096, tI_8191, tI_8192, tI_16383, tI_16384, tI_32767, tI_32768, tI_33791, tI_33792, tI_40959, tI_40960, tI_65535, tI_65536]; omega))), by rw [ht]; exact hP9, va_K.moved hW.alike hK9, hD9⟩, hS.F ht⟩) hS.2.2 dX6_load_73
      · refine lv_iconst (v := (-1)) hx hb dX6_load_24 (by decide) ?_
        have hP9 := hP.sub (ws' := []) [] rfl
        have hD9 := hD.sub (ws' := []) [] (by decide) rfl
        have hK9 := hK.sub (tys' := []) [] rfl
        exact W.iret (v := (-1)) hx hb hr (fun t ht hW => ⟨⟨(-1), (), rfl, by (first | decide | ((try subst_vars); (try dsimp only); (try simp only [fa_lt, fa_le, fa_eq, tI_m1, tI_0, tI_1, tI_2, tI_3, tI_4, tI_5, tI_7, tI_8, tI_10, tI_15, tI_16, tI_20, tI_31, tI_125, tI_191, tI_255, tI_256, tI_980, tI_1000, tI_4095, tI_4096, tI_8191, tI_8192, tI_16383, tI_16384, tI_32767, tI_32768, tI_33791, tI_33792, tI_40959, tI_40960, tI_65535, tI_65536] at hw_2); (try simp only [fa_lt, fa_le, fa_eq, tI_m1, tI_0, tI_1, tI_2, tI_3, tI_4, tI_5, tI_7, tI_8, tI_10, tI_15, tI_16, tI_20, tI_31, tI_125, tI_191, tI_255, tI_256, tI_980, tI_1000, tI_4095, tI_4096, tI_8191, tI_8192, tI_16383, tI_16384, tI_32767, tI_32768, tI_33791, tI_33792, tI_40959, tI_40960, tI_65535, tI_65536] at c11_3); (try simp only [fa_lt, fa_le, fa_eq, tI_m1, tI_0, tI_1, tI_2, tI_3, tI_4, tI_5, tI_7, tI_8, tI_10, tI_15, tI_16, tI_20, tI_31, tI_125, tI_191, tI_255, tI_256, tI_980, tI_1000, tI_4095, tI_4096, tI_8191, tI_8192, tI_16383, tI_16384, tI_32767, tI_32768, tI_33791, tI_33792, tI_40959, tI_40960, tI_65535, tI_65536] at c21_5); (have k0 := tI_0); (have k1 := tI_1); (have k2 := tI_2); (have k3 := tI_3); unfold sp_load; (repeat' split) <;> first | rfl | omega | (simp only [fa_lt, fa_le, fa_eq, tI_m1, tI_0, tI_1, tI_2, tI_3, tI_4, tI_5, tI_7, tI_8, tI_10, tI_15, tI_16, tI_20, tI_31, tI_125, tI_191, tI_255, tI_256, tI_980, tI_1000, tI_4095, tI_4096, tI_8191, tI_8192, tI_16383, tI_16384, tI_32767, tI_32768, tI_33791, tI_33792, tI_40959, tI_40960, tI_65535, tI_65536]; omega))), by rw [ht]; exact hP9, va_K.moved hW.alike hK9, hD9⟩, hS.F ht⟩) hS.2.2 dX6_load_25
  · refine lv_istore_n (lv' := [(3, .int 65536), (0, .ref x), (1, .int 1), (2, .int p1)]) hx hb dX6_load_4 rfl hl (by decide) rfl (fun ls hl => ?_)
    refine lv_iload_n hx hb dX6_load_5 rfl (lv_at hl 0 rfl) ?_
    refine lv_iconst (v := (-1)) hx hb dX6_load_6 (by decide) ?_
    refine lv_icmp_eq (tgt := 24) hx hb dX6_load_7 (by decide) (fun h => absurd h (by decide)) (fun _ => ?_)
    refine lv_iload_n hx hb dX6_load_10 rfl (lv_at hl 3 rfl) ?_
    refine lv_if_lt (tgt := 24) hx hb dX6_load_11 (by decide) (fun c11_6 => ?_) (fun c11_6 => ?_)
    · refine lv_iconst (v := (-1)) hx hb dX6_load_24 (by decide) ?_
      have hP9 := hP.sub (ws' := []) [] rfl
      have hD9 := hD.sub (ws' := []) [] (by decide) rfl
      have hK9 := hK.sub (tys' := []) [] rfl
      exact W.iret (v := (-1)) hx hb hr (fun t ht hW => ⟨⟨(-1), (), rfl, by (first | decide | ((try subst_vars); (try dsimp only); (try simp only [fa_lt, fa_le, fa_eq, tI_m1, tI_0, tI_1, tI_2, tI_3, tI_4, tI_5, tI_7, tI_8, tI_10, tI_15, tI_16, tI_20, tI_31, tI_125, tI_191, tI_255, tI_256, tI_980, tI_1000, tI_4095, tI_4096, tI_8191, tI_8192, tI_16383, tI_16384, tI_32767, tI_32768, tI_33791, tI_33792, tI_40959, tI_40960, tI_65535, tI_65536] at hw_2); (try simp only [fa_lt, fa_le, fa_eq, tI_m1, tI_0, tI_1, tI_2, tI_3, tI_4, tI_5, tI_7, tI_8, tI_10, tI_15, tI_16, tI_20, tI_31, tI_125, tI_191, tI_255, tI_256, tI_980, tI_1000, tI_4095, tI_4096, tI_8191, tI_8192, tI_16383, tI_16384, tI_32767, tI_32768, tI_33791, tI_33792, tI_40959, tI_40960, tI_65535, tI_65536] at c11_6); (have k0 := tI_0); (have k1 := tI_1); (have k2 := tI_2); (have k3 := tI_3); unfold sp_load; (repeat' split) <;> first | rfl | omega | (simp only [fa_lt, fa_le, fa_eq, tI_m1, tI_0, tI_1, tI_2, tI_3, tI_4, tI_5, tI_7, tI_8, tI_10, tI_15, tI_16, tI_20, tI_31, tI_125, tI_191, tI_255, tI_256, tI_980, tI_1000, tI_4095, tI_4096, tI_8191, tI_8192, tI_16383, tI_16384, tI_32767, tI_32768, tI_33791, tI_33792, tI_40959, tI_40960, tI_65535, tI_65536]; omega))), by rw [ht]; exact hP9, va_K.moved hW.alike hK9, hD9⟩, hS.F ht⟩) hS.2.2 dX6_load_25
    · refine lv_iload_n hx hb dX6_load_14 rfl (lv_at hl 3 rfl) ?_
      refine lv_iload_n hx hb dX6_load_15 rfl (lv_at hl 0 rfl) ?_
      refine lv_aload_n hx hb dX6_load_16 rfl (lv_at hl 1 rfl) ?_
      refine va_get (D := (dC, dI)) (ci := 6) (v := .int 0) (C := RX6) (T := TX6) (N := 7) hx hb hts in_X6_load_X6 hown hK hP 0 rfl rfl 6 (by decide) (hts (.fieldLink RX6 59 "WorkspaceBox" "tapeLength" "I") (by decide +kernel)) (fun _ h9 => h9) rfl dX6_load_17 ?_
      refine lv_isub hx hb dX6_load_20 ?_
      refine lv_topi (fun y_7 ey_7 => ?_)
      obtain rfl : y_7 = 65536 := ey_7.trans (by decide)
      refine lv_icmp_le (tgt := 26) hx hb dX6_load_21 (by decide) (fun c21_8 => ?_) (fun c21_8 => ?_)
      · refine lv_aload_n hx hb dX6_load_26 rfl (lv_at hl 1 rfl) ?_
        refine va_get (D := (dC, dI)) (ci := 6) (v := .int 0) (C := RX6) (T := TX6) (N := 7) hx hb hts in_X6_load_X6 hown hK hP 0 rfl rfl 6 (by decide) (hts (.fieldLink RX6 59 "WorkspaceBox" "tapeLength" "I") (by decide +kernel)) (fun _ h9 => h9) rfl dX6_load_27 ?_
        refine lv_istore (lv' := [(4, .int 0), (3, .int 65536), (0, .ref x), (1, .int 1), (2, .int p1)]) hx hb dX6_load_30 hl (by decide) rfl (fun ls hl => ?_)
        refine lv_iconst (v := 0) hx hb dX6_load_32 (by decide) ?_
        refine lv_istore (lv' := [(5, .int 0), (4, .int 0), (3, .int 65536), (0, .ref x), (1, .int 1), (2, .int p1)]) hx hb dX6_load_33 hl (by decide) rfl (fun ls hl => ?_)
        refine lv_iload hx hb dX6_load_35 (lv_at hl 0 rfl) ?_
        refine lv_iload hx hb dX6_load_37 (lv_at hl 1 rfl) ?_
        refine lv_icmp_ge (tgt := 66) hx hb dX6_load_39 (by decide) (fun _ => ?_) (fun h => absurd (by decide) h)
        refine lv_aload_n hx hb dX6_load_66 rfl (lv_at hl 3 rfl) ?_
        refine lv_iconst (v := 0) hx hb dX6_load_67 (by decide) ?_
        refine va_put (D := (dC, dI)) (ci := 6) (v := .int 0) (ty := .int) (C := RX6) (T := TX6) (N := 7) hx hb hts in_X6_load_X6 tyX6 tyX6_ok nmX6 hown hK hP hD hS 0 rfl rfl 6 (by decide) (hts (.fieldLink RX6 59 "WorkspaceBox" "tapeLength" "I") (by decide +kernel)) (fun _ h9 => h9) rfl (by decide +kernel) rfl rfl (Nat.le_of_ble_eq_true rfl) dX6_load_68 (fun H locs hP hD hS => ?_)
        have hP : va_P (dC, dI) vwCl [(x, .inr (6, [.ref tb, .ref pi, .ref gr, .ref wi, .ref me, .ref pu, .int 0]))] H := hP
        have hD : va_D A [(x, .inr (6, [.ref tb, .ref pi, .ref gr, .ref wi, .ref me, .ref pu, .int 0]))] := hD
        refine lv_iload hx hb dX6_load_71 (lv_at hl 1 rfl) ?_
        have hP9 := hP.sub (ws' := []) [] rfl
        have hD9 := hD.sub (ws' := []) [] (by decide) rfl
        have hK9 := hK.sub (tys' := []) [] rfl
        exact W.iret (v := 0) hx hb hr (fun t ht hW => ⟨⟨0, (), rfl, by (first | decide | ((try subst_vars); (try dsimp only); (try simp only [fa_lt, fa_le, fa_eq, tI_m1, tI_0, tI_1, tI_2, tI_3, tI_4, tI_5, tI_7, tI_8, tI_10, tI_15, tI_16, tI_20, tI_31, tI_125, tI_191, tI_255, tI_256, tI_980, tI_1000, tI_4095, tI_4096, tI_8191, tI_8192, tI_16383, tI_16384, tI_32767, tI_32768, tI_33791, tI_33792, tI_40959, tI_40960, tI_65535, tI_65536] at hw_2); (try simp only [fa_lt, fa_le, fa_eq, tI_m1, tI_0, tI_1, tI_2, tI_3, tI_4, tI_5, tI_7, tI_8, tI_10, tI_15, tI_16, tI_20, tI_31, tI_125, tI_191, tI_255, tI_256, tI_980, tI_1000, tI_4095, tI_4096, tI_8191, tI_8192, tI_16383, tI_16384, tI_32767, tI_32768, tI_33791, tI_33792, tI_40959, tI_40960, tI_65535, tI_65536] at c11_6); (try simp only [fa_lt, fa_le, fa_eq, tI_m1, tI_0, tI_1, tI_2, tI_3, tI_4, tI_5, tI_7, tI_8, tI_10, tI_15, tI_16, tI_20, tI_31, tI_125, tI_191, tI_255, tI_256, tI_980, tI_1000, tI_4095, tI_4096, tI_8191, tI_8192, tI_16383, tI_16384, tI_32767, tI_32768, tI_33791, tI_33792, tI_40959, tI_40960, tI_65535, tI_65536] at c21_8); (have k0 := tI_0); (have k1 := tI_1); (have k2 := tI_2); (have k3 := tI_3); unfold sp_load; (repeat' split) <;> first | rfl | omega | (simp only [fa_lt, fa_le, fa_eq, tI_m1, tI_0, tI_1, tI_2, tI_3, tI_4, tI_5, tI_7, tI_8, tI_10, tI_15, tI_16, tI_20, tI_31, tI_125, tI_191, tI_255, tI_256, tI_980, tI_1000, tI_4095, tI_4096, tI_8191, tI_8192, tI_16383, tI_16384, tI_32767, tI_32768, tI_33791, tI_33792, tI_40959, tI_40960, tI_65535, tI_65536]; omega))), by rw [ht]; exact hP9, va_K.moved hW.alike hK9, hD9⟩, hS.F ht⟩) hS.2.2 dX6_load_73
      · refine lv_iconst (v := (-1)) hx hb dX6_load_24 (by decide) ?_
        have hP9 := hP.sub (ws' := []) [] rfl
        have hD9 := hD.sub (ws' := []) [] (by decide) rfl
        have hK9 := hK.sub (tys' := []) [] rfl
        exact W.iret (v := (-1)) hx hb hr (fun t ht hW => ⟨⟨(-1), (), rfl, by (first | decide | ((try subst_vars); (try dsimp only); (try simp only [fa_lt, fa_le, fa_eq, tI_m1, tI_0, tI_1, tI_2, tI_3, tI_4, tI_5, tI_7, tI_8, tI_10, tI_15, tI_16, tI_20, tI_31, tI_125, tI_191, tI_255, tI_256, tI_980, tI_1000, tI_4095, tI_4096, tI_8191, tI_8192, tI_16383, tI_16384, tI_32767, tI_32768, tI_33791, tI_33792, tI_40959, tI_40960, tI_65535, tI_65536] at hw_2); (try simp only [fa_lt, fa_le, fa_eq, tI_m1, tI_0, tI_1, tI_2, tI_3, tI_4, tI_5, tI_7, tI_8, tI_10, tI_15, tI_16, tI_20, tI_31, tI_125, tI_191, tI_255, tI_256, tI_980, tI_1000, tI_4095, tI_4096, tI_8191, tI_8192, tI_16383, tI_16384, tI_32767, tI_32768, tI_33791, tI_33792, tI_40959, tI_40960, tI_65535, tI_65536] at c11_6); (try simp only [fa_lt, fa_le, fa_eq, tI_m1, tI_0, tI_1, tI_2, tI_3, tI_4, tI_5, tI_7, tI_8, tI_10, tI_15, tI_16, tI_20, tI_31, tI_125, tI_191, tI_255, tI_256, tI_980, tI_1000, tI_4095, tI_4096, tI_8191, tI_8192, tI_16383, tI_16384, tI_32767, tI_32768, tI_33791, tI_33792, tI_40959, tI_40960, tI_65535, tI_65536] at c21_8); (have k0 := tI_0); (have k1 := tI_1); (have k2 := tI_2); (have k3 := tI_3); unfold sp_load; (repeat' split) <;> first | rfl | omega | (simp only [fa_lt, fa_le, fa_eq, tI_m1, tI_0, tI_1, tI_2, tI_3, tI_4, tI_5, tI_7, tI_8, tI_10, tI_15, tI_16, tI_20, tI_31, tI_125, tI_191, tI_255, tI_256, tI_980, tI_1000, tI_4095, tI_4096, tI_8191, tI_8192, tI_16383, tI_16384, tI_32767, tI_32768, tI_33791, tI_33792, tI_40959, tI_40960, tI_65535, tI_65536]; omega))), by rw [ht]; exact hP9, va_K.moved hW.alike hK9, hD9⟩, hS.F ht⟩) hS.2.2 dX6_load_25
  · refine lv_istore_n (lv' := [(3, .int 16384), (0, .ref x), (1, .int 2), (2, .int p1)]) hx hb dX6_load_4 rfl hl (by decide) rfl (fun ls hl => ?_)
    refine lv_iload_n hx hb dX6_load_5 rfl (lv_at hl 0 rfl) ?_
    refine lv_iconst (v := (-1)) hx hb dX6_load_6 (by decide) ?_
    refine lv_icmp_eq (tgt := 24) hx hb dX6_load_7 (by decide) (fun h => absurd h (by decide)) (fun _ => ?_)
    refine lv_iload_n hx hb dX6_load_10 rfl (lv_at hl 3 rfl) ?_
    refine lv_if_lt (tgt := 24) hx hb dX6_load_11 (by decide) (fun c11_9 => ?_) (fun c11_9 => ?_)
    · refine lv_iconst (v := (-1)) hx hb dX6_load_24 (by decide) ?_
      have hP9 := hP.sub (ws' := []) [] rfl
      have hD9 := hD.sub (ws' := []) [] (by decide) rfl
      have hK9 := hK.sub (tys' := []) [] rfl
      exact W.iret (v := (-1)) hx hb hr (fun t ht hW => ⟨⟨(-1), (), rfl, by (first | decide | ((try subst_vars); (try dsimp only); (try simp only [fa_lt, fa_le, fa_eq, tI_m1, tI_0, tI_1, tI_2, tI_3, tI_4, tI_5, tI_7, tI_8, tI_10, tI_15, tI_16, tI_20, tI_31, tI_125, tI_191, tI_255, tI_256, tI_980, tI_1000, tI_4095, tI_4096, tI_8191, tI_8192, tI_16383, tI_16384, tI_32767, tI_32768, tI_33791, tI_33792, tI_40959, tI_40960, tI_65535, tI_65536] at hw_2); (try simp only [fa_lt, fa_le, fa_eq, tI_m1, tI_0, tI_1, tI_2, tI_3, tI_4, tI_5, tI_7, tI_8, tI_10, tI_15, tI_16, tI_20, tI_31, tI_125, tI_191, tI_255, tI_256, tI_980, tI_1000, tI_4095, tI_4096, tI_8191, tI_8192, tI_16383, tI_16384, tI_32767, tI_32768, tI_33791, tI_33792, tI_40959, tI_40960, tI_65535, tI_65536] at c11_9); (have k0 := tI_0); (have k1 := tI_1); (have k2 := tI_2); (have k3 := tI_3); unfold sp_load; (repeat' split) <;> first | rfl | omega | (simp only [fa_lt, fa_le, fa_eq, tI_m1, tI_0, tI_1, tI_2, tI_3, tI_4, tI_5, tI_7, tI_8, tI_10, tI_15, tI_16, tI_20, tI_31, tI_125, tI_191, tI_255, tI_256, tI_980, tI_1000, tI_4095, tI_4096, tI_8191, tI_8192, tI_16383, tI_16384, tI_32767, tI_32768, tI_33791, tI_33792, tI_40959, tI_40960, tI_65535, tI_65536]; omega))), by rw [ht]; exact hP9, va_K.moved hW.alike hK9, hD9⟩, hS.F ht⟩) hS.2.2 dX6_load_25
    · refine lv_iload_n hx hb dX6_load_14 rfl (lv_at hl 3 rfl) ?_
      refine lv_iload_n hx hb dX6_load_15 rfl (lv_at hl 0 rfl) ?_
      refine lv_aload_n hx hb dX6_load_16 rfl (lv_at hl 1 rfl) ?_
      refine va_get (D := (dC, dI)) (ci := 6) (v := .int 0) (C := RX6) (T := TX6) (N := 7) hx hb hts in_X6_load_X6 hown hK hP 0 rfl rfl 6 (by decide) (hts (.fieldLink RX6 59 "WorkspaceBox" "tapeLength" "I") (by decide +kernel)) (fun _ h9 => h9) rfl dX6_load_17 ?_
      refine lv_isub hx hb dX6_load_20 ?_
      refine lv_topi (fun y_10 ey_10 => ?_)
      obtain rfl : y_10 = 16384 := ey_10.trans (by decide)
      refine lv_icmp_le (tgt := 26) hx hb dX6_load_21 (by decide) (fun c21_11 => ?_) (fun c21_11 => ?_)
      · refine lv_aload_n hx hb dX6_load_26 rfl (lv_at hl 1 rfl) ?_
        refine va_get (D := (dC, dI)) (ci := 6) (v := .int 0) (C := RX6) (T := TX6) (N := 7) hx hb hts in_X6_load_X6 hown hK hP 0 rfl rfl 6 (by decide) (hts (.fieldLink RX6 59 "WorkspaceBox" "tapeLength" "I") (by decide +kernel)) (fun _ h9 => h9) rfl dX6_load_27 ?_
        refine lv_istore (lv' := [(4, .int 0), (3, .int 16384), (0, .ref x), (1, .int 2), (2, .int p1)]) hx hb dX6_load_30 hl (by decide) rfl (fun ls hl => ?_)
        refine lv_iconst (v := 0) hx hb dX6_load_32 (by decide) ?_
        refine lv_istore (lv' := [(5, .int 0), (4, .int 0), (3, .int 16384), (0, .ref x), (1, .int 2), (2, .int p1)]) hx hb dX6_load_33 hl (by decide) rfl (fun ls hl => ?_)
        refine lv_iload hx hb dX6_load_35 (lv_at hl 0 rfl) ?_
        refine lv_iload hx hb dX6_load_37 (lv_at hl 1 rfl) ?_
        refine lv_icmp_ge (tgt := 66) hx hb dX6_load_39 (by decide) (fun _ => ?_) (fun h => absurd (by decide) h)
        refine lv_aload_n hx hb dX6_load_66 rfl (lv_at hl 3 rfl) ?_
        refine lv_iconst (v := 0) hx hb dX6_load_67 (by decide) ?_
        refine va_put (D := (dC, dI)) (ci := 6) (v := .int 0) (ty := .int) (C := RX6) (T := TX6) (N := 7) hx hb hts in_X6_load_X6 tyX6 tyX6_ok nmX6 hown hK hP hD hS 0 rfl rfl 6 (by decide) (hts (.fieldLink RX6 59 "WorkspaceBox" "tapeLength" "I") (by decide +kernel)) (fun _ h9 => h9) rfl (by decide +kernel) rfl rfl (Nat.le_of_ble_eq_true rfl) dX6_load_68 (fun H locs hP hD hS => ?_)
        have hP : va_P (dC, dI) vwCl [(x, .inr (6, [.ref tb, .ref pi, .ref gr, .ref wi, .ref me, .ref pu, .int 0]))] H := hP
        have hD : va_D A [(x, .inr (6, [.ref tb, .ref pi, .ref gr, .ref wi, .ref me, .ref pu, .int 0]))] := hD
        refine lv_iload hx hb dX6_load_71 (lv_at hl 1 rfl) ?_
        have hP9 := hP.sub (ws' := []) [] rfl
        have hD9 := hD.sub (ws' := []) [] (by decide) rfl
        have hK9 := hK.sub (tys' := []) [] rfl
        exact W.iret (v := 0) hx hb hr (fun t ht hW => ⟨⟨0, (), rfl, by (first | decide | ((try subst_vars); (try dsimp only); (try simp only [fa_lt, fa_le, fa_eq, tI_m1, tI_0, tI_1, tI_2, tI_3, tI_4, tI_5, tI_7, tI_8, tI_10, tI_15, tI_16, tI_20, tI_31, tI_125, tI_191, tI_255, tI_256, tI_980, tI_1000, tI_4095, tI_4096, tI_8191, tI_8192, tI_16383, tI_16384, tI_32767, tI_32768, tI_33791, tI_33792, tI_40959, tI_40960, tI_65535, tI_65536] at hw_2); (try simp only [fa_lt, fa_le, fa_eq, tI_m1, tI_0, tI_1, tI_2, tI_3, tI_4, tI_5, tI_7, tI_8, tI_10, tI_15, tI_16, tI_20, tI_31, tI_125, tI_191, tI_255, tI_256, tI_980, tI_1000, tI_4095, tI_4096, tI_8191, tI_8192, tI_16383, tI_16384, tI_32767, tI_32768, tI_33791, tI_33792, tI_40959, tI_40960, tI_65535, tI_65536] at c11_9); (try simp only [fa_lt, fa_le, fa_eq, tI_m1, tI_0, tI_1, tI_2, tI_3, tI_4, tI_5, tI_7, tI_8, tI_10, tI_15, tI_16, tI_20, tI_31, tI_125, tI_191, tI_255, tI_256, tI_980, tI_1000, tI_4095, tI_4096, tI_8191, tI_8192, tI_16383, tI_16384, tI_32767, tI_32768, tI_33791, tI_33792, tI_40959, tI_40960, tI_65535, tI_65536] at c21_11); (have k0 := tI_0); (have k1 := tI_1); (have k2 := tI_2); (have k3 := tI_3); unfold sp_load; (repeat' split) <;> first | rfl | omega | (simp only [fa_lt, fa_le, fa_eq, tI_m1, tI_0, tI_1, tI_2, tI_3, tI_4, tI_5, tI_7, tI_8, tI_10, tI_15, tI_16, tI_20, tI_31, tI_125, tI_191, tI_255, tI_256, tI_980, tI_1000, tI_4095, tI_4096, tI_8191, tI_8192, tI_16383, tI_16384, tI_32767, tI_32768, tI_33791, tI_33792, tI_40959, tI_40960, tI_65535, tI_65536]; omega))), by rw [ht]; exact hP9, va_K.moved hW.alike hK9, hD9⟩, hS.F ht⟩) hS.2.2 dX6_load_73
      · refine lv_iconst (v := (-1)) hx hb dX6_load_24 (by decide) ?_
        have hP9 := hP.sub (ws' := []) [] rfl
        have hD9 := hD.sub (ws' := []) [] (by decide) rfl
        have hK9 := hK.sub (tys' := []) [] rfl
        exact W.iret (v := (-1)) hx hb hr (fun t ht hW => ⟨⟨(-1), (), rfl, by (first | decide | ((try subst_vars); (try dsimp only); (try simp only [fa_lt, fa_le, fa_eq, tI_m1, tI_0, tI_1, tI_2, tI_3, tI_4, tI_5, tI_7, tI_8, tI_10, tI_15, tI_16, tI_20, tI_31, tI_125, tI_191, tI_255, tI_256, tI_980, tI_1000, tI_4095, tI_4096, tI_8191, tI_8192, tI_16383, tI_16384, tI_32767, tI_32768, tI_33791, tI_33792, tI_40959, tI_40960, tI_65535, tI_65536] at hw_2); (try simp only [fa_lt, fa_le, fa_eq, tI_m1, tI_0, tI_1, tI_2, tI_3, tI_4, tI_5, tI_7, tI_8, tI_10, tI_15, tI_16, tI_20, tI_31, tI_125, tI_191, tI_255, tI_256, tI_980, tI_1000, tI_4095, tI_4096, tI_8191, tI_8192, tI_16383, tI_16384, tI_32767, tI_32768, tI_33791, tI_33792, tI_40959, tI_40960, tI_65535, tI_65536] at c11_9); (try simp only [fa_lt, fa_le, fa_eq, tI_m1, tI_0, tI_1, tI_2, tI_3, tI_4, tI_5, tI_7, tI_8, tI_10, tI_15, tI_16, tI_20, tI_31, tI_125, tI_191, tI_255, tI_256, tI_980, tI_1000, tI_4095, tI_4096, tI_8191, tI_8192, tI_16383, tI_16384, tI_32767, tI_32768, tI_33791, tI_33792, tI_40959, tI_40960, tI_65535, tI_65536] at c21_11); (have k0 := tI_0); (have k1 := tI_1); (have k2 := tI_2); (have k3 := tI_3); unfold sp_load; (repeat' split) <;> first | rfl | omega | (simp only [fa_lt, fa_le, fa_eq, tI_m1, tI_0, tI_1, tI_2, tI_3, tI_4, tI_5, tI_7, tI_8, tI_10, tI_15, tI_16, tI_20, tI_31, tI_125, tI_191, tI_255, tI_256, tI_980, tI_1000, tI_4095, tI_4096, tI_8191, tI_8192, tI_16383, tI_16384, tI_32767, tI_32768, tI_33791, tI_33792, tI_40959, tI_40960, tI_65535, tI_65536]; omega))), by rw [ht]; exact hP9, va_K.moved hW.alike hK9, hD9⟩, hS.F ht⟩) hS.2.2 dX6_load_25
  · refine lv_istore_n (lv' := [(3, .int 8192), (0, .ref x), (1, .int 3), (2, .int p1)]) hx hb dX6_load_4 rfl hl (by decide) rfl (fun ls hl => ?_)
    refine lv_iload_n hx hb dX6_load_5 rfl (lv_at hl 0 rfl) ?_
    refine lv_iconst (v := (-1)) hx hb dX6_load_6 (by decide) ?_
    refine lv_icmp_eq (tgt := 24) hx hb dX6_load_7 (by decide) (fun h => absurd h (by decide)) (fun _ => ?_)
    refine lv_iload_n hx hb dX6_load_10 rfl (lv_at hl 3 rfl) ?_
    refine lv_if_lt (tgt := 24) hx hb dX6_load_11 (by decide) (fun c11_12 => ?_) (fun c11_12 => ?_)
    · refine lv_iconst (v := (-1)) hx hb dX6_load_24 (by decide) ?_
      have hP9 := hP.sub (ws' := []) [] rfl
      have hD9 := hD.sub (ws' := []) [] (by decide) rfl
      have hK9 := hK.sub (tys' := []) [] rfl
      exact W.iret (v := (-1)) hx hb hr (fun t ht hW => ⟨⟨(-1), (), rfl, by (first | decide | ((try subst_vars); (try dsimp only); (try simp only [fa_lt, fa_le, fa_eq, tI_m1, tI_0, tI_1, tI_2, tI_3, tI_4, tI_5, tI_7, tI_8, tI_10, tI_15, tI_16, tI_20, tI_31, tI_125, tI_191, tI_255, tI_256, tI_980, tI_1000, tI_4095, tI_4096, tI_8191, tI_8192, tI_16383, tI_16384, tI_32767, tI_32768, tI_33791, tI_33792, tI_40959, tI_40960, tI_65535, tI_65536] at hw_2); (try simp only [fa_lt, fa_le, fa_eq, tI_m1, tI_0, tI_1, tI_2, tI_3, tI_4, tI_5, tI_7, tI_8, tI_10, tI_15, tI_16, tI_20, tI_31, tI_125, tI_191, tI_255, tI_256, tI_980, tI_1000, tI_4095, tI_4096, tI_8191, tI_8192, tI_16383, tI_16384, tI_32767, tI_32768, tI_33791, tI_33792, tI_40959, tI_40960, tI_65535, tI_65536] at c11_12); (have k0 := tI_0); (have k1 := tI_1); (have k2 := tI_2); (have k3 := tI_3); unfold sp_load; (repeat' split) <;> first | rfl | omega | (simp only [fa_lt, fa_le, fa_eq, tI_m1, tI_0, tI_1, tI_2, tI_3, tI_4, tI_5, tI_7, tI_8, tI_10, tI_15, tI_16, tI_20, tI_31, tI_125, tI_191, tI_255, tI_256, tI_980, tI_1000, tI_4095, tI_4096, tI_8191, tI_8192, tI_16383, tI_16384, tI_32767, tI_32768, tI_33791, tI_33792, tI_40959, tI_40960, tI_65535, tI_65536]; omega))), by rw [ht]; exact hP9, va_K.moved hW.alike hK9, hD9⟩, hS.F ht⟩) hS.2.2 dX6_load_25
    · refine lv_iload_n hx hb dX6_load_14 rfl (lv_at hl 3 rfl) ?_
      refine lv_iload_n hx hb dX6_load_15 rfl (lv_at hl 0 rfl) ?_
      refine lv_aload_n hx hb dX6_load_16 rfl (lv_at hl 1 rfl) ?_
      refine va_get (D := (dC, dI)) (ci := 6) (v := .int 0) (C := RX6) (T := TX6) (N := 7) hx hb hts in_X6_load_X6 hown hK hP 0 rfl rfl 6 (by decide) (hts (.fieldLink RX6 59 "WorkspaceBox" "tapeLength" "I") (by decide +kernel)) (fun _ h9 => h9) rfl dX6_load_17 ?_
      refine lv_isub hx hb dX6_load_20 ?_
      refine lv_topi (fun y_13 ey_13 => ?_)
      obtain rfl : y_13 = 8192 := ey_13.trans (by decide)
      refine lv_icmp_le (tgt := 26) hx hb dX6_load_21 (by decide) (fun c21_14 => ?_) (fun c21_14 => ?_)
      · refine lv_aload_n hx hb dX6_load_26 rfl (lv_at hl 1 rfl) ?_
        refine va_get (D := (dC, dI)) (ci := 6) (v := .int 0) (C := RX6) (T := TX6) (N := 7) hx hb hts in_X6_load_X6 hown hK hP 0 rfl rfl 6 (by decide) (hts (.fieldLink RX6 59 "WorkspaceBox" "tapeLength" "I") (by decide +kernel)) (fun _ h9 => h9) rfl dX6_load_27 ?_
        refine lv_istore (lv' := [(4, .int 0), (3, .int 8192), (0, .ref x), (1, .int 3), (2, .int p1)]) hx hb dX6_load_30 hl (by decide) rfl (fun ls hl => ?_)
        refine lv_iconst (v := 0) hx hb dX6_load_32 (by decide) ?_
        refine lv_istore (lv' := [(5, .int 0), (4, .int 0), (3, .int 8192), (0, .ref x), (1, .int 3), (2, .int p1)]) hx hb dX6_load_33 hl (by decide) rfl (fun ls hl => ?_)
        refine lv_iload hx hb dX6_load_35 (lv_at hl 0 rfl) ?_
        refine lv_iload hx hb dX6_load_37 (lv_at hl 1 rfl) ?_
        refine lv_icmp_ge (tgt := 66) hx hb dX6_load_39 (by decide) (fun _ => ?_) (fun h => absurd (by decide) h)
        refine lv_aload_n hx hb dX6_load_66 rfl (lv_at hl 3 rfl) ?_
        refine lv_iconst (v := 0) hx hb dX6_load_67 (by decide) ?_
        refine va_put (D := (dC, dI)) (ci := 6) (v := .int 0) (ty := .int) (C := RX6) (T := TX6) (N := 7) hx hb hts in_X6_load_X6 tyX6 tyX6_ok nmX6 hown hK hP hD hS 0 rfl rfl 6 (by decide) (hts (.fieldLink RX6 59 "WorkspaceBox" "tapeLength" "I") (by decide +kernel)) (fun _ h9 => h9) rfl (by decide +kernel) rfl rfl (Nat.le_of_ble_eq_true rfl) dX6_load_68 (fun H locs hP hD hS => ?_)
        have hP : va_P (dC, dI) vwCl [(x, .inr (6, [.ref tb, .ref pi, .ref gr, .ref wi, .ref me, .ref pu, .int 0]))] H := hP
        have hD : va_D A [(x, .inr (6, [.ref tb, .ref pi, .ref gr, .ref wi, .ref me, .ref pu, .int 0]))] := hD
        refine lv_iload hx hb dX6_load_71 (lv_at hl 1 rfl) ?_
        have hP9 := hP.sub (ws' := []) [] rfl
        have hD9 := hD.sub (ws' := []) [] (by decide) rfl
        have hK9 := hK.sub (tys' := []) [] rfl
        exact W.iret (v := 0) hx hb hr (fun t ht hW => ⟨⟨0, (), rfl, by (first | decide | ((try subst_vars); (try dsimp only); (try simp only [fa_lt, fa_le, fa_eq, tI_m1, tI_0, tI_1, tI_2, tI_3, tI_4, tI_5, tI_7, tI_8, tI_10, tI_15, tI_16, tI_20, tI_31, tI_125, tI_191, tI_255, tI_256, tI_980, tI_1000, tI_4095, tI_4096, tI_8191, tI_8192, tI_16383, tI_16384, tI_32767, tI_32768, tI_33791, tI_33792, tI_40959, tI_40960, tI_65535, tI_65536] at hw_2); (try simp only [fa_lt, fa_le, fa_eq, tI_m1, tI_0, tI_1, tI_2, tI_3, tI_4, tI_5, tI_7, tI_8, tI_10, tI_15, tI_16, tI_20, tI_31, tI_125, tI_191, tI_255, tI_256, tI_980, tI_1000, tI_4095, tI_4096, tI_8191, tI_8192, tI_16383, tI_16384, tI_32767, tI_32768, tI_33791, tI_33792, tI_40959, tI_40960, tI_65535, tI_65536] at c11_12); (try simp only [fa_lt, fa_le, fa_eq, tI_m1, tI_0, tI_1, tI_2, tI_3, tI_4, tI_5, tI_7, tI_8, tI_10, tI_15, tI_16, tI_20, tI_31, tI_125, tI_191, tI_255, tI_256, tI_980, tI_1000, tI_4095, tI_4096, tI_8191, tI_8192, tI_16383, tI_16384, tI_32767, tI_32768, tI_33791, tI_33792, tI_40959, tI_40960, tI_65535, tI_65536] at c21_14); (have k0 := tI_0); (have k1 := tI_1); (have k2 := tI_2); (have k3 := tI_3); unfold sp_load; (repeat' split) <;> first | rfl | omega | (simp only [fa_lt, fa_le, fa_eq, tI_m1, tI_0, tI_1, tI_2, tI_3, tI_4, tI_5, tI_7, tI_8, tI_10, tI_15, tI_16, tI_20, tI_31, tI_125, tI_191, tI_255, tI_256, tI_980, tI_1000, tI_4095, tI_4096, tI_8191, tI_8192, tI_16383, tI_16384, tI_32767, tI_32768, tI_33791, tI_33792, tI_40959, tI_40960, tI_65535, tI_65536]; omega))), by rw [ht]; exact hP9, va_K.moved hW.alike hK9, hD9⟩, hS.F ht⟩) hS.2.2 dX6_load_73
      · refine lv_iconst (v := (-1)) hx hb dX6_load_24 (by decide) ?_
        have hP9 := hP.sub (ws' := []) [] rfl
        have hD9 := hD.sub (ws' := []) [] (by decide) rfl
        have hK9 := hK.sub (tys' := []) [] rfl
        exact W.iret (v := (-1)) hx hb hr (fun t ht hW => ⟨⟨(-1), (), rfl, by (first | decide | ((try subst_vars); (try dsimp only); (try simp only [fa_lt, fa_le, fa_eq, tI_m1, tI_0, tI_1, tI_2, tI_3, tI_4, tI_5, tI_7, tI_8, tI_10, tI_15, tI_16, tI_20, tI_31, tI_125, tI_191, tI_255, tI_256, tI_980, tI_1000, tI_4095, tI_4096, tI_8191, tI_8192, tI_16383, tI_16384, tI_32767, tI_32768, tI_33791, tI_33792, tI_40959, tI_40960, tI_65535, tI_65536] at hw_2); (try simp only [fa_lt, fa_le, fa_eq, tI_m1, tI_0, tI_1, tI_2, tI_3, tI_4, tI_5, tI_7, tI_8, tI_10, tI_15, tI_16, tI_20, tI_31, tI_125, tI_191, tI_255, tI_256, tI_980, tI_1000, tI_4095, tI_4096, tI_8191, tI_8192, tI_16383, tI_16384, tI_32767, tI_32768, tI_33791, tI_33792, tI_40959, tI_40960, tI_65535, tI_65536] at c11_12); (try simp only [fa_lt, fa_le, fa_eq, tI_m1, tI_0, tI_1, tI_2, tI_3, tI_4, tI_5, tI_7, tI_8, tI_10, tI_15, tI_16, tI_20, tI_31, tI_125, tI_191, tI_255, tI_256, tI_980, tI_1000, tI_4095, tI_4096, tI_8191, tI_8192, tI_16383, tI_16384, tI_32767, tI_32768, tI_33791, tI_33792, tI_40959, tI_40960, tI_65535, tI_65536] at c21_14); (have k0 := tI_0); (have k1 := tI_1); (have k2 := tI_2); (have k3 := tI_3); unfold sp_load; (repeat' split) <;> first | rfl | omega | (simp only [fa_lt, fa_le, fa_eq, tI_m1, tI_0, tI_1, tI_2, tI_3, tI_4, tI_5, tI_7, tI_8, tI_10, tI_15, tI_16, tI_20, tI_31, tI_125, tI_191, tI_255, tI_256, tI_980, tI_1000, tI_4095, tI_4096, tI_8191, tI_8192, tI_16383, tI_16384, tI_32767, tI_32768, tI_33791, tI_33792, tI_40959, tI_40960, tI_65535, tI_65536]; omega))), by rw [ht]; exact hP9, va_K.moved hW.alike hK9, hD9⟩, hS.F ht⟩) hS.2.2 dX6_load_25

