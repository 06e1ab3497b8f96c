theorem in_X2_storedAt_X2 : ∀ w ∈ wsX20, w ∈ wsX2_storedAt := by decide +kernel
set_option maxHeartbeats 1000000 in
set_option maxRecDepth 100000 in
theorem k_storedAt (l : Launch) (dC : Nat → ClassId) (dI : Nat → Nat → Nat) (x tb ta pi pb pa pr gr gb ga wi wa me rb ra mb ma qb qa pu : Nat) (ct cp cr cg cw c1 c2 c3 : ClassId) (p0 : Int32) (sz : Nat)  : Met l yX2_storedAt wsX2_storedAt ({ frames := 1, cells := 0, slots := 0, locals := 22 }) (va_Pc [.ref me, .int p0] (fun U => U.heap.size = sz ∧ va_P (dC, dI) vwCl [(me, .inr (2, [.ref rb, .ref mb, .ref qb, .ref pi, .ref gr])), (rb, .inr (0, [.ref ra])), (ra, .inl (c1, 1024, .inr (.inl (fun _ => 0)))), (mb, .inr (0, [.ref ma])), (ma, .inl (c2, 4096, .inr (.inl (fun _ => 0)))), (qb, .inr (0, [.ref qa])), (qa, .inl (c3, 32, .inr (.inl (fun _ => 0))))] U.heap ∧ va_K (dC, dI) vwCl [(c1, .long), (c2, .long), (c3, .long)] U ∧ va_D (fun _ => True) [(me, .inr (2, [.ref rb, .ref mb, .ref qb, .ref pi, .ref gr])), (rb, .inr (0, [.ref ra])), (ra, .inl (c1, 1024, .inr (.inl (fun _ => 0)))), (mb, .inr (0, [.ref ma])), (ma, .inl (c2, 4096, .inr (.inl (fun _ => 0)))), (qb, .inr (0, [.ref qa])), (qa, .inl (c3, 32, .inr (.inl (fun _ => 0))))])) (va_Qi (fun (r : Int32) (_ : Unit) => r = 0) (fun (u : Unit) (t : State) => va_P (dC, dI) vwCl [(me, .inr (2, [.ref rb, .ref mb, .ref qb, .ref pi, .ref gr])), (rb, .inr (0, [.ref ra])), (ra, .inl (c1, 1024, .inr (.inl (fun _ => 0)))), (mb, .inr (0, [.ref ma])), (ma, .inl (c2, 4096, .inr (.inl (fun _ => 0)))), (qb, .inr (0, [.ref qa])), (qa, .inl (c3, 32, .inr (.inl (fun _ => 0))))] t.heap ∧ va_K (dC, dI) vwCl [(c1, .long), (c2, .long), (c3, .long)] t ∧ va_D (va_A [(me, .inr (2, [.ref rb, .ref mb, .ref qb, .ref pi, .ref gr])), (rb, .inr (0, [.ref ra])), (ra, .inl (c1, 1024, .inr (.inl (fun _ => 0)))), (mb, .inr (0, [.ref ma])), (ma, .inl (c2, 4096, .inr (.inl (fun _ => 0)))), (qb, .inr (0, [.ref qa])), (qa, .inl (c3, 32, .inr (.inl (fun _ => 0))))] sz) [(me, .inr (2, [.ref rb, .ref mb, .ref qb, .ref pi, .ref gr])), (rb, .inr (0, [.ref ra])), (ra, .inl (c1, 1024, .inr (.inl (fun _ => 0)))), (mb, .inr (0, [.ref ma])), (ma, .inl (c2, 4096, .inr (.inl (fun _ => 0)))), (qb, .inr (0, [.ref qa])), (qa, .inl (c3, 32, .inr (.inl (fun _ => 0))))]) (va_A [(me, .inr (2, [.ref rb, .ref mb, .ref qb, .ref pi, .ref gr])), (rb, .inr (0, [.ref ra])), (ra, .inl (c1, 1024, .inr (.inl (fun _ => 0)))), (mb, .inr (0, [.ref ma])), (ma, .inl (c2, 4096, .inr (.inl (fun _ => 0)))), (qb, .inr (0, [.ref qa])), (qa, .inl (c3, 32, .inr (.inl (fun _ => 0))))] sz)) 0 0 (va_A [(me, .inr (2, [.ref rb, .ref mb, .ref qb, .ref pi, .ref gr])), (rb, .inr (0, [.ref ra])), (ra, .inl (c1, 1024, .inr (.inl (fun _ => 0)))), (mb, .inr (0, [.ref ma])), (ma, .inl (c2, 4096, .inr (.inl (fun _ => 0)))), (qb, .inr (0, [.ref qa])), (qa, .inl (c3, 32, .inr (.inl (fun _ => 0))))] sz) := by
  refine Met.ofW (cc := cX2_storedAt) (maxL := 2) (ret := (some .int)) (by decide) rfl ?_
  intro p e s m args below meth c s₁ B hml hv
  obtain ⟨rfl, hsz, hP, hK, hD0⟩ := hv
  have hx := B.exec
  have hb := B.bytes
  have hr := B.returns
  have hts := atoms_spec (ws := wsX2_storedAt) B.pre
  have hown : s.vm.findClass RX2 = some m.cls := findClass_of_methodNamed B.named
  have hlocks := B.notSynchronized
  subst hsz
  have hD := hD0.self (sz := s.heap.size)
  generalize hAe : va_A [(me, .inr (2, [.ref rb, .ref mb, .ref qb, .ref pi, .ref gr])), (rb, .inr (0, [.ref ra])), (ra, .inl (c1, 1024, .inr (.inl (fun _ => 0)))), (mb, .inr (0, [.ref ma])), (ma, .inl (c2, 4096, .inr (.inl (fun _ => 0)))), (qb, .inr (0, [.ref qa])), (qa, .inl (c3, 32, .inr (.inl (fun _ => 0))))] s.heap.size = A at hD ⊢
  have hA : ∀ q : Nat, s.heap.size ≤ q → A q := fun q h => by rw [← hAe]; exact Or.inr h
  have hS : va_S A s.heap s.heap [] := va_S.rf
  have hP : va_P (dC, dI) vwCl [(me, .inr (2, [.ref rb, .ref mb, .ref qb, .ref pi, .ref gr])), (rb, .inr (0, [.ref ra])), (ra, .inl (c1, 1024, .inr (.inl (fun _ => 0)))), (mb, .inr (0, [.ref ma])), (ma, .inl (c2, 4096, .inr (.inl (fun _ => 0)))), (qb, .inr (0, [.ref qa])), (qa, .inl (c3, 32, .inr (.inl (fun _ => 0))))] s.heap := hP
  have hl := lv_entry ([.ref me, .int p0]) (n := 2) (Nat.le_of_ble_eq_true rfl)
  rw [lg_entry_eq]
  generalize (lg_sl ([.ref me, .int p0]) ++ List.replicate (2 - (lg_sl ([.ref me, .int p0])).length) Slot.unset).toArray = ls at hl ⊢
  have hl : lv_has ls 2 [(0, .ref me), (1, .int p0)] := hl
  refine lv_iload_n hx hb dX2_storedAt_0 rfl (lv_at hl 1 rfl) ?_
  refine lv_sipush (v := 8192) hx hb dX2_storedAt_1 (by decide) ?_
  refine lv_icmp_ge (tgt := 16) hx hb dX2_storedAt_4 (by decide) (fun c4_1 => ?_) (fun c4_1 => ?_)
  · refine lv_iload_n hx hb dX2_storedAt_16 rfl (lv_at hl 1 rfl) ?_
    refine lv_sipush (v := 16384) hx hb dX2_storedAt_17 (by decide) ?_
    refine lv_icmp_ge (tgt := 36) hx hb dX2_storedAt_20 (by decide) (fun c20_2 => ?_) (fun c20_2 => ?_)
    · refine lv_iload_n hx hb dX2_storedAt_36 rfl (lv_at hl 1 rfl) ?_
      refine lv_ldc hx hb hown (hts (.constant RX2 81 (40960)) (by decide +kernel)) dX2_storedAt_37 ?_
      refine lv_icmp_lt (tgt := 54) hx hb dX2_storedAt_39 (by decide) (fun c39_3 => ?_) (fun c39_3 => ?_)
      · refine lv_iload_n hx hb dX2_storedAt_54 rfl (lv_at hl 1 rfl) ?_
        refine lv_ldc hx hb hown (hts (.constant RX2 20 (32768)) (by decide +kernel)) dX2_storedAt_55 ?_
        refine lv_icmp_lt (tgt := 81) hx hb dX2_storedAt_57 (by decide) (fun c57_4 => ?_) (fun c57_4 => ?_)
        · refine lv_iconst (v := 0) hx hb dX2_storedAt_81 (by decide) ?_
          have hP9 := hP.sub (ws' := [(me, .inr (2, [.ref rb, .ref mb, .ref qb, .ref pi, .ref gr])), (rb, .inr (0, [.ref ra])), (ra, .inl (c1, 1024, .inr (.inl (fun _ => 0)))), (mb, .inr (0, [.ref ma])), (ma, .inl (c2, 4096, .inr (.inl (fun _ => 0)))), (qb, .inr (0, [.ref qa])), (qa, .inl (c3, 32, .inr (.inl (fun _ => 0))))]) [0, 1, 2, 3, 4, 5, 6] rfl
          have hD9 := hD.sub (ws' := [(me, .inr (2, [.ref rb, .ref mb, .ref qb, .ref pi, .ref gr])), (rb, .inr (0, [.ref ra])), (ra, .inl (c1, 1024, .inr (.inl (fun _ => 0)))), (mb, .inr (0, [.ref ma])), (ma, .inl (c2, 4096, .inr (.inl (fun _ => 0)))), (qb, .inr (0, [.ref qa])), (qa, .inl (c3, 32, .inr (.inl (fun _ => 0))))]) [0, 1, 2, 3, 4, 5, 6] (by decide) rfl
          have hK9 := hK.sub (tys' := [(c1, .long), (c2, .long), (c3, .long)]) [0, 1, 2] rfl
          exact W.iret (v := 0) hx hb hr (fun t ht hW => ⟨⟨0, (), rfl, rfl, by rw [ht]; exact hP9, va_K.moved hW.alike hK9, hD9⟩, hS.F ht⟩) hS.2.2 dX2_storedAt_82
        · refine lv_iload_n hx hb dX2_storedAt_60 rfl (lv_at hl 1 rfl) ?_
          refine lv_ldc hx hb hown (hts (.constant RX2 82 (33792)) (by decide +kernel)) dX2_storedAt_61 ?_
          refine lv_icmp_ge (tgt := 81) hx hb dX2_storedAt_63 (by decide) (fun c63_5 => ?_) (fun c63_5 => ?_)
          · refine lv_iconst (v := 0) hx hb dX2_storedAt_81 (by decide) ?_
            have hP9 := hP.sub (ws' := [(me, .inr (2, [.ref rb, .ref mb, .ref qb, .ref pi, .ref gr])), (rb, .inr (0, [.ref ra])), (ra, .inl (c1, 1024, .inr (.inl (fun _ => 0)))), (mb, .inr (0, [.ref ma])), (ma, .inl (c2, 4096, .inr (.inl (fun _ => 0)))), (qb, .inr (0, [.ref qa])), (qa, .inl (c3, 32, .inr (.inl (fun _ => 0))))]) [0, 1, 2, 3, 4, 5, 6] rfl
            have hD9 := hD.sub (ws' := [(me, .inr (2, [.ref rb, .ref mb, .ref qb, .ref pi, .ref gr])), (rb, .inr (0, [.ref ra])), (ra, .inl (c1, 1024, .inr (.inl (fun _ => 0)))), (mb, .inr (0, [.ref ma])), (ma, .inl (c2, 4096, .inr (.inl (fun _ => 0)))), (qb, .inr (0, [.ref qa])), (qa, .inl (c3, 32, .inr (.inl (fun _ => 0))))]) [0, 1, 2, 3, 4, 5, 6] (by decide) rfl
            have hK9 := hK.sub (tys' := [(c1, .long), (c2, .long), (c3, .long)]) [0, 1, 2] rfl
            exact W.iret (v := 0) hx hb hr (fun t ht hW => ⟨⟨0, (), rfl, rfl, by rw [ht]; exact hP9, va_K.moved hW.alike hK9, hD9⟩, hS.F ht⟩) hS.2.2 dX2_storedAt_82
          · refine lv_aload_n hx hb dX2_storedAt_66 rfl (lv_at hl 0 rfl) ?_
            refine va_get (D := (dC, dI)) (ci := 2) (v := .ref qb) (C := RX2) (T := TX2) (N := 5) hx hb hts in_X2_storedAt_X2 hown hK hP 0 rfl rfl 2 (by decide) (hts (.fieldLink RX2 24 "WorkspaceBox$Memory" "pad" "LWorkspaceBox$Bytes;") (by decide +kernel)) (fun _ h9 => h9) rfl dX2_storedAt_67 ?_
            refine lv_iload_n hx hb dX2_storedAt_70 rfl (lv_at hl 1 rfl) ?_
            refine lv_sipush (v := 255) hx hb dX2_storedAt_71 (by decide) ?_
            refine lv_iand hx hb dX2_storedAt_74 ?_
            refine lv_topi (fun y_6 ey_6 => ?_)
            have hPc := hP.sub (ws' := [(qb, .inr (0, [.ref qa])), (qa, .inl (c3, 32, .inr (.inl (fun _ => 0))))]) [5, 6] rfl
            have hDc := hD.sub (ws' := [(qb, .inr (0, [.ref qa])), (qa, .inl (c3, 32, .inr (.inl (fun _ => 0))))]) [5, 6] (by decide) rfl
            have hKc := hK.sub (tys' := [(c3, .long)]) [2] rfl
            have hFc := va_free (wc := [(qb, .inr (0, [.ref qa])), (qa, .inl (c3, 32, .inr (.inl (fun _ => 0))))]) hD hS hA [5, 6] rfl
            refine va_calli (va_runV (As := [.int y_6]) (rest := []) ⟨hx, hb, hml, hown, hts⟩ (k_Bytes_get l dC dI qb qa 32 (fun _ => 0) c3 y_6 s.heap.size (by decide)) (cwV 1 hts gX2_storedAt_X0_get rfl rfl rfl (by decide +kernel) ⟨Nat.le_of_ble_eq_true rfl, Nat.le_of_ble_eq_true rfl⟩) ⟨fun a U g mk q => by obtain ⟨q0, q1, qP, qK, qD⟩ := q; exact ⟨q0, q1, qP, va_K.moved (u := U) (U := U.calling g mk a) (Vm.Alike.refl U.vm) qK, qD⟩, va_recv hKc hPc (ci := 0) (q0 := 0) rfl rfl, fun U hU hW => ⟨rfl, by rw [hU], by rw [hU]; exact hPc, va_K.moved hW.alike hKc, hDc.weaken (fun _ _ _ _ => trivial)⟩⟩ rfl rfl hl.1 rfl (lv_room (Nat.le_of_ble_eq_true rfl)) dX2_storedAt_75 ⟨Nat.le_of_ble_eq_true rfl, Nat.le_of_ble_eq_true rfl⟩) hS (fun q _ h => hFc q h) hFc (fun r_7 u t H1 locs ht hvm hw hB hz1 hk1 hS => ?_)
            obtain ⟨hP1, hK1, hD1⟩ := hB
            rw [ht] at hP1
            have hK1 := va_K.moved hvm.symm hK1
            try dsimp only at hw
            obtain ⟨hP, hD⟩ := va_join (wr := [(me, .inr (2, [.ref rb, .ref mb, .ref qb, .ref pi, .ref gr])), (rb, .inr (0, [.ref ra])), (ra, .inl (c1, 1024, .inr (.inl (fun _ => 0)))), (mb, .inr (0, [.ref ma])), (ma, .inl (c2, 4096, .inr (.inl (fun _ => 0))))]) (w1 := [(qb, .inr (0, [.ref qa])), (qa, .inl (c3, 32, .inr (.inl (fun _ => 0))))]) hP hD [5, 6] [0, 1, 2, 3, 4] rfl rfl (by decide) (by decide) hk1 hFc hP1 hD1
            have hK := (hK.sub (tys' := [(c1, .long), (c2, .long), (c3, .long)]) [0, 1, 2] rfl).app hK1
            generalize H1 = H at hP hS ⊢
            have hP : va_P (dC, dI) vwCl [(me, .inr (2, [.ref rb, .ref mb, .ref qb, .ref pi, .ref gr])), (rb, .inr (0, [.ref ra])), (ra, .inl (c1, 1024, .inr (.inl (fun _ => 0)))), (mb, .inr (0, [.ref ma])), (ma, .inl (c2, 4096, .inr (.inl (fun _ => 0)))), (qb, .inr (0, [.ref qa])), (qa, .inl (c3, 32, .inr (.inl (fun _ => 0))))] H := hP
            have hD : va_D A [(me, .inr (2, [.ref rb, .ref mb, .ref qb, .ref pi, .ref gr])), (rb, .inr (0, [.ref ra])), (ra, .inl (c1, 1024, .inr (.inl (fun _ => 0)))), (mb, .inr (0, [.ref ma])), (ma, .inl (c2, 4096, .inr (.inl (fun _ => 0)))), (qb, .inr (0, [.ref qa])), (qa, .inl (c3, 32, .inr (.inl (fun _ => 0))))] := hD
            have hK : va_K (dC, dI) vwCl [(c1, .long), (c2, .long), (c3, .long), (c3, .long)] s := hK
            have hw_8 := hw
            obtain rfl := hw_8 (fun _ => rfl)
            refine lv_goto (tgt := 82) hx hb dX2_storedAt_78 (by decide) ?_
            have hP9 := hP.sub (ws' := [(me, .inr (2, [.ref rb, .ref mb, .ref qb, .ref pi, .ref gr])), (rb, .inr (0, [.ref ra])), (ra, .inl (c1, 1024, .inr (.inl (fun _ => 0)))), (mb, .inr (0, [.ref ma])), (ma, .inl (c2, 4096, .inr (.inl (fun _ => 0)))), (qb, .inr (0, [.ref qa])), (qa, .inl (c3, 32, .inr (.inl (fun _ => 0))))]) [0, 1, 2, 3, 4, 5, 6] rfl
            have hD9 := hD.sub (ws' := [(me, .inr (2, [.ref rb, .ref mb, .ref qb, .ref pi, .ref gr])), (rb, .inr (0, [.ref ra])), (ra, .inl (c1, 1024, .inr (.inl (fun _ => 0)))), (mb, .inr (0, [.ref ma])), (ma, .inl (c2, 4096, .inr (.inl (fun _ => 0)))), (qb, .inr (0, [.ref qa])), (qa, .inl (c3, 32, .inr (.inl (fun _ => 0))))]) [0, 1, 2, 3, 4, 5, 6] (by decide) rfl
            have hK9 := hK.sub (tys' := [(c1, .long), (c2, .long), (c3, .long)]) [0, 1, 2] rfl
            exact W.iret (v := 0) hx hb hr (fun t ht hW => ⟨⟨0, (), rfl, rfl, by rw [ht]; exact hP9, va_K.moved hW.alike hK9, hD9⟩, hS.F ht⟩) hS.2.2 dX2_storedAt_82
      · refine lv_aload_n hx hb dX2_storedAt_42 rfl (lv_at hl 0 rfl) ?_
        refine va_get (D := (dC, dI)) (ci := 2) (v := .ref mb) (C := RX2) (T := TX2) (N := 5) hx hb hts in_X2_storedAt_X2 hown hK hP 0 rfl rfl 1 (by decide) (hts (.fieldLink RX2 21 "WorkspaceBox$Memory" "ram" "LWorkspaceBox$Bytes;") (by decide +kernel)) (fun _ h9 => h9) rfl dX2_storedAt_43 ?_
        refine lv_iload_n hx hb dX2_storedAt_46 rfl (lv_at hl 1 rfl) ?_
        refine lv_ldc hx hb hown (hts (.constant RX2 20 (32768)) (by decide +kernel)) dX2_storedAt_47 ?_
        refine lv_isub hx hb dX2_storedAt_49 ?_
        refine lv_topi (fun y_9 ey_9 => ?_)
        have hPc := hP.sub (ws' := [(mb, .inr (0, [.ref ma])), (ma, .inl (c2, 4096, .inr (.inl (fun _ => 0))))]) [3, 4] rfl
        have hDc := hD.sub (ws' := [(mb, .inr (0, [.ref ma])), (ma, .inl (c2, 4096, .inr (.inl (fun _ => 0))))]) [3, 4] (by decide) rfl
        have hKc := hK.sub (tys' := [(c2, .long)]) [1] rfl
        have hFc := va_free (wc := [(mb, .inr (0, [.ref ma])), (ma, .inl (c2, 4096, .inr (.inl (fun _ => 0))))]) hD hS hA [3, 4] rfl
        refine va_calli (va_runV (As := [.int y_9]) (rest := []) ⟨hx, hb, hml, hown, hts⟩ (k_Bytes_get l dC dI mb ma 4096 (fun _ => 0) c2 y_9 s.heap.size (by decide)) (cwV 1 hts gX2_storedAt_X0_get rfl rfl rfl (by decide +kernel) ⟨Nat.le_of_ble_eq_true rfl, Nat.le_of_ble_eq_true rfl⟩) ⟨fun a U g mk q => by obtain ⟨q0, q1, qP, qK, qD⟩ := q; exact ⟨q0, q1, qP, va_K.moved (u := U) (U := U.calling g mk a) (Vm.Alike.refl U.vm) qK, qD⟩, va_recv hKc hPc (ci := 0) (q0 := 0) rfl rfl, fun U hU hW => ⟨rfl, by rw [hU], by rw [hU]; exact hPc, va_K.moved hW.alike hKc, hDc.weaken (fun _ _ _ _ => trivial)⟩⟩ rfl rfl hl.1 rfl (lv_room (Nat.le_of_ble_eq_true rfl)) dX2_storedAt_50 ⟨Nat.le_of_ble_eq_true rfl, Nat.le_of_ble_eq_true rfl⟩) hS (fun q _ h => hFc q h) hFc (fun r_10 u t H1 locs ht hvm hw hB hz1 hk1 hS => ?_)
        obtain ⟨hP1, hK1, hD1⟩ := hB
        rw [ht] at hP1
        have hK1 := va_K.moved hvm.symm hK1
        try dsimp only at hw
        obtain ⟨hP, hD⟩ := va_join (wr := [(me, .inr (2, [.ref rb, .ref mb, .ref qb, .ref pi, .ref gr])), (rb, .inr (0, [.ref ra])), (ra, .inl (c1, 1024, .inr (.inl (fun _ => 0)))), (qb, .inr (0, [.ref qa])), (qa, .inl (c3, 32, .inr (.inl (fun _ => 0))))]) (w1 := [(mb, .inr (0, [.ref ma])), (ma, .inl (c2, 4096, .inr (.inl (fun _ => 0))))]) hP hD [3, 4] [0, 1, 2, 5, 6] rfl rfl (by decide) (by decide) hk1 hFc hP1 hD1
        have hK := (hK.sub (tys' := [(c1, .long), (c2, .long), (c3, .long)]) [0, 1, 2] rfl).app hK1
        generalize H1 = H at hP hS ⊢
        have hP : va_P (dC, dI) vwCl [(me, .inr (2, [.ref rb, .ref mb, .ref qb, .ref pi, .ref gr])), (rb, .inr (0, [.ref ra])), (ra, .inl (c1, 1024, .inr (.inl (fun _ => 0)))), (qb, .inr (0, [.ref qa])), (qa, .inl (c3, 32, .inr (.inl (fun _ => 0)))), (mb, .inr (0, [.ref ma])), (ma, .inl (c2, 4096, .inr (.inl (fun _ => 0))))] H := hP
        have hD : va_D A [(me, .inr (2, [.ref rb, .ref mb, .ref qb, .ref pi, .ref gr])), (rb, .inr (0, [.ref ra])), (ra, .inl (c1, 1024, .inr (.inl (fun _ => 0)))), (qb, .inr (0, [.ref qa])), (qa, .inl (c3, 32, .inr (.inl (fun _ => 0)))), (mb, .inr (0, [.ref ma])), (ma, .inl (c2, 4096, .inr (.inl (fun _ => 0))))] := hD
        have hK : va_K (dC, dI) vwCl [(c1, .long), (c2, .long), (c3, .long), (c2, .long)] s := hK
        have hw_11 := hw
        obtain rfl := hw_11 (fun _ => rfl)
        have hP9 := hP.sub (ws' := [(me, .inr (2, [.ref rb, .ref mb, .ref qb, .ref pi, .ref gr])), (rb, .inr (0, [.ref ra])), (ra, .inl (c1, 1024, .inr (.inl (fun _ => 0)))), (mb, .inr (0, [.ref ma])), (ma, .inl (c2, 4096, .inr (.inl (fun _ => 0)))), (qb, .inr (0, [.ref qa])), (qa, .inl (c3, 32, .inr (.inl (fun _ => 0))))]) [0, 1, 2, 5, 6, 3, 4] rfl
        have hD9 := hD.sub (ws' := [(me, .inr (2, [.ref rb, .ref mb, .ref qb, .ref pi, .ref gr])), (rb, .inr (0, [.ref ra])), (ra, .inl (c1, 1024, .inr (.inl (fun _ => 0)))), (mb, .inr (0, [.ref ma])), (ma, .inl (c2, 4096, .inr (.inl (fun _ => 0)))), (qb, .inr (0, [.ref qa])), (qa, .inl (c3, 32, .inr (.inl (fun _ => 0))))]) [0, 1, 2, 5, 6, 3, 4] (by decide) rfl
        have hK9 := hK.sub (tys' := [(c1, .long), (c2, .long), (c3, .long)]) [0, 1, 2] rfl
        exact W.iret (v := 0) hx hb hr (fun t ht hW => ⟨⟨0, (), rfl, rfl, by rw [ht]; exact hP9, va_K.moved hW.alike hK9, hD9⟩, hS.F ht⟩) hS.2.2 dX2_storedAt_53
    · refine lv_aload_n hx hb dX2_storedAt_23 rfl (lv_at hl 0 rfl) ?_
      refine va_get (D := (dC, dI)) (ci := 2) (v := .ref mb) (C := RX2) (T := TX2) (N := 5) hx hb hts in_X2_storedAt_X2 hown hK hP 0 rfl rfl 1 (by decide) (hts (.fieldLink RX2 21 "WorkspaceBox$Memory" "ram" "LWorkspaceBox$Bytes;") (by decide +kernel)) (fun _ h9 => h9) rfl dX2_storedAt_24 ?_
      refine lv_iload_n hx hb dX2_storedAt_27 rfl (lv_at hl 1 rfl) ?_
      refine lv_sipush (v := 8192) hx hb dX2_storedAt_28 (by decide) ?_
      refine lv_isub hx hb dX2_storedAt_31 ?_
      refine lv_topi (fun y_12 ey_12 => ?_)
      have hPc := hP.sub (ws' := [(mb, .inr (0, [.ref ma])), (ma, .inl (c2, 4096, .inr (.inl (fun _ => 0))))]) [3, 4] rfl
      have hDc := hD.sub (ws' := [(mb, .inr (0, [.ref ma])), (ma, .inl (c2, 4096, .inr (.inl (fun _ => 0))))]) [3, 4] (by decide) rfl
      have hKc := hK.sub (tys' := [(c2, .long)]) [1] rfl
      have hFc := va_free (wc := [(mb, .inr (0, [.ref ma])), (ma, .inl (c2, 4096, .inr (.inl (fun _ => 0))))]) hD hS hA [3, 4] rfl
      refine va_calli (va_runV (As := [.int y_12]) (rest := []) ⟨hx, hb, hml, hown, hts⟩ (k_Bytes_get l dC dI mb ma 4096 (fun _ => 0) c2 y_12 s.heap.size (by decide)) (cwV 1 hts gX2_storedAt_X0_get rfl rfl rfl (by decide +kernel) ⟨Nat.le_of_ble_eq_true rfl, Nat.le_of_ble_eq_true rfl⟩) ⟨fun a U g mk q => by obtain ⟨q0, q1, qP, qK, qD⟩ := q; exact ⟨q0, q1, qP, va_K.moved (u := U) (U := U.calling g mk a) (Vm.Alike.refl U.vm) qK, qD⟩, va_recv hKc hPc (ci := 0) (q0 := 0) rfl rfl, fun U hU hW => ⟨rfl, by rw [hU], by rw [hU]; exact hPc, va_K.moved hW.alike hKc, hDc.weaken (fun _ _ _ _ => trivial)⟩⟩ rfl rfl hl.1 rfl (lv_room (Nat.le_of_ble_eq_true rfl)) dX2_storedAt_32 ⟨Nat.le_of_ble_eq_true rfl, Nat.le_of_ble_eq_true rfl⟩) hS (fun q _ h => hFc q h) hFc (fun r_13 u t H1 locs ht hvm hw hB hz1 hk1 hS => ?_)
      obtain ⟨hP1, hK1, hD1⟩ := hB
      rw [ht] at hP1
      have hK1 := va_K.moved hvm.symm hK1
      try dsimp only at hw
      obtain ⟨hP, hD⟩ := va_join (wr := [(me, .inr (2, [.ref rb, .ref mb, .ref qb, .ref pi, .ref gr])), (rb, .inr (0, [.ref ra])), (ra, .inl (c1, 1024, .inr (.inl (fun _ => 0)))), (qb, .inr (0, [.ref qa])), (qa, .inl (c3, 32, .inr (.inl (fun _ => 0))))]) (w1 := [(mb, .inr (0, [.ref ma])), (ma, .inl (c2, 4096, .inr (.inl (fun _ => 0))))]) hP hD [3, 4] [0, 1, 2, 5, 6] rfl rfl (by decide) (by decide) hk1 hFc hP1 hD1
      have hK := (hK.sub (tys' := [(c1, .long), (c2, .long), (c3, .long)]) [0, 1, 2] rfl).app hK1
      generalize H1 = H at hP hS ⊢
      have hP : va_P (dC, dI) vwCl [(me, .inr (2, [.ref rb, .ref mb, .ref qb, .ref pi, .ref gr])), (rb, .inr (0, [.ref ra])), (ra, .inl (c1, 1024, .inr (.inl (fun _ => 0)))), (qb, .inr (0, [.ref qa])), (qa, .inl (c3, 32, .inr (.inl (fun _ => 0)))), (mb, .inr (0, [.ref ma])), (ma, .inl (c2, 4096, .inr (.inl (fun _ => 0))))] H := hP
      have hD : va_D A [(me, .inr (2, [.ref rb, .ref mb, .ref qb, .ref pi, .ref gr])), (rb, .inr (0, [.ref ra])), (ra, .inl (c1, 1024, .inr (.inl (fun _ => 0)))), (qb, .inr (0, [.ref qa])), (qa, .inl (c3, 32, .inr (.inl (fun _ => 0)))), (mb, .inr (0, [.ref ma])), (ma, .inl (c2, 4096, .inr (.inl (fun _ => 0))))] := hD
      have hK : va_K (dC, dI) vwCl [(c1, .long), (c2, .long), (c3, .long), (c2, .long)] s := hK
      have hw_14 := hw
      obtain rfl := hw_14 (fun _ => rfl)
      have hP9 := hP.sub (ws' := [(me, .inr (2, [.ref rb, .ref mb, .ref qb, .ref pi, .ref gr])), (rb, .inr (0, [.ref ra])), (ra, .inl (c1, 1024, .inr (.inl (fun _ => 0)))), (mb, .inr (0, [.ref ma])), (ma, .inl (c2, 4096, .inr (.inl (fun _ => 0)))), (qb, .inr (0, [.ref qa])), (qa, .inl (c3, 32, .inr (.inl (fun _ => 0))))]) [0, 1, 2, 5, 6, 3, 4] rfl
      have hD9 := hD.sub (ws' := [(me, .inr (2, [.ref rb, .ref mb, .ref qb, .ref pi, .ref gr])), (rb, .inr (0, [.ref ra])), (ra, .inl (c1, 1024, .inr (.inl (fun _ => 0)))), (mb, .inr (0, [.ref ma])), (ma, .inl (c2, 4096, .inr (.inl (fun _ => 0)))), (qb, .inr (0, [.ref qa])), (qa, .inl (c3, 32, .inr (.inl (fun _ => 0))))]) [0, 1, 2, 5, 6, 3, 4] (by decide) rfl
      have hK9 := hK.sub (tys' := [(c1, .long), (c2, .long), (c3, .long)]) [0, 1, 2] rfl
      exact W.iret (v := 0) hx hb hr (fun t ht hW => ⟨⟨0, (), rfl, rfl, by rw [ht]; exact hP9, va_K.moved hW.alike hK9, hD9⟩, hS.F ht⟩) hS.2.2 dX2_storedAt_35
  · refine lv_aload_n hx hb dX2_storedAt_7 rfl (lv_at hl 0 rfl) ?_
    refine va_get (D := (dC, dI)) (ci := 2) (v := .ref rb) (C := RX2) (T := TX2) (N := 5) hx hb hts in_X2_storedAt_X2 hown hK hP 0 rfl rfl 0 (by decide) (hts (.fieldLink RX2 14 "WorkspaceBox$Memory" "rom" "LWorkspaceBox$Bytes;") (by decide +kernel)) (fun _ h9 => h9) rfl dX2_storedAt_8 ?_
    refine lv_iload_n hx hb dX2_storedAt_11 rfl (lv_at hl 1 rfl) ?_
    have hPc := hP.sub (ws' := [(rb, .inr (0, [.ref ra])), (ra, .inl (c1, 1024, .inr (.inl (fun _ => 0))))]) [1, 2] rfl
    have hDc := hD.sub (ws' := [(rb, .inr (0, [.ref ra])), (ra, .inl (c1, 1024, .inr (.inl (fun _ => 0))))]) [1, 2] (by decide) rfl
    have hKc := hK.sub (tys' := [(c1, .long)]) [0] rfl
    have hFc := va_free (wc := [(rb, .inr (0, [.ref ra])), (ra, .inl (c1, 1024, .inr (.inl (fun _ => 0))))]) hD hS hA [1, 2] rfl
    refine va_calli (va_runV (As := [.int p0]) (rest := []) ⟨hx, hb, hml, hown, hts⟩ (k_Bytes_get l dC dI rb ra 1024 (fun _ => 0) c1 p0 s.heap.size (by decide)) (cwV 1 hts gX2_storedAt_X0_get rfl rfl rfl (by decide +kernel) ⟨Nat.le_of_ble_eq_true rfl, Nat.le_of_ble_eq_true rfl⟩) ⟨fun a U g mk q => by obtain ⟨q0, q1, qP, qK, qD⟩ := q; exact ⟨q0, q1, qP, va_K.moved (u := U) (U := U.calling g mk a) (Vm.Alike.refl U.vm) qK, qD⟩, va_recv hKc hPc (ci := 0) (q0 := 0) rfl rfl, fun U hU hW => ⟨rfl, by rw [hU], by rw [hU]; exact hPc, va_K.moved hW.alike hKc, hDc.weaken (fun _ _ _ _ => trivial)⟩⟩ rfl rfl hl.1 rfl (lv_room (Nat.le_of_ble_eq_true rfl)) dX2_storedAt_12 ⟨Nat.le_of_ble_eq_true rfl, Nat.le_of_ble_eq_true rfl⟩) hS (fun q _ h => hFc q h) hFc (fun r_15 u t H1 locs ht hvm hw hB hz1 hk1 hS => ?_)
    obtain ⟨hP1, hK1, hD1⟩ := hB
    rw [ht] at hP1
    have hK1 := va_K.moved hvm.symm hK1
    try dsimp only at hw
    obtain ⟨hP, hD⟩ := va_join (wr := [(me, .inr (2, [.ref rb, .ref mb, .ref qb, .ref pi, .ref gr])), (mb, .inr (0, [.ref ma])), (ma, .inl (c2, 4096, .inr (.inl (fun _ => 0)))), (qb, .inr (0, [.ref qa])), (qa, .inl (c3, 32, .inr (.inl (fun _ => 0))))]) (w1 := [(rb, .inr (0, [.ref ra])), (ra, .inl (c1, 1024, .inr (.inl (fun _ => 0))))]) hP hD [1, 2] [0, 3, 4, 5, 6] rfl rfl (by decide) (by decide) hk1 hFc hP1 hD1
    have hK := (hK.sub (tys' := [(c1, .long), (c2, .long), (c3, .long)]) [0, 1, 2] rfl).app hK1
    generalize H1 = H at hP hS ⊢
    have hP : va_P (dC, dI) vwCl [(me, .inr (2, [.ref rb, .ref mb, .ref qb, .ref pi, .ref gr])), (mb, .inr (0, [.ref ma])), (ma, .inl (c2, 4096, .inr (.inl (fun _ => 0)))), (qb, .inr (0, [.ref qa])), (qa, .inl (c3, 32, .inr (.inl (fun _ => 0)))), (rb, .inr (0, [.ref ra])), (ra, .inl (c1, 1024, .inr (.inl (fun _ => 0))))] H := hP
    have hD : va_D A [(me, .inr (2, [.ref rb, .ref mb, .ref qb, .ref pi, .ref gr])), (mb, .inr (0, [.ref ma])), (ma, .inl (c2, 4096, .inr (.inl (fun _ => 0)))), (qb, .inr (0, [.ref qa])), (qa, .inl (c3, 32, .inr (.inl (fun _ => 0)))), (rb, .inr (0, [.ref ra])), (ra, .inl (c1, 1024, .inr (.inl (fun _ => 0))))] := hD
    have hK : va_K (dC, dI) vwCl [(c1, .long), (c2, .long), (c3, .long), (c1, .long)] s := hK
    have hw_16 := hw
    obtain rfl := hw_16 (fun _ => rfl)
    have hP9 := hP.sub (ws' := [(me, .inr (2, [.ref rb, .ref mb, .ref qb, .ref pi, .ref gr])), (rb, .inr (0, [.ref ra])), (ra, .inl (c1, 1024, .inr (.inl (fun _ => 0)))), (mb, .inr (0, [.ref ma])), (ma, .inl (c2, 4096, .inr (.inl (fun _ => 0)))), (qb, .inr (0, [.ref qa])), (qa, .inl (c3, 32, .inr (.inl (fun _ => 0))))]) [0, 5, 6, 1, 2, 3, 4] rfl
    have hD9 := hD.sub (ws' := [(me, .inr (2, [.ref rb, .ref mb, .ref qb, .ref pi, .ref gr])), (rb, .inr (0, [.ref ra])), (ra, .inl (c1, 1024, .inr (.inl (fun _ => 0)))), (mb, .inr (0, [.ref ma])), (ma, .inl (c2, 4096, .inr (.inl (fun _ => 0)))), (qb, .inr (0, [.ref qa])), (qa, .inl (c3, 32, .inr (.inl (fun _ => 0))))]) [0, 5, 6, 1, 2, 3, 4] (by decide) rfl
    have hK9 := hK.sub (tys' := [(c1, .long), (c2, .long), (c3, .long)]) [0, 1, 2] rfl
    exact W.iret (v := 0) hx hb hr (fun t ht hW => ⟨⟨0, (), rfl, rfl, by rw [ht]; exact hP9, va_K.moved hW.alike hK9, hD9⟩, hS.F ht⟩) hS.2.2 dX2_storedAt_15

set_option maxHeartbeats 1000000 in
set_option maxRecDepth 100000 in
theorem k_byteAt (l : Launch) (dC : Nat → ClassId) (dI : Nat → Nat → Nat) (x tb ta pi pb pa pr gr gb ga wi wa me rb ra mb ma qb qa pu : Nat) (ct cp cr cg cw c1 c2 c3 : ClassId) (p0 : Int32) (sz : Nat) (hq : p0 ∈ romA) : Met l yX2_byteAt wsX2_byteAt ({ frames := 2, cells := 0, slots := 0, locals := 43 }) (va_Pc [.ref me, .int p0] (fun U => U.heap.size = sz ∧ va_P (dC, dI) vwCl [(me, .inr (2, [.ref rb, .ref mb, .ref qb, .ref pi, .ref gr])), (rb, .inr (0, [.ref ra])), (ra, .inl (c1, 1024, .inr (.inl (fun _ => 0)))), (mb, .inr (0, [.ref ma])), (ma, .inl (c2, 4096, .inr (.inl (fun _ => 0)))), (qb, .inr (0, [.ref qa])), (qa, .inl (c3, 32, .inr (.inl (fun _ => 0))))] U.heap ∧ va_K (dC, dI) vwCl [(c1, .long), (c2, .long), (c3, .long)] U ∧ va_D (fun _ => True) [(me, .inr (2, [.ref rb, .ref mb, .ref qb, .ref pi, .ref gr])), (rb, .inr (0, [.ref ra])), (ra, .inl (c1, 1024, .inr (.inl (fun _ => 0)))), (mb, .inr (0, [.ref ma])), (ma, .inl (c2, 4096, .inr (.inl (fun _ => 0)))), (qb, .inr (0, [.ref qa])), (qa, .inl (c3, 32, .inr (.inl (fun _ => 0))))])) (va_Qi (fun (r : Int32) (_ : Unit) => r = 0) (fun (u : Unit) (t : State) => va_P (dC, dI) vwCl [(me, .inr (2, [.ref rb, .ref mb, .ref qb, .ref pi, .ref gr])), (rb, .inr (0, [.ref ra])), (ra, .inl (c1, 1024, .inr (.inl (fun _ => 0)))), (mb, .inr (0, [.ref ma])), (ma, .inl (c2, 4096, .inr (.inl (fun _ => 0)))), (qb, .inr (0, [.ref qa])), (qa, .inl (c3, 32, .inr (.inl (fun _ => 0))))] t.heap ∧ va_K (dC, dI) vwCl [(c1, .long), (c2, .long), (c3, .long)] t ∧ va_D (va_A [(me, .inr (2, [.ref rb, .ref mb, .ref qb, .ref pi, .ref gr])), (rb, .inr (0, [.ref ra])), (ra, .inl (c1, 1024, .inr (.inl (fun _ => 0)))), (mb, .inr (0, [.ref ma])), (ma, .inl (c2, 4096, .inr (.inl (fun _ => 0)))), (qb, .inr (0, [.ref qa])), (qa, .inl (c3, 32, .inr (.inl (fun _ => 0))))] sz) [(me, .inr (2, [.ref rb, .ref mb, .ref qb, .ref pi, .ref gr])), (rb, .inr (0, [.ref ra])), (ra, .inl (c1, 1024, .inr (.inl (fun _ => 0)))), (mb, .inr (0, [.ref ma])), (ma, .inl (c2, 4096, .inr (.inl (fun _ => 0)))), (qb, .inr (0, [.ref qa])), (qa, .inl (c3, 32, .inr (.inl (fun _ => 0))))]) (va_A [(me, .inr (2, [.ref rb, .ref mb, .ref qb, .ref pi, .ref gr])), (rb, .inr (0, [.ref ra])), (ra, .inl (c1, 1024, .inr (.inl (fun _ => 0)))), (mb, .inr (0, [.ref ma])), (ma, .inl (c2, 4096, .inr (.inl (fun _ => 0)))), (qb, .inr (0, [.ref qa])), (qa, .inl (c3, 32, .inr (.inl (fun _ => 0))))] sz)) 0 0 (va_A [(me, .inr (2, [.ref rb, .ref mb, .ref qb, .ref pi, .ref gr])), (rb, .inr (0, [.ref ra])), (ra, .inl (c1, 1024, .inr (.inl (fun _ => 0)))), (mb, .inr (0, [.ref ma])), (ma, .inl (c2, 4096, .inr (.inl (fun _ => 0)))), (qb, .inr (0, [.ref qa])), (qa, .inl (c3, 32, .inr (.inl (fun _ => 0))))] sz) := by
  refine Met.ofW (cc := cX2_byteAt) (maxL := 4) (ret := (some .int)) (by decide) rfl ?_
  intro p e s m args below meth c s₁ B hml hv
  obtain ⟨rfl, hsz, hP, hK, hD0⟩ := hv
  have hx := B.exec
  have hb := B.bytes
  have hr := B.returns
  have hts := atoms_spec (ws := wsX2_byteAt) B.pre
  have hown : s.vm.findClass RX2 = some m.cls := findClass_of_methodNamed B.named
  have hlocks := B.notSynchronized
  subst hsz
  have hD := hD0.self (sz := s.heap.size)
  generalize hAe : va_A [(me, .inr (2, [.ref rb, .ref mb, .ref qb, .ref pi, .ref gr])), (rb, .inr (0, [.ref ra])), (ra, .inl (c1, 1024, .inr (.inl (fun _ => 0)))), (mb, .inr (0, [.ref ma])), (ma, .inl (c2, 4096, .inr (.inl (fun _ => 0)))), (qb, .inr (0, [.ref qa])), (qa, .inl (c3, 32, .inr (.inl (fun _ => 0))))] s.heap.size = A at hD ⊢
  have hA : ∀ q : Nat, s.heap.size ≤ q → A q := fun q h => by rw [← hAe]; exact Or.inr h
  have hS : va_S A s.heap s.heap [] := va_S.rf
  have hP : va_P (dC, dI) vwCl [(me, .inr (2, [.ref rb, .ref mb, .ref qb, .ref pi, .ref gr])), (rb, .inr (0, [.ref ra])), (ra, .inl (c1, 1024, .inr (.inl (fun _ => 0)))), (mb, .inr (0, [.ref ma])), (ma, .inl (c2, 4096, .inr (.inl (fun _ => 0)))), (qb, .inr (0, [.ref qa])), (qa, .inl (c3, 32, .inr (.inl (fun _ => 0))))] s.heap := hP
  have hl := lv_entry ([.ref me, .int p0]) (n := 4) (Nat.le_of_ble_eq_true rfl)
  rw [lg_entry_eq]
  generalize (lg_sl ([.ref me, .int p0]) ++ List.replicate (4 - (lg_sl ([.ref me, .int p0])).length) Slot.unset).toArray = ls at hl ⊢
  have hl : lv_has ls 4 [(0, .ref me), (1, .int p0)] := hl
  refine lv_iload_n hx hb dX2_byteAt_0 rfl (lv_at hl 1 rfl) ?_
  refine lv_ldc hx hb hown (hts (.constant RX2 46 (65535)) (by decide +kernel)) dX2_byteAt_1 ?_
  refine lv_iand hx hb dX2_byteAt_3 ?_
  refine lv_topi (fun y_1 ey_1 => ?_)
  rw [show y_1 = p0 from ey_1.trans (romA_1 _ hq)]
  refine lv_istore_n (lv' := [(2, .int p0), (0, .ref me), (1, .int p0)]) hx hb dX2_byteAt_4 rfl hl (by decide) rfl (fun ls hl => ?_)
  refine lv_iload_n hx hb dX2_byteAt_5 rfl (lv_at hl 0 rfl) ?_
  refine lv_iconst (v := 2) hx hb dX2_byteAt_6 (by decide) ?_
  refine lv_iand hx hb dX2_byteAt_7 ?_
  refine lv_topi (fun y_2 ey_2 => ?_)
  refine lv_if_eq (tgt := 15) hx hb dX2_byteAt_8 (by decide) (fun c8_3 => ?_) (fun c8_3 => ?_)
  · refine lv_iconst (v := 0) hx hb dX2_byteAt_15 (by decide) ?_
    refine lv_istore_n (lv' := [(3, .int 0), (2, .int p0), (0, .ref me), (1, .int p0)]) hx hb dX2_byteAt_16 rfl hl (by decide) rfl (fun ls hl => ?_)
    refine lv_iload_n hx hb dX2_byteAt_17 rfl (lv_at hl 1 rfl) ?_
    refine lv_ldc hx hb hown (hts (.constant RX2 47 (64513)) (by decide +kernel)) dX2_byteAt_18 ?_
    refine lv_iand hx hb dX2_byteAt_20 ?_
    refine lv_topi (fun y_4 ey_4 => ?_)
    refine lv_lookup (tgt := 92) hx hb dX2_byteAt_21 (by decide) (by subst_vars; exact romA_2 _ hq) (by decide) ?_
    refine lv_aload_n hx hb dX2_byteAt_92 rfl (lv_at hl 2 rfl) ?_
    refine lv_iload_n hx hb dX2_byteAt_93 rfl (lv_at hl 1 rfl) ?_
    have hPc := hP.sub (ws' := [(me, .inr (2, [.ref rb, .ref mb, .ref qb, .ref pi, .ref gr])), (rb, .inr (0, [.ref ra])), (ra, .inl (c1, 1024, .inr (.inl (fun _ => 0)))), (mb, .inr (0, [.ref ma])), (ma, .inl (c2, 4096, .inr (.inl (fun _ => 0)))), (qb, .inr (0, [.ref qa])), (qa, .inl (c3, 32, .inr (.inl (fun _ => 0))))]) [0, 1, 2, 3, 4, 5, 6] rfl
    have hDc := hD.sub (ws' := [(me, .inr (2, [.ref rb, .ref mb, .ref qb, .ref pi, .ref gr])), (rb, .inr (0, [.ref ra])), (ra, .inl (c1, 1024, .inr (.inl (fun _ => 0)))), (mb, .inr (0, [.ref ma])), (ma, .inl (c2, 4096, .inr (.inl (fun _ => 0)))), (qb, .inr (0, [.ref qa])), (qa, .inl (c3, 32, .inr (.inl (fun _ => 0))))]) [0, 1, 2, 3, 4, 5, 6] (by decide) rfl
    have hKc := hK.sub (tys' := [(c1, .long), (c2, .long), (c3, .long)]) [0, 1, 2] rfl
    have hFc := va_free (wc := [(me, .inr (2, [.ref rb, .ref mb, .ref qb, .ref pi, .ref gr])), (rb, .inr (0, [.ref ra])), (ra, .inl (c1, 1024, .inr (.inl (fun _ => 0)))), (mb, .inr (0, [.ref ma])), (ma, .inl (c2, 4096, .inr (.inl (fun _ => 0)))), (qb, .inr (0, [.ref qa])), (qa, .inl (c3, 32, .inr (.inl (fun _ => 0))))]) hD hS hA [0, 1, 2, 3, 4, 5, 6] rfl
    refine va_calli (va_runV (As := [.int p0]) (rest := []) ⟨hx, hb, hml, hown, hts⟩ (k_storedAt l dC dI x tb ta pi pb pa pr gr gb ga wi wa me rb ra mb ma qb qa pu ct cp cr cg cw c1 c2 c3 p0 s.heap.size) (cwV 1 hts gX2_byteAt_X2_storedAt rfl rfl rfl (by decide +kernel) ⟨Nat.le_of_ble_eq_true rfl, Nat.le_of_ble_eq_true rfl⟩) ⟨fun a U g mk q => by obtain ⟨q0, q1, qP, qK, qD⟩ := q; exact ⟨q0, q1, qP, va_K.moved (u := U) (U := U.calling g mk a) (Vm.Alike.refl U.vm) qK, qD⟩, va_recv hKc hPc (ci := 2) (q0 := 0) rfl rfl, fun U hU hW => ⟨rfl, by rw [hU], by rw [hU]; exact hPc, va_K.moved hW.alike hKc, hDc.weaken (fun _ _ _ _ => trivial)⟩⟩ rfl rfl hl.1 rfl (lv_room (Nat.le_of_ble_eq_true rfl)) dX2_byteAt_94 ⟨Nat.le_of_ble_eq_true rfl, Nat.le_of_ble_eq_true rfl⟩) hS (fun q _ h => hFc q h) hFc (fun r_5 u t H1 locs ht hvm hw hB hz1 hk1 hS => ?_)
    obtain ⟨hP1, hK1, hD1⟩ := hB
    rw [ht] at hP1
    have hK1 := va_K.moved hvm.symm hK1
    try dsimp only at hw
    obtain ⟨hP, hD⟩ := va_join (wr := []) (w1 := [(me, .inr (2, [.ref rb, .ref mb, .ref qb, .ref pi, .ref gr])), (rb, .inr (0, [.ref ra])), (ra, .inl (c1, 1024, .inr (.inl (fun _ => 0)))), (mb, .inr (0, [.ref ma])), (ma, .inl (c2, 4096, .inr (.inl (fun _ => 0)))), (qb, .inr (0, [.ref qa])), (qa, .inl (c3, 32, .inr (.inl (fun _ => 0))))]) hP hD [0, 1, 2, 3, 4, 5, 6] [] rfl rfl (by decide) (by decide) hk1 hFc hP1 hD1
    have hK := (hK.sub (tys' := [(c1, .long), (c2, .long), (c3, .long)]) [0, 1, 2] rfl).app hK1
    generalize H1 = H at hP hS ⊢
    have hP : va_P (dC, dI) vwCl [(me, .inr (2, [.ref rb, .ref mb, .ref qb, .ref pi, .ref gr])), (rb, .inr (0, [.ref ra])), (ra, .inl (c1, 1024, .inr (.inl (fun _ => 0)))), (mb, .inr (0, [.ref ma])), (ma, .inl (c2, 4096, .inr (.inl (fun _ => 0)))), (qb, .inr (0, [.ref qa])), (qa, .inl (c3, 32, .inr (.inl (fun _ => 0))))] H := hP
    have hD : va_D A [(me, .inr (2, [.ref rb, .ref mb, .ref qb, .ref pi, .ref gr])), (rb, .inr (0, [.ref ra])), (ra, .inl (c1, 1024, .inr (.inl (fun _ => 0)))), (mb, .inr (0, [.ref ma])), (ma, .inl (c2, 4096, .inr (.inl (fun _ => 0)))), (qb, .inr (0, [.ref qa])), (qa, .inl (c3, 32, .inr (.inl (fun _ => 0))))] := hD
    have hK : va_K (dC, dI) vwCl [(c1, .long), (c2, .long), (c3, .long), (c1, .long), (c2, .long), (c3, .long)] s := hK
    have hw_6 := hw
    obtain rfl := hw_6
    have hP9 := hP.sub (ws' := [(me, .inr (2, [.ref rb, .ref mb, .ref qb, .ref pi, .ref gr])), (rb, .inr (0, [.ref ra])), (ra, .inl (c1, 1024, .inr (.inl (fun _ => 0)))), (mb, .inr (0, [.ref ma])), (ma, .inl (c2, 4096, .inr (.inl (fun _ => 0)))), (qb, .inr (0, [.ref qa])), (qa, .inl (c3, 32, .inr (.inl (fun _ => 0))))]) [0, 1, 2, 3, 4, 5, 6] rfl
    have hD9 := hD.sub (ws' := [(me, .inr (2, [.ref rb, .ref mb, .ref qb, .ref pi, .ref gr])), (rb, .inr (0, [.ref ra])), (ra, .inl (c1, 1024, .inr (.inl (fun _ => 0)))), (mb, .inr (0, [.ref ma])), (ma, .inl (c2, 4096, .inr (.inl (fun _ => 0)))), (qb, .inr (0, [.ref qa])), (qa, .inl (c3, 32, .inr (.inl (fun _ => 0))))]) [0, 1, 2, 3, 4, 5, 6] (by decide) rfl
    have hK9 := hK.sub (tys' := [(c1, .long), (c2, .long), (c3, .long)]) [0, 1, 2] rfl
    exact W.iret (v := 0) hx hb hr (fun t ht hW => ⟨⟨0, (), rfl, rfl, by rw [ht]; exact hP9, va_K.moved hW.alike hK9, hD9⟩, hS.F ht⟩) hS.2.2 dX2_byteAt_97
  · refine lv_iconst (v := 1) hx hb dX2_byteAt_11 (by decide) ?_
    refine lv_goto (tgt := 16) hx hb dX2_byteAt_12 (by decide) ?_
    refine lv_istore_n (lv' := [(3, .int 1), (2, .int p0), (0, .ref me), (1, .int p0)]) hx hb dX2_byteAt_16 rfl hl (by decide) rfl (fun ls hl => ?_)
    refine lv_iload_n hx hb dX2_byteAt_17 rfl (lv_at hl 1 rfl) ?_
    refine lv_ldc hx hb hown (hts (.constant RX2 47 (64513)) (by decide +kernel)) dX2_byteAt_18 ?_
    refine lv_iand hx hb dX2_byteAt_20 ?_
    refine lv_topi (fun y_7 ey_7 => ?_)
    refine lv_lookup (tgt := 92) hx hb dX2_byteAt_21 (by decide) (by subst_vars; exact romA_2 _ hq) (by decide) ?_
    refine lv_aload_n hx hb dX2_byteAt_92 rfl (lv_at hl 2 rfl) ?_
    refine lv_iload_n hx hb dX2_byteAt_93 rfl (lv_at hl 1 rfl) ?_
    have hPc := hP.sub (ws' := [(me, .inr (2, [.ref rb, .ref mb, .ref qb, .ref pi, .ref gr])), (rb, .inr (0, [.ref ra])), (ra, .inl (c1, 1024, .inr (.inl (fun _ => 0)))), (mb, .inr (0, [.ref ma])), (ma, .inl (c2, 4096, .inr (.inl (fun _ => 0)))), (qb, .inr (0, [.ref qa])), (qa, .inl (c3, 32, .inr (.inl (fun _ => 0))))]) [0, 1, 2, 3, 4, 5, 6] rfl
    have hDc := hD.sub (ws' := [(me, .inr (2, [.ref rb, .ref mb, .ref qb, .ref pi, .ref gr])), (rb, .inr (0, [.ref ra])), (ra, .inl (c1, 1024, .inr (.inl (fun _ => 0)))), (mb, .inr (0, [.ref ma])), (ma, .inl (c2, 4096, .inr (.inl (fun _ => 0)))), (qb, .inr (0, [.ref qa])), (qa, .inl (c3, 32, .inr (.inl (fun _ => 0))))]) [0, 1, 2, 3, 4, 5, 6] (by decide) rfl
    have hKc := hK.sub (tys' := [(c1, .long), (c2, .long), (c3, .long)]) [0, 1, 2] rfl
    have hFc := va_free (wc := [(me, .inr (2, [.ref rb, .ref mb, .ref qb, .ref pi, .ref gr])), (rb, .inr (0, [.ref ra])), (ra, .inl (c1, 1024, .inr (.inl (fun _ => 0)))), (mb, .inr (0, [.ref ma])), (ma, .inl (c2, 4096, .inr (.inl (fun _ => 0)))), (qb, .inr (0, [.ref qa])), (qa, .inl (c3, 32, .inr (.inl (fun _ => 0))))]) hD hS hA [0, 1, 2, 3, 4, 5, 6] rfl
    refine va_calli (va_runV (As := [.int p0]) (rest := []) ⟨hx, hb, hml, hown, hts⟩ (k_storedAt l dC dI x tb ta pi pb pa pr gr gb ga wi wa me rb ra mb ma qb qa pu ct cp cr cg cw c1 c2 c3 p0 s.heap.size) (cwV 1 hts gX2_byteAt_X2_storedAt rfl rfl rfl (by decide +kernel) ⟨Nat.le_of_ble_eq_true rfl, Nat.le_of_ble_eq_true rfl⟩) ⟨fun a U g mk q => by obtain ⟨q0, q1, qP, qK, qD⟩ := q; exact ⟨q0, q1, qP, va_K.moved (u := U) (U := U.calling g mk a) (Vm.Alike.refl U.vm) qK, qD⟩, va_recv hKc hPc (ci := 2) (q0 := 0) rfl rfl, fun U hU hW => ⟨rfl, by rw [hU], by rw [hU]; exact hPc, va_K.moved hW.alike hKc, hDc.weaken (fun _ _ _ _ => trivial)⟩⟩ rfl rfl hl.1 rfl (lv_room (Nat.le_of_ble_eq_true rfl)) dX2_byteAt_94 ⟨Nat.le_of_ble_eq_true rfl, Nat.le_of_ble_eq_true rfl⟩) hS (fun q _ h => hFc q h) hFc (fun r_8 u t H1 locs ht hvm hw hB hz1 hk1 hS => ?_)
    obtain ⟨hP1, hK1, hD1⟩ := hB
    rw [ht] at hP1
    have hK1 := va_K.moved hvm.symm hK1
    try dsimp only at hw
    obtain ⟨hP, hD⟩ := va_join (wr := []) (w1 := [(me, .inr (2, [.ref rb, .ref mb, .ref qb, .ref pi, .ref gr])), (rb, .inr (0, [.ref ra])), (ra, .inl (c1, 1024, .inr (.inl (fun _ => 0)))), (mb, .inr (0, [.ref ma])), (ma, .inl (c2, 4096, .inr (.inl (fun _ => 0)))), (qb, .inr (0, [.ref qa])), (qa, .inl (c3, 32, .inr (.inl (fun _ => 0))))]) hP hD [0, 1, 2, 3, 4, 5, 6] [] rfl rfl (by decide) (by decide) hk1 hFc hP1 hD1
    have hK := (hK.sub (tys' := [(c1, .long), (c2, .long), (c3, .long)]) [0, 1, 2] rfl).app hK1
    generalize H1 = H at hP hS ⊢
    have hP : va_P (dC, dI) vwCl [(me, .inr (2, [.ref rb, .ref mb, .ref qb, .ref pi, .ref gr])), (rb, .inr (0, [.ref ra])), (ra, .inl (c1, 1024, .inr (.inl (fun _ => 0)))), (mb, .inr (0, [.ref ma])), (ma, .inl (c2, 4096, .inr (.inl (fun _ => 0)))), (qb, .inr (0, [.ref qa])), (qa, .inl (c3, 32, .inr (.inl (fun _ => 0))))] H := hP
    have hD : va_D A [(me, .inr (2, [.ref rb, .ref mb, .ref qb, .ref pi, .ref gr])), (rb, .inr (0, [.ref ra])), (ra, .inl (c1, 1024, .inr (.inl (fun _ => 0)))), (mb, .inr (0, [.ref ma])), (ma, .inl (c2, 4096, .inr (.inl (fun _ => 0)))), (qb, .inr (0, [.ref qa])), (qa, .inl (c3, 32, .inr (.inl (fun _ => 0))))] := hD
    have hK : va_K (dC, dI) vwCl [(c1, .long), (c2, .long), (c3, .long), (c1, .long), (c2, .long), (c3, .long)] s := hK
    have hw_9 := hw
    obtain rfl := hw_9
    have hP9 := hP.sub (ws' := [(me, .inr (2, [.ref rb, .ref mb, .ref qb, .ref pi, .ref gr])), (rb, .inr (0, [.ref ra])), (ra, .inl (c1, 1024, .inr (.inl (fun _ => 0)))), (mb, .inr (0, [.ref ma])), (ma, .inl (c2, 4096, .inr (.inl (fun _ => 0)))), (qb, .inr (0, [.ref qa])), (qa, .inl (c3, 32, .inr (.inl (fun _ => 0))))]) [0, 1, 2, 3, 4, 5, 6] rfl
    have hD9 := hD.sub (ws' := [(me, .inr (2, [.ref rb, .ref mb, .ref qb, .ref pi, .ref gr])), (rb, .inr (0, [.ref ra])), (ra, .inl (c1, 1024, .inr (.inl (fun _ => 0)))), (mb, .inr (0, [.ref ma])), (ma, .inl (c2, 4096, .inr (.inl (fun _ => 0)))), (qb, .inr (0, [.ref qa])), (qa, .inl (c3, 32, .inr (.inl (fun _ => 0))))]) [0, 1, 2, 3, 4, 5, 6] (by decide) rfl
    have hK9 := hK.sub (tys' := [(c1, .long), (c2, .long), (c3, .long)]) [0, 1, 2] rfl
    exact W.iret (v := 0) hx hb hr (fun t ht hW => ⟨⟨0, (), rfl, rfl, by rw [ht]; exact hP9, va_K.moved hW.alike hK9, hD9⟩, hS.F ht⟩) hS.2.2 dX2_byteAt_97

set_option maxHeartbeats 1000000 in
set_option maxRecDepth 100000 in
theorem k_wordAt (l : Launch) (dC : Nat → ClassId) (dI : Nat → Nat → Nat) (x tb ta pi pb pa pr gr gb ga wi wa me rb ra mb ma qb qa pu : Nat) (ct cp cr cg cw c1 c2 c3 : ClassId) (p0 : Int32) (sz : Nat) (hq : p0 ∈ romA) : Met l yX2_wordAt wsX2_wordAt ({ frames := 3, cells := 0, slots := 0, locals := 66 }) (va_Pc [.ref me, .int p0] (fun U => U.heap.size = sz ∧ va_P (dC, dI) vwCl [(me, .inr (2, [.ref rb, .ref mb, .ref qb, .ref pi, .ref gr])), (rb, .inr (0, [.ref ra])), (ra, .inl (c1, 1024, .inr (.inl (fun _ => 0)))), (mb, .inr (0, [.ref ma])), (ma, .inl (c2, 4096, .inr (.inl (fun _ => 0)))), (qb, .inr (0, [.ref qa])), (qa, .inl (c3, 32, .inr (.inl (fun _ => 0))))] U.heap ∧ va_K (dC, dI) vwCl [(c1, .long), (c2, .long), (c3, .long)] U ∧ va_D (fun _ => True) [(me, .inr (2, [.ref rb, .ref mb, .ref qb, .ref pi, .ref gr])), (rb, .inr (0, [.ref ra])), (ra, .inl (c1, 1024, .inr (.inl (fun _ => 0)))), (mb, .inr (0, [.ref ma])), (ma, .inl (c2, 4096, .inr (.inl (fun _ => 0)))), (qb, .inr (0, [.ref qa])), (qa, .inl (c3, 32, .inr (.inl (fun _ => 0))))])) (va_Qi (fun (r : Int32) (_ : Unit) => r = 0) (fun (u : Unit) (t : State) => va_P (dC, dI) vwCl [(me, .inr (2, [.ref rb, .ref mb, .ref qb, .ref pi, .ref gr])), (rb, .inr (0, [.ref ra])), (ra, .inl (c1, 1024, .inr (.inl (fun _ => 0)))), (mb, .inr (0, [.ref ma])), (ma, .inl (c2, 4096, .inr (.inl (fun _ => 0)))), (qb, .inr (0, [.ref qa])), (qa, .inl (c3, 32, .inr (.inl (fun _ => 0))))] t.heap ∧ va_K (dC, dI) vwCl [(c1, .long), (c2, .long), (c3, .long)] t ∧ va_D (va_A [(me, .inr (2, [.ref rb, .ref mb, .ref qb, .ref pi, .ref gr])), (rb, .inr (0, [.ref ra])), (ra, .inl (c1, 1024, .inr (.inl (fun _ => 0)))), (mb, .inr (0, [.ref ma])), (ma, .inl (c2, 4096, .inr (.inl (fun _ => 0)))), (qb, .inr (0, [.ref qa])), (qa, .inl (c3, 32, .inr (.inl (fun _ => 0))))] sz) [(me, .inr (2, [.ref rb, .ref mb, .ref qb, .ref pi, .ref gr])), (rb, .inr (0, [.ref ra])), (ra, .inl (c1, 1024, .inr (.inl (fun _ => 0)))), (mb, .inr (0, [.ref ma])), (ma, .inl (c2, 4096, .inr (.inl (fun _ => 0)))), (qb, .inr (0, [.ref qa])), (qa, .inl (c3, 32, .inr (.inl (fun _ => 0))))]) (va_A [(me, .inr (2, [.ref rb, .ref mb, .ref qb, .ref pi, .ref gr])), (rb, .inr (0, [.ref ra])), (ra, .inl (c1, 1024, .inr (.inl (fun _ => 0)))), (mb, .inr (0, [.ref ma])), (ma, .inl (c2, 4096, .inr (.inl (fun _ => 0)))), (qb, .inr (0, [.ref qa])), (qa, .inl (c3, 32, .inr (.inl (fun _ => 0))))] sz)) 0 0 (va_A [(me, .inr (2, [.ref rb, .ref mb, .ref qb, .ref pi, .ref gr])), (rb, .inr (0, [.ref ra])), (ra, .inl (c1, 1024, .inr (.inl (fun _ => 0)))), (mb, .inr (0, [.ref ma])), (ma, .inl (c2, 4096, .inr (.inl (fun _ => 0)))), (qb, .inr (0, [.ref qa])), (qa, .inl (c3, 32, .inr (.inl (fun _ => 0))))] sz) := by
  refine Met.ofW (cc := cX2_wordAt) (maxL := 3) (ret := (some .int)) (by decide) rfl ?_
  intro p e s m args below meth c s₁ B hml hv
  obtain ⟨rfl, hsz, hP, hK, hD0⟩ := hv
  have hx := B.exec
  have hb := B.bytes
  have hr := B.returns
  have hts := atoms_spec (ws := wsX2_wordAt) B.pre
  have hown : s.vm.findClass RX2 = some m.cls := findClass_of_methodNamed B.named
  have hlocks := B.notSynchronized
  subst hsz
  have hD := hD0.self (sz := s.heap.size)
  generalize hAe : va_A [(me, .inr (2, [.ref rb, .ref mb, .ref qb, .ref pi, .ref gr])), (rb, .inr (0, [.ref ra])), (ra, .inl (c1, 1024, .inr (.inl (fun _ => 0)))), (mb, .inr (0, [.ref ma])), (ma, .inl (c2, 4096, .inr (.inl (fun _ => 0)))), (qb, .inr (0, [.ref qa])), (qa, .inl (c3, 32, .inr (.inl (fun _ => 0))))] s.heap.size = A at hD ⊢
  have hA : ∀ q : Nat, s.heap.size ≤ q → A q := fun q h => by rw [← hAe]; exact Or.inr h
  have hS : va_S A s.heap s.heap [] := va_S.rf
  have hP : va_P (dC, dI) vwCl [(me, .inr (2, [.ref rb, .ref mb, .ref qb, .ref pi, .ref gr])), (rb, .inr (0, [.ref ra])), (ra, .inl (c1, 1024, .inr (.inl (fun _ => 0)))), (mb, .inr (0, [.ref ma])), (ma, .inl (c2, 4096, .inr (.inl (fun _ => 0)))), (qb, .inr (0, [.ref qa])), (qa, .inl (c3, 32, .inr (.inl (fun _ => 0))))] s.heap := hP
  have hl := lv_entry ([.ref me, .int p0]) (n := 3) (Nat.le_of_ble_eq_true rfl)
  rw [lg_entry_eq]
  generalize (lg_sl ([.ref me, .int p0]) ++ List.replicate (3 - (lg_sl ([.ref me, .int p0])).length) Slot.unset).toArray = ls at hl ⊢
  have hl : lv_has ls 3 [(0, .ref me), (1, .int p0)] := hl
  refine lv_aload_n hx hb dX2_wordAt_0 rfl (lv_at hl 0 rfl) ?_
  refine lv_iload_n hx hb dX2_wordAt_1 rfl (lv_at hl 1 rfl) ?_
  refine lv_ldc hx hb hown (hts (.constant RX2 37 (65534)) (by decide +kernel)) dX2_wordAt_2 ?_
  refine lv_iand hx hb dX2_wordAt_4 ?_
  refine lv_topi (fun y_1 ey_1 => ?_)
  have hPc := hP.sub (ws' := [(me, .inr (2, [.ref rb, .ref mb, .ref qb, .ref pi, .ref gr])), (rb, .inr (0, [.ref ra])), (ra, .inl (c1, 1024, .inr (.inl (fun _ => 0)))), (mb, .inr (0, [.ref ma])), (ma, .inl (c2, 4096, .inr (.inl (fun _ => 0)))), (qb, .inr (0, [.ref qa])), (qa, .inl (c3, 32, .inr (.inl (fun _ => 0))))]) [0, 1, 2, 3, 4, 5, 6] rfl
  have hDc := hD.sub (ws' := [(me, .inr (2, [.ref rb, .ref mb, .ref qb, .ref pi, .ref gr])), (rb, .inr (0, [.ref ra])), (ra, .inl (c1, 1024, .inr (.inl (fun _ => 0)))), (mb, .inr (0, [.ref ma])), (ma, .inl (c2, 4096, .inr (.inl (fun _ => 0)))), (qb, .inr (0, [.ref qa])), (qa, .inl (c3, 32, .inr (.inl (fun _ => 0))))]) [0, 1, 2, 3, 4, 5, 6] (by decide) rfl
  have hKc := hK.sub (tys' := [(c1, .long), (c2, .long), (c3, .long)]) [0, 1, 2] rfl
  have hFc := va_free (wc := [(me, .inr (2, [.ref rb, .ref mb, .ref qb, .ref pi, .ref gr])), (rb, .inr (0, [.ref ra])), (ra, .inl (c1, 1024, .inr (.inl (fun _ => 0)))), (mb, .inr (0, [.ref ma])), (ma, .inl (c2, 4096, .inr (.inl (fun _ => 0)))), (qb, .inr (0, [.ref qa])), (qa, .inl (c3, 32, .inr (.inl (fun _ => 0))))]) hD hS hA [0, 1, 2, 3, 4, 5, 6] rfl
  refine va_calli (va_runV (As := [.int y_1]) (rest := []) ⟨hx, hb, hml, hown, hts⟩ (k_byteAt l dC dI x tb ta pi pb pa pr gr gb ga wi wa me rb ra mb ma qb qa pu ct cp cr cg cw c1 c2 c3 y_1 s.heap.size (by subst_vars; exact (romA_3 _ hq).1)) (cwV 1 hts gX2_wordAt_X2_byteAt rfl rfl rfl (by decide +kernel) ⟨Nat.le_of_ble_eq_true rfl, Nat.le_of_ble_eq_true rfl⟩) ⟨fun a U g mk q => by obtain ⟨q0, q1, qP, qK, qD⟩ := q; exact ⟨q0, q1, qP, va_K.moved (u := U) (U := U.calling g mk a) (Vm.Alike.refl U.vm) qK, qD⟩, va_recv hKc hPc (ci := 2) (q0 := 0) rfl rfl, fun U hU hW => ⟨rfl, by rw [hU], by rw [hU]; exact hPc, va_K.moved hW.alike hKc, hDc.weaken (fun _ _ _ _ => trivial)⟩⟩ rfl rfl hl.1 rfl (lv_room (Nat.le_of_ble_eq_true rfl)) dX2_wordAt_5 ⟨Nat.le_of_ble_eq_true rfl, Nat.le_of_ble_eq_true rfl⟩) hS (fun q _ h => hFc q h) hFc (fun r_2 u t H1 locs ht hvm hw hB hz1 hk1 hS => ?_)
  obtain ⟨hP1, hK1, hD1⟩ := hB
  rw [ht] at hP1
  have hK1 := va_K.moved hvm.symm hK1
  try dsimp only at hw
  obtain ⟨hP, hD⟩ := va_join (wr := []) (w1 := [(me, .inr (2, [.ref rb, .ref mb, .ref qb, .ref pi, .ref gr])), (rb, .inr (0, [.ref ra])), (ra, .inl (c1, 1024, .inr (.inl (fun _ => 0)))), (mb, .inr (0, [.ref ma])), (ma, .inl (c2, 4096, .inr (.inl (fun _ => 0)))), (qb, .inr (0, [.ref qa])), (qa, .inl (c3, 32, .inr (.inl (fun _ => 0))))]) hP hD [0, 1, 2, 3, 4, 5, 6] [] rfl rfl (by decide) (by decide) hk1 hFc hP1 hD1
  have hK := (hK.sub (tys' := [(c1, .long), (c2, .long), (c3, .long)]) [0, 1, 2] rfl).app hK1
  generalize H1 = H at hP hS ⊢
  have hP : va_P (dC, dI) vwCl [(me, .inr (2, [.ref rb, .ref mb, .ref qb, .ref pi, .ref gr])), (rb, .inr (0, [.ref ra])), (ra, .inl (c1, 1024, .inr (.inl (fun _ => 0)))), (mb, .inr (0, [.ref ma])), (ma, .inl (c2, 4096, .inr (.inl (fun _ => 0)))), (qb, .inr (0, [.ref qa])), (qa, .inl (c3, 32, .inr (.inl (fun _ => 0))))] H := hP
  have hD : va_D A [(me, .inr (2, [.ref rb, .ref mb, .ref qb, .ref pi, .ref gr])), (rb, .inr (0, [.ref ra])), (ra, .inl (c1, 1024, .inr (.inl (fun _ => 0)))), (mb, .inr (0, [.ref ma])), (ma, .inl (c2, 4096, .inr (.inl (fun _ => 0)))), (qb, .inr (0, [.ref qa])), (qa, .inl (c3, 32, .inr (.inl (fun _ => 0))))] := hD
  have hK : va_K (dC, dI) vwCl [(c1, .long), (c2, .long), (c3, .long), (c1, .long), (c2, .long), (c3, .long)] s := hK
  have hw_3 := hw
  obtain rfl := hw_3
  refine lv_istore_n (lv' := [(2, .int 0), (0, .ref me), (1, .int p0)]) hx hb dX2_wordAt_8 rfl hl (by decide) rfl (fun ls hl => ?_)
  refine lv_iload_n hx hb dX2_wordAt_9 rfl (lv_at hl 0 rfl) ?_
  refine lv_bipush (v := 8) hx hb dX2_wordAt_10 (by decide) ?_
  refine lv_ishl hx hb dX2_wordAt_12 ?_
  refine lv_topi (fun y_4 ey_4 => ?_)
  obtain rfl : y_4 = 0 := ey_4.trans (by decide)
  refine lv_aload_n hx hb dX2_wordAt_13 rfl (lv_at hl 1 rfl) ?_
  refine lv_iload_n hx hb dX2_wordAt_14 rfl (lv_at hl 2 rfl) ?_
  refine lv_iconst (v := 1) hx hb dX2_wordAt_15 (by decide) ?_
  refine lv_ior hx hb dX2_wordAt_16 ?_
  refine lv_topi (fun y_5 ey_5 => ?_)
  have hPc := hP.sub (ws' := [(me, .inr (2, [.ref rb, .ref mb, .ref qb, .ref pi, .ref gr])), (rb, .inr (0, [.ref ra])), (ra, .inl (c1, 1024, .inr (.inl (fun _ => 0)))), (mb, .inr (0, [.ref ma])), (ma, .inl (c2, 4096, .inr (.inl (fun _ => 0)))), (qb, .inr (0, [.ref qa])), (qa, .inl (c3, 32, .inr (.inl (fun _ => 0))))]) [0, 1, 2, 3, 4, 5, 6] rfl
  have hDc := hD.sub (ws' := [(me, .inr (2, [.ref rb, .ref mb, .ref qb, .ref pi, .ref gr])), (rb, .inr (0, [.ref ra])), (ra, .inl (c1, 1024, .inr (.inl (fun _ => 0)))), (mb, .inr (0, [.ref ma])), (ma, .inl (c2, 4096, .inr (.inl (fun _ => 0)))), (qb, .inr (0, [.ref qa])), (qa, .inl (c3, 32, .inr (.inl (fun _ => 0))))]) [0, 1, 2, 3, 4, 5, 6] (by decide) rfl
  have hKc := hK.sub (tys' := [(c1, .long), (c2, .long), (c3, .long)]) [0, 1, 2] rfl
  have hFc := va_free (wc := [(me, .inr (2, [.ref rb, .ref mb, .ref qb, .ref pi, .ref gr])), (rb, .inr (0, [.ref ra])), (ra, .inl (c1, 1024, .inr (.inl (fun _ => 0)))), (mb, .inr (0, [.ref ma])), (ma, .inl (c2, 4096, .inr (.inl (fun _ => 0)))), (qb, .inr (0, [.ref qa])), (qa, .inl (c3, 32, .inr (.inl (fun _ => 0))))]) hD hS hA [0, 1, 2, 3, 4, 5, 6] rfl
  refine va_calli (va_runV (As := [.int y_5]) (rest := [.int 0]) ⟨hx, hb, hml, hown, hts⟩ (k_byteAt l dC dI x tb ta pi pb pa pr gr gb ga wi wa me rb ra mb ma qb qa pu ct cp cr cg cw c1 c2 c3 y_5 H.size (by subst_vars; exact (romA_3 _ hq).2)) (cwV 1 hts gX2_wordAt_X2_byteAt rfl rfl rfl (by decide +kernel) ⟨Nat.le_of_ble_eq_true rfl, Nat.le_of_ble_eq_true rfl⟩) ⟨fun a U g mk q => by obtain ⟨q0, q1, qP, qK, qD⟩ := q; exact ⟨q0, q1, qP, va_K.moved (u := U) (U := U.calling g mk a) (Vm.Alike.refl U.vm) qK, qD⟩, va_recv hKc hPc (ci := 2) (q0 := 0) rfl rfl, fun U hU hW => ⟨rfl, by rw [hU], by rw [hU]; exact hPc, va_K.moved hW.alike hKc, hDc.weaken (fun _ _ _ _ => trivial)⟩⟩ rfl rfl hl.1 rfl (lv_room (Nat.le_of_ble_eq_true rfl)) dX2_wordAt_17 ⟨Nat.le_of_ble_eq_true rfl, Nat.le_of_ble_eq_true rfl⟩) hS (fun q _ h => hFc q h) hFc (fun r_6 u t H1 locs ht hvm hw hB hz1 hk1 hS => ?_)
  obtain ⟨hP1, hK1, hD1⟩ := hB
  rw [ht] at hP1
  have hK1 := va_K.moved hvm.symm hK1
  try dsimp only at hw
  obtain ⟨hP, hD⟩ := va_join (wr := []) (w1 := [(me, .inr (2, [.ref rb, .ref mb, .ref qb, .ref pi, .ref gr])), (rb, .inr (0, [.ref ra])), (ra, .inl (c1, 1024, .inr (.inl (fun _ => 0)))), (mb, .inr (0, [.ref ma])), (ma, .inl (c2, 4096, .inr (.inl (fun _ => 0)))), (qb, .inr (0, [.ref qa])), (qa, .inl (c3, 32, .inr (.inl (fun _ => 0))))]) hP hD [0, 1, 2, 3, 4, 5, 6] [] rfl rfl (by decide) (by decide) hk1 hFc hP1 hD1
  have hK := (hK.sub (tys' := [(c1, .long), (c2, .long), (c3, .long), (c1, .long), (c2, .long), (c3, .long)]) [0, 1, 2, 3, 4, 5] rfl).app hK1
  generalize H1 = H at hP hS ⊢
  have hP : va_P (dC, dI) vwCl [(me, .inr (2, [.ref rb, .ref mb, .ref qb, .ref pi, .ref gr])), (rb, .inr (0, [.ref ra])), (ra, .inl (c1, 1024, .inr (.inl (fun _ => 0)))), (mb, .inr (0, [.ref ma])), (ma, .inl (c2, 4096, .inr (.inl (fun _ => 0)))), (qb, .inr (0, [.ref qa])), (qa, .inl (c3, 32, .inr (.inl (fun _ => 0))))] H := hP
  have hD : va_D A [(me, .inr (2, [.ref rb, .ref mb, .ref qb, .ref pi, .ref gr])), (rb, .inr (0, [.ref ra])), (ra, .inl (c1, 1024, .inr (.inl (fun _ => 0)))), (mb, .inr (0, [.ref ma])), (ma, .inl (c2, 4096, .inr (.inl (fun _ => 0)))), (qb, .inr (0, [.ref qa])), (qa, .inl (c3, 32, .inr (.inl (fun _ => 0))))] := hD
  have hK : va_K (dC, dI) vwCl [(c1, .long), (c2, .long), (c3, .long), (c1, .long), (c2, .long), (c3, .long), (c1, .long), (c2, .long), (c3, .long)] s := hK
  have hw_7 := hw
  obtain rfl := hw_7
  refine lv_ior hx hb dX2_wordAt_20 ?_
  refine lv_topi (fun y_8 ey_8 => ?_)
  obtain rfl : y_8 = 0 := ey_8.trans (by decide)
  have hP9 := hP.sub (ws' := [(me, .inr (2, [.ref rb, .ref mb, .ref qb, .ref pi, .ref gr])), (rb, .inr (0, [.ref ra])), (ra, .inl (c1, 1024, .inr (.inl (fun _ => 0)))), (mb, .inr (0, [.ref ma])), (ma, .inl (c2, 4096, .inr (.inl (fun _ => 0)))), (qb, .inr (0, [.ref qa])), (qa, .inl (c3, 32, .inr (.inl (fun _ => 0))))]) [0, 1, 2, 3, 4, 5, 6] rfl
  have hD9 := hD.sub (ws' := [(me, .inr (2, [.ref rb, .ref mb, .ref qb, .ref pi, .ref gr])), (rb, .inr (0, [.ref ra])), (ra, .inl (c1, 1024, .inr (.inl (fun _ => 0)))), (mb, .inr (0, [.ref ma])), (ma, .inl (c2, 4096, .inr (.inl (fun _ => 0)))), (qb, .inr (0, [.ref qa])), (qa, .inl (c3, 32, .inr (.inl (fun _ => 0))))]) [0, 1, 2, 3, 4, 5, 6] (by decide) rfl
  have hK9 := hK.sub (tys' := [(c1, .long), (c2, .long), (c3, .long)]) [0, 1, 2] rfl
  exact W.iret (v := 0) hx hb hr (fun t ht hW => ⟨⟨0, (), rfl, rfl, by rw [ht]; exact hP9, va_K.moved hW.alike hK9, hD9⟩, hS.F ht⟩) hS.2.2 dX2_wordAt_21

