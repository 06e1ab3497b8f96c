def wz_X0_get : List Cond := .code yX0_get cX0_get 3 (some .int) :: wq_all
set_option maxHeartbeats 1000000 in
set_option maxRecDepth 100000 in
theorem z_get (l : Launch) (dC : Nat → ClassId) (dI : Nat → Nat → Nat) (h0 h1 n : Nat) (f : Nat → Int64) (cy : ClassId) (p0 : Int32) (sz : Nat) (hn : n < 2 ^ 31) : Met l yX0_get wz_X0_get ({ frames := 0, cells := 0, slots := 0, locals := 0 }) (va_Pc [.ref h0, .int p0] (fun U => U.heap.size = sz ∧ va_P (dC, dI) vwCl [(h0, .inr (0, [.ref h1])), (h1, .inl (cy, n, .inr (.inl (f))))] U.heap ∧ va_K (dC, dI) vwCl [(cy, .long)] U ∧ va_D (fun _ => True) [(h0, .inr (0, [.ref h1])), (h1, .inl (cy, n, .inr (.inl (f))))])) (va_Qi (fun (r : Int32) (_ : Unit) => 0 ≤ r.toInt ∧ r.toInt ≤ 255) (fun (u : Unit) (t : State) => va_P (dC, dI) vwCl [(h0, .inr (0, [.ref h1])), (h1, .inl (cy, n, .inr (.inl (f))))] t.heap ∧ va_K (dC, dI) vwCl [(cy, .long)] t ∧ va_D (va_A [(h0, .inr (0, [.ref h1])), (h1, .inl (cy, n, .inr (.inl (f))))] sz) [(h0, .inr (0, [.ref h1])), (h1, .inl (cy, n, .inr (.inl (f))))]) (va_A [(h0, .inr (0, [.ref h1])), (h1, .inl (cy, n, .inr (.inl (f))))] sz)) 0 0 (va_A [(h0, .inr (0, [.ref h1])), (h1, .inl (cy, n, .inr (.inl (f))))] sz) := by
  refine Met.ofW (cc := cX0_get) (maxL := 3) (ret := (some .int)) (by decide) rfl ?_
  intro p e s m args below meth c s₁ B hml hv
  obtain ⟨rfl, hsz, hP, hK, hD0⟩ := hv
  have hx := B.exec
  have hb := B.bytes
  have hr := B.returns
  have hts := atoms_spec (ws := wz_X0_get) B.pre
  have hown : s.vm.findClass RX0 = some m.cls := findClass_of_methodNamed B.named
  have hlocks := B.notSynchronized
  subst hsz
  have hD := hD0.self (sz := s.heap.size)
  generalize hAe : va_A [(h0, .inr (0, [.ref h1])), (h1, .inl (cy, n, .inr (.inl (f))))] s.heap.size = A at hD ⊢
  have hA : ∀ q : Nat, s.heap.size ≤ q → A q := fun q h => by rw [← hAe]; exact Or.inr h
  have hS : va_S A s.heap s.heap [] := va_S.rf
  have hP : va_P (dC, dI) vwCl [(h0, .inr (0, [.ref h1])), (h1, .inl (cy, n, .inr (.inl (f))))] s.heap := hP
  have hl := lv_entry ([.ref h0, .int p0]) (n := 3) (Nat.le_of_ble_eq_true rfl)
  rw [lg_entry_eq]
  generalize (lg_sl ([.ref h0, .int p0]) ++ List.replicate (3 - (lg_sl ([.ref h0, .int p0])).length) Slot.unset).toArray = ls at hl ⊢
  have hl : lv_has ls 3 [(0, .ref h0), (1, .int p0)] := hl
  refine lv_iload_n hx hb dX0_get_0 rfl (lv_at hl 1 rfl) ?_
  refine lv_iconst (v := 3) hx hb dX0_get_1 (by decide) ?_
  refine lv_ishr hx hb dX0_get_2 ?_
  refine lv_topi (fun y_1 ey_1 => ?_)
  refine lv_istore_n (lv' := [(2, .int y_1), (0, .ref h0), (1, .int p0)]) hx hb dX0_get_3 rfl hl (by decide) rfl (fun ls hl => ?_)
  refine lv_iload_n hx hb dX0_get_4 rfl (lv_at hl 0 rfl) ?_
  refine lv_if_lt (tgt := 17) hx hb dX0_get_5 (by decide) (fun c5_2 => ?_) (fun c5_2 => ?_)
  · refine lv_iconst (v := 0) hx hb dX0_get_17 (by decide) ?_
    have hP9 := hP.sub (ws' := [(h0, .inr (0, [.ref h1])), (h1, .inl (cy, n, .inr (.inl (f))))]) [0, 1] rfl
    have hD9 := hD.sub (ws' := [(h0, .inr (0, [.ref h1])), (h1, .inl (cy, n, .inr (.inl (f))))]) [0, 1] (by decide) rfl
    have hK9 := hK.sub (tys' := [(cy, .long)]) [0] rfl
    exact W.iret (v := 0) hx hb hr (fun t ht hW => ⟨⟨0, (), rfl, by decide, by rw [ht]; exact hP9, va_K.moved hW.alike hK9, hD9⟩, hS.F ht⟩) hS.2.2 dX0_get_18
  · refine lv_iload_n hx hb dX0_get_8 rfl (lv_at hl 0 rfl) ?_
    refine lv_aload_n hx hb dX0_get_9 rfl (lv_at hl 1 rfl) ?_
    refine va_get (D := (dC, dI)) (ci := 0) (v := .ref h1) (C := RX0) (T := TX0) (N := 1) hx hb hts (fun w h => List.mem_cons_of_mem _ (inz_X0 w h)) hown hK hP 0 rfl rfl 0 (by decide) (hts (.fieldLink RX0 7 "WorkspaceBox$Bytes" "cells" "[J") (List.mem_cons_of_mem _ (List.mem_of_getElem? (i := 108) (by decide +kernel)))) (fun _ h9 => h9) rfl dX0_get_10 ?_
    refine va_alen hx hb hK hP 1 0 rfl rfl (v := (nI n)) rfl dX0_get_13 ?_
    refine lv_icmp_lt (tgt := 19) hx hb dX0_get_14 (by decide) (fun c14_3 => ?_) (fun c14_3 => ?_)
    · refine lv_aload_n hx hb dX0_get_19 rfl (lv_at hl 1 rfl) ?_
      refine va_get (D := (dC, dI)) (ci := 0) (v := .ref h1) (C := RX0) (T := TX0) (N := 1) hx hb hts (fun w h => List.mem_cons_of_mem _ (inz_X0 w h)) hown hK hP 0 rfl rfl 0 (by decide) (hts (.fieldLink RX0 7 "WorkspaceBox$Bytes" "cells" "[J") (List.mem_cons_of_mem _ (List.mem_of_getElem? (i := 108) (by decide +kernel)))) (fun _ h9 => h9) rfl dX0_get_20 ?_
      refine lv_iload_n hx hb dX0_get_23 rfl (lv_at hl 0 rfl) ?_
      refine va_lald hx hb hK hP 1 0 rfl rfl (in_of hn (by assumption) (by assumption)) dX0_get_24 ?_
      refine lv_topl (fun y_4 ey_4 => ?_)
      refine lv_iload_n hx hb dX0_get_25 rfl (lv_at hl 2 rfl) ?_
      refine lv_bipush (v := 7) hx hb dX0_get_26 (by decide) ?_
      refine lv_iand hx hb dX0_get_28 ?_
      refine lv_topi (fun y_5 ey_5 => ?_)
      refine lv_iconst (v := 3) hx hb dX0_get_29 (by decide) ?_
      refine lv_ishl hx hb dX0_get_30 ?_
      refine lv_topi (fun y_6 ey_6 => ?_)
      refine lv_lushr hx hb dX0_get_31 rfl ?_
      refine lv_topl (fun y_7 ey_7 => ?_)
      refine lv_l2i hx hb dX0_get_32 rfl ?_
      refine lv_topi (fun y_8 ey_8 => ?_)
      refine lv_sipush (v := 255) hx hb dX0_get_33 (by decide) ?_
      refine lv_iand hx hb dX0_get_36 ?_
      refine lv_topi (fun y_9 ey_9 => ?_)
      have hP9 := hP.sub (ws' := [(h0, .inr (0, [.ref h1])), (h1, .inl (cy, n, .inr (.inl (f))))]) [0, 1] rfl
      have hD9 := hD.sub (ws' := [(h0, .inr (0, [.ref h1])), (h1, .inl (cy, n, .inr (.inl (f))))]) [0, 1] (by decide) rfl
      have hK9 := hK.sub (tys' := [(cy, .long)]) [0] rfl
      exact W.iret (v := y_9) hx hb hr (fun t ht hW => ⟨⟨y_9, (), rfl, by first | decide | (rw [ey_9]; exact and255 _), by rw [ht]; exact hP9, va_K.moved hW.alike hK9, hD9⟩, hS.F ht⟩) hS.2.2 dX0_get_37
    · refine lv_iconst (v := 0) hx hb dX0_get_17 (by decide) ?_
      have hP9 := hP.sub (ws' := [(h0, .inr (0, [.ref h1])), (h1, .inl (cy, n, .inr (.inl (f))))]) [0, 1] rfl
      have hD9 := hD.sub (ws' := [(h0, .inr (0, [.ref h1])), (h1, .inl (cy, n, .inr (.inl (f))))]) [0, 1] (by decide) rfl
      have hK9 := hK.sub (tys' := [(cy, .long)]) [0] rfl
      exact W.iret (v := 0) hx hb hr (fun t ht hW => ⟨⟨0, (), rfl, by decide, by rw [ht]; exact hP9, va_K.moved hW.alike hK9, hD9⟩, hS.F ht⟩) hS.2.2 dX0_get_18

def wz_X0_put : List Cond := .code yX0_put cX0_put 7 none :: wq_all
set_option maxHeartbeats 1000000 in
set_option maxRecDepth 100000 in
theorem z_put (l : Launch) (dC : Nat → ClassId) (dI : Nat → Nat → Nat) (h0 h1 n : Nat) (f : Nat → Int64) (cy : ClassId) (p0 p1 : Int32) (sz : Nat) (hn : n < 2 ^ 31) : Met l yX0_put wz_X0_put ({ frames := 0, cells := 0, slots := 0, locals := 0 }) (va_Pc [.ref h0, .int p0, .int p1] (fun U => U.heap.size = sz ∧ va_P (dC, dI) vwCl [(h0, .inr (0, [.ref h1])), (h1, .inl (cy, n, .inr (.inl (f))))] U.heap ∧ va_K (dC, dI) vwCl [(cy, .long)] U ∧ va_D (fun _ => True) [(h0, .inr (0, [.ref h1])), (h1, .inl (cy, n, .inr (.inl (f))))])) (va_Qv (fun (_ : Nat → Int64) => True) (fun (u : Nat → Int64) (t : State) => va_P (dC, dI) vwCl [(h0, .inr (0, [.ref h1])), (h1, .inl (cy, n, .inr (.inl (u))))] t.heap ∧ va_K (dC, dI) vwCl [(cy, .long)] t ∧ va_D (va_A [(h0, .inr (0, [.ref h1])), (h1, .inl (cy, n, .inr (.inl (f))))] sz) [(h0, .inr (0, [.ref h1])), (h1, .inl (cy, n, .inr (.inl (u))))]) (va_A [(h0, .inr (0, [.ref h1])), (h1, .inl (cy, n, .inr (.inl (f))))] sz)) 0 0 (va_A [(h0, .inr (0, [.ref h1])), (h1, .inl (cy, n, .inr (.inl (f))))] sz) := by
  refine Met.ofW (cc := cX0_put) (maxL := 7) (ret := none) (by decide) rfl ?_
  intro p e s m args below meth c s₁ B hml hv
  obtain ⟨rfl, hsz, hP, hK, hD0⟩ := hv
  have hx := B.exec
  have hb := B.bytes
  have hr := B.returns
  have hts := atoms_spec (ws := wz_X0_put) B.pre
  have hown : s.vm.findClass RX0 = some m.cls := findClass_of_methodNamed B.named
  have hlocks := B.notSynchronized
  subst hsz
  have hD := hD0.self (sz := s.heap.size)
  generalize hAe : va_A [(h0, .inr (0, [.ref h1])), (h1, .inl (cy, n, .inr (.inl (f))))] s.heap.size = A at hD ⊢
  have hA : ∀ q : Nat, s.heap.size ≤ q → A q := fun q h => by rw [← hAe]; exact Or.inr h
  have hS : va_S A s.heap s.heap [] := va_S.rf
  have hP : va_P (dC, dI) vwCl [(h0, .inr (0, [.ref h1])), (h1, .inl (cy, n, .inr (.inl (f))))] s.heap := hP
  have hl := lv_entry ([.ref h0, .int p0, .int p1]) (n := 7) (Nat.le_of_ble_eq_true rfl)
  rw [lg_entry_eq]
  generalize (lg_sl ([.ref h0, .int p0, .int p1]) ++ List.replicate (7 - (lg_sl ([.ref h0, .int p0, .int p1])).length) Slot.unset).toArray = ls at hl ⊢
  have hl : lv_has ls 7 [(0, .ref h0), (1, .int p0), (2, .int p1)] := hl
  refine lv_iload_n hx hb dX0_put_0 rfl (lv_at hl 1 rfl) ?_
  refine lv_iconst (v := 3) hx hb dX0_put_1 (by decide) ?_
  refine lv_ishr hx hb dX0_put_2 ?_
  refine lv_topi (fun y_1 ey_1 => ?_)
  refine lv_istore_n (lv' := [(3, .int y_1), (0, .ref h0), (1, .int p0), (2, .int p1)]) hx hb dX0_put_3 rfl hl (by decide) rfl (fun ls hl => ?_)
  refine lv_iload_n hx hb dX0_put_4 rfl (lv_at hl 0 rfl) ?_
  refine lv_if_lt (tgt := 17) hx hb dX0_put_5 (by decide) (fun c5_2 => ?_) (fun c5_2 => ?_)
  · have hP9 := hP.sub (ws' := [(h0, .inr (0, [.ref h1])), (h1, .inl (cy, n, .inr (.inl (f))))]) [0, 1] rfl
    have hD9 := hD.sub (ws' := [(h0, .inr (0, [.ref h1])), (h1, .inl (cy, n, .inr (.inl (f))))]) [0, 1] (by decide) rfl
    have hK9 := hK.sub (tys' := [(cy, .long)]) [0] rfl
    exact W.vret hx hb hr (fun t ht hW => ⟨⟨f, rfl, trivial, by rw [ht]; exact hP9, va_K.moved hW.alike hK9, hD9⟩, hS.F ht⟩) hS.2.2 dX0_put_17
  · refine lv_iload_n hx hb dX0_put_8 rfl (lv_at hl 0 rfl) ?_
    refine lv_aload_n hx hb dX0_put_9 rfl (lv_at hl 1 rfl) ?_
    refine va_get (D := (dC, dI)) (ci := 0) (v := .ref h1) (C := RX0) (T := TX0) (N := 1) hx hb hts (fun w h => List.mem_cons_of_mem _ (inz_X0 w h)) hown hK hP 0 rfl rfl 0 (by decide) (hts (.fieldLink RX0 7 "WorkspaceBox$Bytes" "cells" "[J") (List.mem_cons_of_mem _ (List.mem_of_getElem? (i := 108) (by decide +kernel)))) (fun _ h9 => h9) rfl dX0_put_10 ?_
    refine va_alen hx hb hK hP 1 0 rfl rfl (v := (nI n)) rfl dX0_put_13 ?_
    refine lv_icmp_lt (tgt := 18) hx hb dX0_put_14 (by decide) (fun c14_3 => ?_) (fun c14_3 => ?_)
    · refine lv_iload_n hx hb dX0_put_18 rfl (lv_at hl 2 rfl) ?_
      refine lv_bipush (v := 7) hx hb dX0_put_19 (by decide) ?_
      refine lv_iand hx hb dX0_put_21 ?_
      refine lv_topi (fun y_4 ey_4 => ?_)
      refine lv_iconst (v := 3) hx hb dX0_put_22 (by decide) ?_
      refine lv_ishl hx hb dX0_put_23 ?_
      refine lv_topi (fun y_5 ey_5 => ?_)
      refine lv_istore (lv' := [(4, .int y_5), (3, .int y_1), (0, .ref h0), (1, .int p0), (2, .int p1)]) hx hb dX0_put_24 hl (by decide) rfl (fun ls hl => ?_)
      refine lv_aload_n hx hb dX0_put_26 rfl (lv_at hl 2 rfl) ?_
      refine va_get (D := (dC, dI)) (ci := 0) (v := .ref h1) (C := RX0) (T := TX0) (N := 1) hx hb hts (fun w h => List.mem_cons_of_mem _ (inz_X0 w h)) hown hK hP 0 rfl rfl 0 (by decide) (hts (.fieldLink RX0 7 "WorkspaceBox$Bytes" "cells" "[J") (List.mem_cons_of_mem _ (List.mem_of_getElem? (i := 108) (by decide +kernel)))) (fun _ h9 => h9) rfl dX0_put_27 ?_
      refine lv_iload_n hx hb dX0_put_30 rfl (lv_at hl 1 rfl) ?_
      refine va_lald hx hb hK hP 1 0 rfl rfl (in_of hn (by assumption) (by assumption)) dX0_put_31 ?_
      refine lv_topl (fun y_6 ey_6 => ?_)
      refine lv_ldc2 hx hb hown (hts (.constantLong RX0 13 (255)) (List.mem_cons_of_mem _ (List.mem_of_getElem? (i := 296) (by decide +kernel)))) dX0_put_32 ?_
      refine lv_iload hx hb dX0_put_35 (lv_at hl 0 rfl) ?_
      refine lv_lshl hx hb dX0_put_37 rfl ?_
      refine lv_topl (fun y_7 ey_7 => ?_)
      refine lv_ldc2 hx hb hown (hts (.constantLong RX0 15 (-1)) (List.mem_cons_of_mem _ (List.mem_of_getElem? (i := 297) (by decide +kernel)))) dX0_put_38 ?_
      refine lv_lxor hx hb dX0_put_41 ?_
      refine lv_topl (fun y_8 ey_8 => ?_)
      refine lv_land hx hb dX0_put_42 ?_
      refine lv_topl (fun y_9 ey_9 => ?_)
      refine lv_lstore (lv' := [(5, .long y_9), (4, .int y_5), (3, .int y_1), (0, .ref h0), (1, .int p0), (2, .int p1)]) hx hb dX0_put_43 hl (by decide) rfl (fun ls hl => ?_)
      refine lv_aload_n hx hb dX0_put_45 rfl (lv_at hl 3 rfl) ?_
      refine va_get (D := (dC, dI)) (ci := 0) (v := .ref h1) (C := RX0) (T := TX0) (N := 1) hx hb hts (fun w h => List.mem_cons_of_mem _ (inz_X0 w h)) hown hK hP 0 rfl rfl 0 (by decide) (hts (.fieldLink RX0 7 "WorkspaceBox$Bytes" "cells" "[J") (List.mem_cons_of_mem _ (List.mem_of_getElem? (i := 108) (by decide +kernel)))) (fun _ h9 => h9) rfl dX0_put_46 ?_
      refine lv_iload_n hx hb dX0_put_49 rfl (lv_at hl 2 rfl) ?_
      refine lv_lload hx hb dX0_put_50 (lv_at hl 0 rfl) ?_
      refine lv_iload_n hx hb dX0_put_52 rfl (lv_at hl 5 rfl) ?_
      refine lv_sipush (v := 255) hx hb dX0_put_53 (by decide) ?_
      refine lv_iand hx hb dX0_put_56 ?_
      refine lv_topi (fun y_10 ey_10 => ?_)
      refine lv_i2l hx hb dX0_put_57 rfl ?_
      refine lv_topl (fun y_11 ey_11 => ?_)
      refine lv_iload hx hb dX0_put_58 (lv_at hl 1 rfl) ?_
      refine lv_lshl hx hb dX0_put_60 rfl ?_
      refine lv_topl (fun y_12 ey_12 => ?_)
      refine lv_lor hx hb dX0_put_61 ?_
      refine lv_topl (fun y_13 ey_13 => ?_)
      refine va_last hx hb hK hP hD hS 1 0 rfl rfl (in_of hn (by assumption) (by assumption)) dX0_put_62 (fun H locs hP hD hS => ?_)
      obtain ⟨f_14, ef_14⟩ : ∃ g, g = vp_updL (f) (y_1 : Int32).toNatClampNeg y_13 := ⟨_, rfl⟩
      have hP : va_P (dC, dI) vwCl [(h0, .inr (0, [.ref h1])), (h1, .inl (cy, n, .inr (.inl (f_14))))] H := by rw [ef_14]; exact hP
      have hD : va_D A [(h0, .inr (0, [.ref h1])), (h1, .inl (cy, n, .inr (.inl (f_14))))] := by rw [ef_14]; exact hD
      have hP9 := hP.sub (ws' := [(h0, .inr (0, [.ref h1])), (h1, .inl (cy, n, .inr (.inl (f_14))))]) [0, 1] rfl
      have hD9 := hD.sub (ws' := [(h0, .inr (0, [.ref h1])), (h1, .inl (cy, n, .inr (.inl (f_14))))]) [0, 1] (by decide) rfl
      have hK9 := hK.sub (tys' := [(cy, .long)]) [0] rfl
      exact W.vret hx hb hr (fun t ht hW => ⟨⟨f_14, rfl, trivial, by rw [ht]; exact hP9, va_K.moved hW.alike hK9, hD9⟩, hS.F ht⟩) hS.2.2 dX0_put_63
    · have hP9 := hP.sub (ws' := [(h0, .inr (0, [.ref h1])), (h1, .inl (cy, n, .inr (.inl (f))))]) [0, 1] rfl
      have hD9 := hD.sub (ws' := [(h0, .inr (0, [.ref h1])), (h1, .inl (cy, n, .inr (.inl (f))))]) [0, 1] (by decide) rfl
      have hK9 := hK.sub (tys' := [(cy, .long)]) [0] rfl
      exact W.vret hx hb hr (fun t ht hW => ⟨⟨f, rfl, trivial, by rw [ht]; exact hP9, va_K.moved hW.alike hK9, hD9⟩, hS.F ht⟩) hS.2.2 dX0_put_17

