theorem in_X7_init_X7 : ∀ w ∈ wsX70, w ∈ wsX7_init := by decide +kernel
set_option maxHeartbeats 1000000 in
set_option maxRecDepth 100000 in
theorem m_init (l : Launch) (dC : Nat → ClassId) (dI : Nat → Nat → Nat) (y : Nat) (sz : Nat)  : Met l yX7_init wsX7_init ({ frames := 1, cells := 9, slots := 103488, locals := 12 }) (va_Pc [.ref y] (fun U => U.heap.size = sz ∧ va_P (dC, dI) vwCl [(y, .inr (7, [.int 0, .null, .null, .null, .null, .int 0, .int 0, .int 0, .int 0, .int 0, .null, .int 0, .int 0, .int 0, .null, .null, .int 0, .int 0, .int 0, .int 0, .int 0, .int 0, .null, .int 0, .null, .int 0]))] U.heap ∧ va_K (dC, dI) vwCl [] U ∧ va_D (fun _ => True) [(y, .inr (7, [.int 0, .null, .null, .null, .null, .int 0, .int 0, .int 0, .int 0, .int 0, .null, .int 0, .int 0, .int 0, .null, .null, .int 0, .int 0, .int 0, .int 0, .int 0, .int 0, .null, .int 0, .null, .int 0]))])) (va_Qv (fun (_ : Nat × Nat × Nat × Nat × Nat × Nat × Nat × Nat × Nat × ClassId × ClassId × ClassId × ClassId × ClassId × ClassId × ClassId × ClassId × ClassId) => True) (fun (u : Nat × Nat × Nat × Nat × Nat × Nat × Nat × Nat × Nat × ClassId × ClassId × ClassId × ClassId × ClassId × ClassId × ClassId × ClassId × ClassId) (t : State) => va_P (dC, dI) vwCl [(y, .inr (7, [.int 0, .ref u.1, .ref u.2.1, .ref u.2.2.1, .ref u.2.2.2.1, .int 0, .int 0, .int 0, .int 0, .int 0, .ref u.2.2.2.2.1, .int 0, .int 0, .int 0, .ref u.2.2.2.2.2.1, .ref u.2.2.2.2.2.2.1, .int 0, .int 0, .int 0, .int 2, .int 0, .int 0, .ref u.2.2.2.2.2.2.2.1, .int 0, .ref u.2.2.2.2.2.2.2.2.1, .int 0])), (u.1, .inl (u.2.2.2.2.2.2.2.2.2.1, 8192, .inl (fun _ => 0))), (u.2.1, .inl (u.2.2.2.2.2.2.2.2.2.2.1, 65536, .inl (fun _ => 0))), (u.2.2.1, .inl (u.2.2.2.2.2.2.2.2.2.2.2.1, 16384, .inl (fun _ => 0))), (u.2.2.2.1, .inl (u.2.2.2.2.2.2.2.2.2.2.2.2.1, 8192, .inl (fun _ => 0))), (u.2.2.2.2.1, .inl (u.2.2.2.2.2.2.2.2.2.2.2.2.2.1, 8, .inl (fun _ => 0))), (u.2.2.2.2.2.1, .inl (u.2.2.2.2.2.2.2.2.2.2.2.2.2.2.1, 4096, .inl (fun _ => 0))), (u.2.2.2.2.2.2.1, .inl (u.2.2.2.2.2.2.2.2.2.2.2.2.2.2.2.1, 64, .inl (fun _ => 0))), (u.2.2.2.2.2.2.2.1, .inl (u.2.2.2.2.2.2.2.2.2.2.2.2.2.2.2.2.1, 16, .inl (fun _ => 0))), (u.2.2.2.2.2.2.2.2.1, .inl (u.2.2.2.2.2.2.2.2.2.2.2.2.2.2.2.2.2, 1000, .inl (fun _ => 0)))] t.heap ∧ va_K (dC, dI) vwCl [(u.2.2.2.2.2.2.2.2.2.1, .byte), (u.2.2.2.2.2.2.2.2.2.2.1, .byte), (u.2.2.2.2.2.2.2.2.2.2.2.1, .byte), (u.2.2.2.2.2.2.2.2.2.2.2.2.1, .byte), (u.2.2.2.2.2.2.2.2.2.2.2.2.2.1, .int), (u.2.2.2.2.2.2.2.2.2.2.2.2.2.2.1, .boolean), (u.2.2.2.2.2.2.2.2.2.2.2.2.2.2.2.1, .boolean), (u.2.2.2.2.2.2.2.2.2.2.2.2.2.2.2.2.1, .boolean), (u.2.2.2.2.2.2.2.2.2.2.2.2.2.2.2.2.2, .int)] t ∧ va_D (va_A [(y, .inr (7, [.int 0, .null, .null, .null, .null, .int 0, .int 0, .int 0, .int 0, .int 0, .null, .int 0, .int 0, .int 0, .null, .null, .int 0, .int 0, .int 0, .int 0, .int 0, .int 0, .null, .int 0, .null, .int 0]))] sz) [(y, .inr (7, [.int 0, .ref u.1, .ref u.2.1, .ref u.2.2.1, .ref u.2.2.2.1, .int 0, .int 0, .int 0, .int 0, .int 0, .ref u.2.2.2.2.1, .int 0, .int 0, .int 0, .ref u.2.2.2.2.2.1, .ref u.2.2.2.2.2.2.1, .int 0, .int 0, .int 0, .int 2, .int 0, .int 0, .ref u.2.2.2.2.2.2.2.1, .int 0, .ref u.2.2.2.2.2.2.2.2.1, .int 0])), (u.1, .inl (u.2.2.2.2.2.2.2.2.2.1, 8192, .inl (fun _ => 0))), (u.2.1, .inl (u.2.2.2.2.2.2.2.2.2.2.1, 65536, .inl (fun _ => 0))), (u.2.2.1, .inl (u.2.2.2.2.2.2.2.2.2.2.2.1, 16384, .inl (fun _ => 0))), (u.2.2.2.1, .inl (u.2.2.2.2.2.2.2.2.2.2.2.2.1, 8192, .inl (fun _ => 0))), (u.2.2.2.2.1, .inl (u.2.2.2.2.2.2.2.2.2.2.2.2.2.1, 8, .inl (fun _ => 0))), (u.2.2.2.2.2.1, .inl (u.2.2.2.2.2.2.2.2.2.2.2.2.2.2.1, 4096, .inl (fun _ => 0))), (u.2.2.2.2.2.2.1, .inl (u.2.2.2.2.2.2.2.2.2.2.2.2.2.2.2.1, 64, .inl (fun _ => 0))), (u.2.2.2.2.2.2.2.1, .inl (u.2.2.2.2.2.2.2.2.2.2.2.2.2.2.2.2.1, 16, .inl (fun _ => 0))), (u.2.2.2.2.2.2.2.2.1, .inl (u.2.2.2.2.2.2.2.2.2.2.2.2.2.2.2.2.2, 1000, .inl (fun _ => 0)))]) (va_A [(y, .inr (7, [.int 0, .null, .null, .null, .null, .int 0, .int 0, .int 0, .int 0, .int 0, .null, .int 0, .int 0, .int 0, .null, .null, .int 0, .int 0, .int 0, .int 0, .int 0, .int 0, .null, .int 0, .null, .int 0]))] sz)) 9 103488 (va_A [(y, .inr (7, [.int 0, .null, .null, .null, .null, .int 0, .int 0, .int 0, .int 0, .int 0, .null, .int 0, .int 0, .int 0, .null, .null, .int 0, .int 0, .int 0, .int 0, .int 0, .int 0, .null, .int 0, .null, .int 0]))] sz) := by
  refine Met.ofW (cc := cX7_init) (maxL := 1) (ret := none) (by decide) rfl ?_
  intro p e s m args below meth c s₁ B hml hv
  obtain ⟨rfl, hsz, hP, hK, hD0⟩ := hv
  have hx := B.exec
  have hb := B.bytes
  have hr := B.returns
  have hts := atoms_spec (ws := wsX7_init) B.pre
  have hown : s.vm.findClass RX7 = some m.cls := findClass_of_methodNamed B.named
  have hlocks := B.notSynchronized
  have hin : meth.name = "<init>" := (name_of_methodNamed B.named B.method).1
  subst hsz
  have hD := hD0.self (sz := s.heap.size)
  generalize hAe : va_A [(y, .inr (7, [.int 0, .null, .null, .null, .null, .int 0, .int 0, .int 0, .int 0, .int 0, .null, .int 0, .int 0, .int 0, .null, .null, .int 0, .int 0, .int 0, .int 0, .int 0, .int 0, .null, .int 0, .null, .int 0]))] s.heap.size = A at hD ⊢
  have hA : ∀ q : Nat, s.heap.size ≤ q → A q := fun q h => by rw [← hAe]; exact Or.inr h
  have hS : va_S A s.heap s.heap [] := va_S.rf
  have hP : va_P (dC, dI) vwCl [(y, .inr (7, [.int 0, .null, .null, .null, .null, .int 0, .int 0, .int 0, .int 0, .int 0, .null, .int 0, .int 0, .int 0, .null, .null, .int 0, .int 0, .int 0, .int 0, .int 0, .int 0, .null, .int 0, .null, .int 0]))] s.heap := hP
  have hl := lv_entry ([.ref y]) (n := 1) (Nat.le_of_ble_eq_true rfl)
  rw [lg_entry_eq]
  generalize (lg_sl ([.ref y]) ++ List.replicate (1 - (lg_sl ([.ref y])).length) Slot.unset).toArray = ls at hl ⊢
  have hl : lv_has ls 1 [(0, .ref y)] := hl
  refine lv_aload_n hx hb dX7_init_0 rfl (lv_at hl 0 rfl) ?_
  refine W.objInit hx hb hown (hts (.methodLink RX7 1 objectInit) (by decide +kernel)) (hts (.instanceMethod objectInit) (by decide +kernel)) (hts (.code objectInit ⟨#[0xb1]⟩ 1 none) (by decide +kernel)) rfl (by rw [hml]; exact hl.1) rfl dX7_init_1 (Nat.le_of_ble_eq_true rfl) (Nat.le_of_ble_eq_true rfl) ?_
  refine W.eq (g2 := F0 m 4 ls []) rfl ?_
  refine lv_aload_n hx hb dX7_init_4 rfl (lv_at hl 0 rfl) ?_
  refine lv_sipush (v := 8192) hx hb dX7_init_5 (by decide) ?_
  refine va_newa (atype := .byte) (N' := 8192) (ty := .byte) (a0 := (8192, .inl (fun _ => 0))) hx hb (hts (.arrayClass .byte) (by decide +kernel)) rfl hK hP hD hS hA (fun _ => rfl) (by decide) (by decide) (Nat.le_of_ble_eq_true rfl) (Nat.le_of_ble_eq_true rfl) (Nat.le_of_ble_eq_true rfl) dX7_init_8 (fun q_1 cy_2 H hK hP hD hS => ?_)
  have hP : va_P (dC, dI) vwCl [(y, .inr (7, [.int 0, .null, .null, .null, .null, .int 0, .int 0, .int 0, .int 0, .int 0, .null, .int 0, .int 0, .int 0, .null, .null, .int 0, .int 0, .int 0, .int 0, .int 0, .int 0, .null, .int 0, .null, .int 0])), (q_1, .inl (cy_2, 8192, .inl (fun _ => 0)))] H := hP
  have hD : va_D A [(y, .inr (7, [.int 0, .null, .null, .null, .null, .int 0, .int 0, .int 0, .int 0, .int 0, .null, .int 0, .int 0, .int 0, .null, .null, .int 0, .int 0, .int 0, .int 0, .int 0, .int 0, .null, .int 0, .null, .int 0])), (q_1, .inl (cy_2, 8192, .inl (fun _ => 0)))] := hD
  have hK : va_K (dC, dI) vwCl [(cy_2, .byte)] s := hK
  refine W.widen (k := 1) (n := 8192) (by omega) (by omega) ?_
  refine va_putF (D := (dC, dI)) (ci := 7) (v := .ref q_1) (ty := .array .byte) (C := RX7) (T := TX7) (N := 26) hx hb hts in_X7_init_X7 tyX7 tyX7_ok nmX7 hown hK hP hD hS 0 rfl rfl 1 (by decide) (hts (.fieldLink RX7 7 "WorkspaceBoxModel" "rom" "[B") (by decide +kernel)) (fun _ h9 => h9) rfl hin rfl (by decide +kernel) rfl rfl (Nat.le_of_ble_eq_true rfl) dX7_init_10 (fun H locs hP hD hS => ?_)
  have hP : va_P (dC, dI) vwCl [(y, .inr (7, [.int 0, .ref q_1, .null, .null, .null, .int 0, .int 0, .int 0, .int 0, .int 0, .null, .int 0, .int 0, .int 0, .null, .null, .int 0, .int 0, .int 0, .int 0, .int 0, .int 0, .null, .int 0, .null, .int 0])), (q_1, .inl (cy_2, 8192, .inl (fun _ => 0)))] H := hP
  have hD : va_D A [(y, .inr (7, [.int 0, .ref q_1, .null, .null, .null, .int 0, .int 0, .int 0, .int 0, .int 0, .null, .int 0, .int 0, .int 0, .null, .null, .int 0, .int 0, .int 0, .int 0, .int 0, .int 0, .null, .int 0, .null, .int 0])), (q_1, .inl (cy_2, 8192, .inl (fun _ => 0)))] := hD
  refine lv_aload_n hx hb dX7_init_13 rfl (lv_at hl 0 rfl) ?_
  refine lv_ldc hx hb hown (hts (.constant RX7 13 (65536)) (by decide +kernel)) dX7_init_14 ?_
  refine va_newa (atype := .byte) (N' := 65536) (ty := .byte) (a0 := (65536, .inl (fun _ => 0))) hx hb (hts (.arrayClass .byte) (by decide +kernel)) rfl hK hP hD hS hA (fun _ => rfl) (by decide) (by decide) (Nat.le_of_ble_eq_true rfl) (Nat.le_of_ble_eq_true rfl) (Nat.le_of_ble_eq_true rfl) dX7_init_16 (fun q_3 cy_4 H hK hP hD hS => ?_)
  have hP : va_P (dC, dI) vwCl [(y, .inr (7, [.int 0, .ref q_1, .null, .null, .null, .int 0, .int 0, .int 0, .int 0, .int 0, .null, .int 0, .int 0, .int 0, .null, .null, .int 0, .int 0, .int 0, .int 0, .int 0, .int 0, .null, .int 0, .null, .int 0])), (q_1, .inl (cy_2, 8192, .inl (fun _ => 0))), (q_3, .inl (cy_4, 65536, .inl (fun _ => 0)))] H := hP
  have hD : va_D A [(y, .inr (7, [.int 0, .ref q_1, .null, .null, .null, .int 0, .int 0, .int 0, .int 0, .int 0, .null, .int 0, .int 0, .int 0, .null, .null, .int 0, .int 0, .int 0, .int 0, .int 0, .int 0, .null, .int 0, .null, .int 0])), (q_1, .inl (cy_2, 8192, .inl (fun _ => 0))), (q_3, .inl (cy_4, 65536, .inl (fun _ => 0)))] := hD
  have hK : va_K (dC, dI) vwCl [(cy_2, .byte), (cy_4, .byte)] s := hK
  refine W.widen (k := 2) (n := 73728) (by omega) (by omega) ?_
  refine va_putF (D := (dC, dI)) (ci := 7) (v := .ref q_3) (ty := .array .byte) (C := RX7) (T := TX7) (N := 26) hx hb hts in_X7_init_X7 tyX7 tyX7_ok nmX7 hown hK hP hD hS 0 rfl rfl 2 (by decide) (hts (.fieldLink RX7 14 "WorkspaceBoxModel" "ram" "[B") (by decide +kernel)) (fun _ h9 => h9) rfl hin rfl (by decide +kernel) rfl rfl (Nat.le_of_ble_eq_true rfl) dX7_init_18 (fun H locs hP hD hS => ?_)
  have hP : va_P (dC, dI) vwCl [(y, .inr (7, [.int 0, .ref q_1, .ref q_3, .null, .null, .int 0, .int 0, .int 0, .int 0, .int 0, .null, .int 0, .int 0, .int 0, .null, .null, .int 0, .int 0, .int 0, .int 0, .int 0, .int 0, .null, .int 0, .null, .int 0])), (q_1, .inl (cy_2, 8192, .inl (fun _ => 0))), (q_3, .inl (cy_4, 65536, .inl (fun _ => 0)))] H := hP
  have hD : va_D A [(y, .inr (7, [.int 0, .ref q_1, .ref q_3, .null, .null, .int 0, .int 0, .int 0, .int 0, .int 0, .null, .int 0, .int 0, .int 0, .null, .null, .int 0, .int 0, .int 0, .int 0, .int 0, .int 0, .null, .int 0, .null, .int 0])), (q_1, .inl (cy_2, 8192, .inl (fun _ => 0))), (q_3, .inl (cy_4, 65536, .inl (fun _ => 0)))] := hD
  refine lv_aload_n hx hb dX7_init_21 rfl (lv_at hl 0 rfl) ?_
  refine lv_sipush (v := 16384) hx hb dX7_init_22 (by decide) ?_
  refine va_newa (atype := .byte) (N' := 16384) (ty := .byte) (a0 := (16384, .inl (fun _ => 0))) hx hb (hts (.arrayClass .byte) (by decide +kernel)) rfl hK hP hD hS hA (fun _ => rfl) (by decide) (by decide) (Nat.le_of_ble_eq_true rfl) (Nat.le_of_ble_eq_true rfl) (Nat.le_of_ble_eq_true rfl) dX7_init_25 (fun q_5 cy_6 H hK hP hD hS => ?_)
  have hP : va_P (dC, dI) vwCl [(y, .inr (7, [.int 0, .ref q_1, .ref q_3, .null, .null, .int 0, .int 0, .int 0, .int 0, .int 0, .null, .int 0, .int 0, .int 0, .null, .null, .int 0, .int 0, .int 0, .int 0, .int 0, .int 0, .null, .int 0, .null, .int 0])), (q_1, .inl (cy_2, 8192, .inl (fun _ => 0))), (q_3, .inl (cy_4, 65536, .inl (fun _ => 0))), (q_5, .inl (cy_6, 16384, .inl (fun _ => 0)))] H := hP
  have hD : va_D A [(y, .inr (7, [.int 0, .ref q_1, .ref q_3, .null, .null, .int 0, .int 0, .int 0, .int 0, .int 0, .null, .int 0, .int 0, .int 0, .null, .null, .int 0, .int 0, .int 0, .int 0, .int 0, .int 0, .null, .int 0, .null, .int 0])), (q_1, .inl (cy_2, 8192, .inl (fun _ => 0))), (q_3, .inl (cy_4, 65536, .inl (fun _ => 0))), (q_5, .inl (cy_6, 16384, .inl (fun _ => 0)))] := hD
  have hK : va_K (dC, dI) vwCl [(cy_2, .byte), (cy_4, .byte), (cy_6, .byte)] s := hK
  refine W.widen (k := 3) (n := 90112) (by omega) (by omega) ?_
  refine va_putF (D := (dC, dI)) (ci := 7) (v := .ref q_5) (ty := .array .byte) (C := RX7) (T := TX7) (N := 26) hx hb hts in_X7_init_X7 tyX7 tyX7_ok nmX7 hown hK hP hD hS 0 rfl rfl 3 (by decide) (hts (.fieldLink RX7 17 "WorkspaceBoxModel" "vram" "[B") (by decide +kernel)) (fun _ h9 => h9) rfl hin rfl (by decide +kernel) rfl rfl (Nat.le_of_ble_eq_true rfl) dX7_init_27 (fun H locs hP hD hS => ?_)
  have hP : va_P (dC, dI) vwCl [(y, .inr (7, [.int 0, .ref q_1, .ref q_3, .ref q_5, .null, .int 0, .int 0, .int 0, .int 0, .int 0, .null, .int 0, .int 0, .int 0, .null, .null, .int 0, .int 0, .int 0, .int 0, .int 0, .int 0, .null, .int 0, .null, .int 0])), (q_1, .inl (cy_2, 8192, .inl (fun _ => 0))), (q_3, .inl (cy_4, 65536, .inl (fun _ => 0))), (q_5, .inl (cy_6, 16384, .inl (fun _ => 0)))] H := hP
  have hD : va_D A [(y, .inr (7, [.int 0, .ref q_1, .ref q_3, .ref q_5, .null, .int 0, .int 0, .int 0, .int 0, .int 0, .null, .int 0, .int 0, .int 0, .null, .null, .int 0, .int 0, .int 0, .int 0, .int 0, .int 0, .null, .int 0, .null, .int 0])), (q_1, .inl (cy_2, 8192, .inl (fun _ => 0))), (q_3, .inl (cy_4, 65536, .inl (fun _ => 0))), (q_5, .inl (cy_6, 16384, .inl (fun _ => 0)))] := hD
  refine lv_aload_n hx hb dX7_init_30 rfl (lv_at hl 0 rfl) ?_
  refine lv_sipush (v := 8192) hx hb dX7_init_31 (by decide) ?_
  refine va_newa (atype := .byte) (N' := 8192) (ty := .byte) (a0 := (8192, .inl (fun _ => 0))) hx hb (hts (.arrayClass .byte) (by decide +kernel)) rfl hK hP hD hS hA (fun _ => rfl) (by decide) (by decide) (Nat.le_of_ble_eq_true rfl) (Nat.le_of_ble_eq_true rfl) (Nat.le_of_ble_eq_true rfl) dX7_init_34 (fun q_7 cy_8 H hK hP hD hS => ?_)
  have hP : va_P (dC, dI) vwCl [(y, .inr (7, [.int 0, .ref q_1, .ref q_3, .ref q_5, .null, .int 0, .int 0, .int 0, .int 0, .int 0, .null, .int 0, .int 0, .int 0, .null, .null, .int 0, .int 0, .int 0, .int 0, .int 0, .int 0, .null, .int 0, .null, .int 0])), (q_1, .inl (cy_2, 8192, .inl (fun _ => 0))), (q_3, .inl (cy_4, 65536, .inl (fun _ => 0))), (q_5, .inl (cy_6, 16384, .inl (fun _ => 0))), (q_7, .inl (cy_8, 8192, .inl (fun _ => 0)))] H := hP
  have hD : va_D A [(y, .inr (7, [.int 0, .ref q_1, .ref q_3, .ref q_5, .null, .int 0, .int 0, .int 0, .int 0, .int 0, .null, .int 0, .int 0, .int 0, .null, .null, .int 0, .int 0, .int 0, .int 0, .int 0, .int 0, .null, .int 0, .null, .int 0])), (q_1, .inl (cy_2, 8192, .inl (fun _ => 0))), (q_3, .inl (cy_4, 65536, .inl (fun _ => 0))), (q_5, .inl (cy_6, 16384, .inl (fun _ => 0))), (q_7, .inl (cy_8, 8192, .inl (fun _ => 0)))] := hD
  have hK : va_K (dC, dI) vwCl [(cy_2, .byte), (cy_4, .byte), (cy_6, .byte), (cy_8, .byte)] s := hK
  refine W.widen (k := 4) (n := 98304) (by omega) (by omega) ?_
  refine va_putF (D := (dC, dI)) (ci := 7) (v := .ref q_7) (ty := .array .byte) (C := RX7) (T := TX7) (N := 26) hx hb hts in_X7_init_X7 tyX7 tyX7_ok nmX7 hown hK hP hD hS 0 rfl rfl 4 (by decide) (hts (.fieldLink RX7 20 "WorkspaceBoxModel" "groms" "[B") (by decide +kernel)) (fun _ h9 => h9) rfl hin rfl (by decide +kernel) rfl rfl (Nat.le_of_ble_eq_true rfl) dX7_init_36 (fun H locs hP hD hS => ?_)
  have hP : va_P (dC, dI) vwCl [(y, .inr (7, [.int 0, .ref q_1, .ref q_3, .ref q_5, .ref q_7, .int 0, .int 0, .int 0, .int 0, .int 0, .null, .int 0, .int 0, .int 0, .null, .null, .int 0, .int 0, .int 0, .int 0, .int 0, .int 0, .null, .int 0, .null, .int 0])), (q_1, .inl (cy_2, 8192, .inl (fun _ => 0))), (q_3, .inl (cy_4, 65536, .inl (fun _ => 0))), (q_5, .inl (cy_6, 16384, .inl (fun _ => 0))), (q_7, .inl (cy_8, 8192, .inl (fun _ => 0)))] H := hP
  have hD : va_D A [(y, .inr (7, [.int 0, .ref q_1, .ref q_3, .ref q_5, .ref q_7, .int 0, .int 0, .int 0, .int 0, .int 0, .null, .int 0, .int 0, .int 0, .null, .null, .int 0, .int 0, .int 0, .int 0, .int 0, .int 0, .null, .int 0, .null, .int 0])), (q_1, .inl (cy_2, 8192, .inl (fun _ => 0))), (q_3, .inl (cy_4, 65536, .inl (fun _ => 0))), (q_5, .inl (cy_6, 16384, .inl (fun _ => 0))), (q_7, .inl (cy_8, 8192, .inl (fun _ => 0)))] := hD
  refine lv_aload_n hx hb dX7_init_39 rfl (lv_at hl 0 rfl) ?_
  refine lv_bipush (v := 8) hx hb dX7_init_40 (by decide) ?_
  refine va_newa (atype := .int) (N' := 8) (ty := .int) (a0 := (8, .inl (fun _ => 0))) hx hb (hts (.arrayClass .int) (by decide +kernel)) rfl hK hP hD hS hA (fun _ => rfl) (by decide) (by decide) (Nat.le_of_ble_eq_true rfl) (Nat.le_of_ble_eq_true rfl) (Nat.le_of_ble_eq_true rfl) dX7_init_42 (fun q_9 cy_10 H hK hP hD hS => ?_)
  have hP : va_P (dC, dI) vwCl [(y, .inr (7, [.int 0, .ref q_1, .ref q_3, .ref q_5, .ref q_7, .int 0, .int 0, .int 0, .int 0, .int 0, .null, .int 0, .int 0, .int 0, .null, .null, .int 0, .int 0, .int 0, .int 0, .int 0, .int 0, .null, .int 0, .null, .int 0])), (q_1, .inl (cy_2, 8192, .inl (fun _ => 0))), (q_3, .inl (cy_4, 65536, .inl (fun _ => 0))), (q_5, .inl (cy_6, 16384, .inl (fun _ => 0))), (q_7, .inl (cy_8, 8192, .inl (fun _ => 0))), (q_9, .inl (cy_10, 8, .inl (fun _ => 0)))] H := hP
  have hD : va_D A [(y, .inr (7, [.int 0, .ref q_1, .ref q_3, .ref q_5, .ref q_7, .int 0, .int 0, .int 0, .int 0, .int 0, .null, .int 0, .int 0, .int 0, .null, .null, .int 0, .int 0, .int 0, .int 0, .int 0, .int 0, .null, .int 0, .null, .int 0])), (q_1, .inl (cy_2, 8192, .inl (fun _ => 0))), (q_3, .inl (cy_4, 65536, .inl (fun _ => 0))), (q_5, .inl (cy_6, 16384, .inl (fun _ => 0))), (q_7, .inl (cy_8, 8192, .inl (fun _ => 0))), (q_9, .inl (cy_10, 8, .inl (fun _ => 0)))] := hD
  have hK : va_K (dC, dI) vwCl [(cy_2, .byte), (cy_4, .byte), (cy_6, .byte), (cy_8, .byte), (cy_10, .int)] s := hK
  refine W.widen (k := 5) (n := 98312) (by omega) (by omega) ?_
  refine va_putF (D := (dC, dI)) (ci := 7) (v := .ref q_9) (ty := .array .int) (C := RX7) (T := TX7) (N := 26) hx hb hts in_X7_init_X7 tyX7 tyX7_ok nmX7 hown hK hP hD hS 0 rfl rfl 10 (by decide) (hts (.fieldLink RX7 23 "WorkspaceBoxModel" "pictures" "[I") (by decide +kernel)) (fun _ h9 => h9) rfl hin rfl (by decide +kernel) rfl rfl (Nat.le_of_ble_eq_true rfl) dX7_init_44 (fun H locs hP hD hS => ?_)
  have hP : va_P (dC, dI) vwCl [(y, .inr (7, [.int 0, .ref q_1, .ref q_3, .ref q_5, .ref q_7, .int 0, .int 0, .int 0, .int 0, .int 0, .ref q_9, .int 0, .int 0, .int 0, .null, .null, .int 0, .int 0, .int 0, .int 0, .int 0, .int 0, .null, .int 0, .null, .int 0])), (q_1, .inl (cy_2, 8192, .inl (fun _ => 0))), (q_3, .inl (cy_4, 65536, .inl (fun _ => 0))), (q_5, .inl (cy_6, 16384, .inl (fun _ => 0))), (q_7, .inl (cy_8, 8192, .inl (fun _ => 0))), (q_9, .inl (cy_10, 8, .inl (fun _ => 0)))] H := hP
  have hD : va_D A [(y, .inr (7, [.int 0, .ref q_1, .ref q_3, .ref q_5, .ref q_7, .int 0, .int 0, .int 0, .int 0, .int 0, .ref q_9, .int 0, .int 0, .int 0, .null, .null, .int 0, .int 0, .int 0, .int 0, .int 0, .int 0, .null, .int 0, .null, .int 0])), (q_1, .inl (cy_2, 8192, .inl (fun _ => 0))), (q_3, .inl (cy_4, 65536, .inl (fun _ => 0))), (q_5, .inl (cy_6, 16384, .inl (fun _ => 0))), (q_7, .inl (cy_8, 8192, .inl (fun _ => 0))), (q_9, .inl (cy_10, 8, .inl (fun _ => 0)))] := hD
  refine lv_aload_n hx hb dX7_init_47 rfl (lv_at hl 0 rfl) ?_
  refine lv_sipush (v := 4096) hx hb dX7_init_48 (by decide) ?_
  refine va_newa (atype := .boolean) (N' := 4096) (ty := .boolean) (a0 := (4096, .inl (fun _ => 0))) hx hb (hts (.arrayClass .boolean) (by decide +kernel)) rfl hK hP hD hS hA (fun _ => rfl) (by decide) (by decide) (Nat.le_of_ble_eq_true rfl) (Nat.le_of_ble_eq_true rfl) (Nat.le_of_ble_eq_true rfl) dX7_init_51 (fun q_11 cy_12 H hK hP hD hS => ?_)
  have hP : va_P (dC, dI) vwCl [(y, .inr (7, [.int 0, .ref q_1, .ref q_3, .ref q_5, .ref q_7, .int 0, .int 0, .int 0, .int 0, .int 0, .ref q_9, .int 0, .int 0, .int 0, .null, .null, .int 0, .int 0, .int 0, .int 0, .int 0, .int 0, .null, .int 0, .null, .int 0])), (q_1, .inl (cy_2, 8192, .inl (fun _ => 0))), (q_3, .inl (cy_4, 65536, .inl (fun _ => 0))), (q_5, .inl (cy_6, 16384, .inl (fun _ => 0))), (q_7, .inl (cy_8, 8192, .inl (fun _ => 0))), (q_9, .inl (cy_10, 8, .inl (fun _ => 0))), (q_11, .inl (cy_12, 4096, .inl (fun _ => 0)))] H := hP
  have hD : va_D A [(y, .inr (7, [.int 0, .ref q_1, .ref q_3, .ref q_5, .ref q_7, .int 0, .int 0, .int 0, .int 0, .int 0, .ref q_9, .int 0, .int 0, .int 0, .null, .null, .int 0, .int 0, .int 0, .int 0, .int 0, .int 0, .null, .int 0, .null, .int 0])), (q_1, .inl (cy_2, 8192, .inl (fun _ => 0))), (q_3, .inl (cy_4, 65536, .inl (fun _ => 0))), (q_5, .inl (cy_6, 16384, .inl (fun _ => 0))), (q_7, .inl (cy_8, 8192, .inl (fun _ => 0))), (q_9, .inl (cy_10, 8, .inl (fun _ => 0))), (q_11, .inl (cy_12, 4096, .inl (fun _ => 0)))] := hD
  have hK : va_K (dC, dI) vwCl [(cy_2, .byte), (cy_4, .byte), (cy_6, .byte), (cy_8, .byte), (cy_10, .int), (cy_12, .boolean)] s := hK
  refine W.widen (k := 6) (n := 102408) (by omega) (by omega) ?_
  refine va_putF (D := (dC, dI)) (ci := 7) (v := .ref q_11) (ty := .array .boolean) (C := RX7) (T := TX7) (N := 26) hx hb hts in_X7_init_X7 tyX7 tyX7_ok nmX7 hown hK hP hD hS 0 rfl rfl 14 (by decide) (hts (.fieldLink RX7 27 "WorkspaceBoxModel" "outs" "[Z") (by decide +kernel)) (fun _ h9 => h9) rfl hin rfl (by decide +kernel) rfl rfl (Nat.le_of_ble_eq_true rfl) dX7_init_53 (fun H locs hP hD hS => ?_)
  have hP : va_P (dC, dI) vwCl [(y, .inr (7, [.int 0, .ref q_1, .ref q_3, .ref q_5, .ref q_7, .int 0, .int 0, .int 0, .int 0, .int 0, .ref q_9, .int 0, .int 0, .int 0, .ref q_11, .null, .int 0, .int 0, .int 0, .int 0, .int 0, .int 0, .null, .int 0, .null, .int 0])), (q_1, .inl (cy_2, 8192, .inl (fun _ => 0))), (q_3, .inl (cy_4, 65536, .inl (fun _ => 0))), (q_5, .inl (cy_6, 16384, .inl (fun _ => 0))), (q_7, .inl (cy_8, 8192, .inl (fun _ => 0))), (q_9, .inl (cy_10, 8, .inl (fun _ => 0))), (q_11, .inl (cy_12, 4096, .inl (fun _ => 0)))] H := hP
  have hD : va_D A [(y, .inr (7, [.int 0, .ref q_1, .ref q_3, .ref q_5, .ref q_7, .int 0, .int 0, .int 0, .int 0, .int 0, .ref q_9, .int 0, .int 0, .int 0, .ref q_11, .null, .int 0, .int 0, .int 0, .int 0, .int 0, .int 0, .null, .int 0, .null, .int 0])), (q_1, .inl (cy_2, 8192, .inl (fun _ => 0))), (q_3, .inl (cy_4, 65536, .inl (fun _ => 0))), (q_5, .inl (cy_6, 16384, .inl (fun _ => 0))), (q_7, .inl (cy_8, 8192, .inl (fun _ => 0))), (q_9, .inl (cy_10, 8, .inl (fun _ => 0))), (q_11, .inl (cy_12, 4096, .inl (fun _ => 0)))] := hD
  refine lv_aload_n hx hb dX7_init_56 rfl (lv_at hl 0 rfl) ?_
  refine lv_bipush (v := 64) hx hb dX7_init_57 (by decide) ?_
  refine va_newa (atype := .boolean) (N' := 64) (ty := .boolean) (a0 := (64, .inl (fun _ => 0))) hx hb (hts (.arrayClass .boolean) (by decide +kernel)) rfl hK hP hD hS hA (fun _ => rfl) (by decide) (by decide) (Nat.le_of_ble_eq_true rfl) (Nat.le_of_ble_eq_true rfl) (Nat.le_of_ble_eq_true rfl) dX7_init_59 (fun q_13 cy_14 H hK hP hD hS => ?_)
  have hP : va_P (dC, dI) vwCl [(y, .inr (7, [.int 0, .ref q_1, .ref q_3, .ref q_5, .ref q_7, .int 0, .int 0, .int 0, .int 0, .int 0, .ref q_9, .int 0, .int 0, .int 0, .ref q_11, .null, .int 0, .int 0, .int 0, .int 0, .int 0, .int 0, .null, .int 0, .null, .int 0])), (q_1, .inl (cy_2, 8192, .inl (fun _ => 0))), (q_3, .inl (cy_4, 65536, .inl (fun _ => 0))), (q_5, .inl (cy_6, 16384, .inl (fun _ => 0))), (q_7, .inl (cy_8, 8192, .inl (fun _ => 0))), (q_9, .inl (cy_10, 8, .inl (fun _ => 0))), (q_11, .inl (cy_12, 4096, .inl (fun _ => 0))), (q_13, .inl (cy_14, 64, .inl (fun _ => 0)))] H := hP
  have hD : va_D A [(y, .inr (7, [.int 0, .ref q_1, .ref q_3, .ref q_5, .ref q_7, .int 0, .int 0, .int 0, .int 0, .int 0, .ref q_9, .int 0, .int 0, .int 0, .ref q_11, .null, .int 0, .int 0, .int 0, .int 0, .int 0, .int 0, .null, .int 0, .null, .int 0])), (q_1, .inl (cy_2, 8192, .inl (fun _ => 0))), (q_3, .inl (cy_4, 65536, .inl (fun _ => 0))), (q_5, .inl (cy_6, 16384, .inl (fun _ => 0))), (q_7, .inl (cy_8, 8192, .inl (fun _ => 0))), (q_9, .inl (cy_10, 8, .inl (fun _ => 0))), (q_11, .inl (cy_12, 4096, .inl (fun _ => 0))), (q_13, .inl (cy_14, 64, .inl (fun _ => 0)))] := hD
  have hK : va_K (dC, dI) vwCl [(cy_2, .byte), (cy_4, .byte), (cy_6, .byte), (cy_8, .byte), (cy_10, .int), (cy_12, .boolean), (cy_14, .boolean)] s := hK
  refine W.widen (k := 7) (n := 102472) (by omega) (by omega) ?_
  refine va_putF (D := (dC, dI)) (ci := 7) (v := .ref q_13) (ty := .array .boolean) (C := RX7) (T := TX7) (N := 26) hx hb hts in_X7_init_X7 tyX7 tyX7_ok nmX7 hown hK hP hD hS 0 rfl rfl 15 (by decide) (hts (.fieldLink RX7 31 "WorkspaceBoxModel" "keys" "[Z") (by decide +kernel)) (fun _ h9 => h9) rfl hin rfl (by decide +kernel) rfl rfl (Nat.le_of_ble_eq_true rfl) dX7_init_61 (fun H locs hP hD hS => ?_)
  have hP : va_P (dC, dI) vwCl [(y, .inr (7, [.int 0, .ref q_1, .ref q_3, .ref q_5, .ref q_7, .int 0, .int 0, .int 0, .int 0, .int 0, .ref q_9, .int 0, .int 0, .int 0, .ref q_11, .ref q_13, .int 0, .int 0, .int 0, .int 0, .int 0, .int 0, .null, .int 0, .null, .int 0])), (q_1, .inl (cy_2, 8192, .inl (fun _ => 0))), (q_3, .inl (cy_4, 65536, .inl (fun _ => 0))), (q_5, .inl (cy_6, 16384, .inl (fun _ => 0))), (q_7, .inl (cy_8, 8192, .inl (fun _ => 0))), (q_9, .inl (cy_10, 8, .inl (fun _ => 0))), (q_11, .inl (cy_12, 4096, .inl (fun _ => 0))), (q_13, .inl (cy_14, 64, .inl (fun _ => 0)))] H := hP
  have hD : va_D A [(y, .inr (7, [.int 0, .ref q_1, .ref q_3, .ref q_5, .ref q_7, .int 0, .int 0, .int 0, .int 0, .int 0, .ref q_9, .int 0, .int 0, .int 0, .ref q_11, .ref q_13, .int 0, .int 0, .int 0, .int 0, .int 0, .int 0, .null, .int 0, .null, .int 0])), (q_1, .inl (cy_2, 8192, .inl (fun _ => 0))), (q_3, .inl (cy_4, 65536, .inl (fun _ => 0))), (q_5, .inl (cy_6, 16384, .inl (fun _ => 0))), (q_7, .inl (cy_8, 8192, .inl (fun _ => 0))), (q_9, .inl (cy_10, 8, .inl (fun _ => 0))), (q_11, .inl (cy_12, 4096, .inl (fun _ => 0))), (q_13, .inl (cy_14, 64, .inl (fun _ => 0)))] := hD
  refine lv_aload_n hx hb dX7_init_64 rfl (lv_at hl 0 rfl) ?_
  refine lv_iconst (v := 2) hx hb dX7_init_65 (by decide) ?_
  refine va_put (D := (dC, dI)) (ci := 7) (v := .int 2) (ty := .int) (C := RX7) (T := TX7) (N := 26) hx hb hts in_X7_init_X7 tyX7 tyX7_ok nmX7 hown hK hP hD hS 0 rfl rfl 19 (by decide) (hts (.fieldLink RX7 34 "WorkspaceBoxModel" "how" "I") (by decide +kernel)) (fun _ h9 => h9) rfl (by decide +kernel) rfl rfl (Nat.le_of_ble_eq_true rfl) dX7_init_66 (fun H locs hP hD hS => ?_)
  have hP : va_P (dC, dI) vwCl [(y, .inr (7, [.int 0, .ref q_1, .ref q_3, .ref q_5, .ref q_7, .int 0, .int 0, .int 0, .int 0, .int 0, .ref q_9, .int 0, .int 0, .int 0, .ref q_11, .ref q_13, .int 0, .int 0, .int 0, .int 2, .int 0, .int 0, .null, .int 0, .null, .int 0])), (q_1, .inl (cy_2, 8192, .inl (fun _ => 0))), (q_3, .inl (cy_4, 65536, .inl (fun _ => 0))), (q_5, .inl (cy_6, 16384, .inl (fun _ => 0))), (q_7, .inl (cy_8, 8192, .inl (fun _ => 0))), (q_9, .inl (cy_10, 8, .inl (fun _ => 0))), (q_11, .inl (cy_12, 4096, .inl (fun _ => 0))), (q_13, .inl (cy_14, 64, .inl (fun _ => 0)))] H := hP
  have hD : va_D A [(y, .inr (7, [.int 0, .ref q_1, .ref q_3, .ref q_5, .ref q_7, .int 0, .int 0, .int 0, .int 0, .int 0, .ref q_9, .int 0, .int 0, .int 0, .ref q_11, .ref q_13, .int 0, .int 0, .int 0, .int 2, .int 0, .int 0, .null, .int 0, .null, .int 0])), (q_1, .inl (cy_2, 8192, .inl (fun _ => 0))), (q_3, .inl (cy_4, 65536, .inl (fun _ => 0))), (q_5, .inl (cy_6, 16384, .inl (fun _ => 0))), (q_7, .inl (cy_8, 8192, .inl (fun _ => 0))), (q_9, .inl (cy_10, 8, .inl (fun _ => 0))), (q_11, .inl (cy_12, 4096, .inl (fun _ => 0))), (q_13, .inl (cy_14, 64, .inl (fun _ => 0)))] := hD
  refine lv_aload_n hx hb dX7_init_69 rfl (lv_at hl 0 rfl) ?_
  refine lv_bipush (v := 16) hx hb dX7_init_70 (by decide) ?_
  refine va_newa (atype := .boolean) (N' := 16) (ty := .boolean) (a0 := (16, .inl (fun _ => 0))) hx hb (hts (.arrayClass .boolean) (by decide +kernel)) rfl hK hP hD hS hA (fun _ => rfl) (by decide) (by decide) (Nat.le_of_ble_eq_true rfl) (Nat.le_of_ble_eq_true rfl) (Nat.le_of_ble_eq_true rfl) dX7_init_72 (fun q_15 cy_16 H hK hP hD hS => ?_)
  have hP : va_P (dC, dI) vwCl [(y, .inr (7, [.int 0, .ref q_1, .ref q_3, .ref q_5, .ref q_7, .int 0, .int 0, .int 0, .int 0, .int 0, .ref q_9, .int 0, .int 0, .int 0, .ref q_11, .ref q_13, .int 0, .int 0, .int 0, .int 2, .int 0, .int 0, .null, .int 0, .null, .int 0])), (q_1, .inl (cy_2, 8192, .inl (fun _ => 0))), (q_3, .inl (cy_4, 65536, .inl (fun _ => 0))), (q_5, .inl (cy_6, 16384, .inl (fun _ => 0))), (q_7, .inl (cy_8, 8192, .inl (fun _ => 0))), (q_9, .inl (cy_10, 8, .inl (fun _ => 0))), (q_11, .inl (cy_12, 4096, .inl (fun _ => 0))), (q_13, .inl (cy_14, 64, .inl (fun _ => 0))), (q_15, .inl (cy_16, 16, .inl (fun _ => 0)))] H := hP
  have hD : va_D A [(y, .inr (7, [.int 0, .ref q_1, .ref q_3, .ref q_5, .ref q_7, .int 0, .int 0, .int 0, .int 0, .int 0, .ref q_9, .int 0, .int 0, .int 0, .ref q_11, .ref q_13, .int 0, .int 0, .int 0, .int 2, .int 0, .int 0, .null, .int 0, .null, .int 0])), (q_1, .inl (cy_2, 8192, .inl (fun _ => 0))), (q_3, .inl (cy_4, 65536, .inl (fun _ => 0))), (q_5, .inl (cy_6, 16384, .inl (fun _ => 0))), (q_7, .inl (cy_8, 8192, .inl (fun _ => 0))), (q_9, .inl (cy_10, 8, .inl (fun _ => 0))), (q_11, .inl (cy_12, 4096, .inl (fun _ => 0))), (q_13, .inl (cy_14, 64, .inl (fun _ => 0))), (q_15, .inl (cy_16, 16, .inl (fun _ => 0)))] := hD
  have hK : va_K (dC, dI) vwCl [(cy_2, .byte), (cy_4, .byte), (cy_6, .byte), (cy_8, .byte), (cy_10, .int), (cy_12, .boolean), (cy_14, .boolean), (cy_16, .boolean)] s := hK
  refine W.widen (k := 8) (n := 102488) (by omega) (by omega) ?_
  refine va_putF (D := (dC, dI)) (ci := 7) (v := .ref q_15) (ty := .array .boolean) (C := RX7) (T := TX7) (N := 26) hx hb hts in_X7_init_X7 tyX7 tyX7_ok nmX7 hown hK hP hD hS 0 rfl rfl 22 (by decide) (hts (.fieldLink RX7 38 "WorkspaceBoxModel" "asked" "[Z") (by decide +kernel)) (fun _ h9 => h9) rfl hin rfl (by decide +kernel) rfl rfl (Nat.le_of_ble_eq_true rfl) dX7_init_74 (fun H locs hP hD hS => ?_)
  have hP : va_P (dC, dI) vwCl [(y, .inr (7, [.int 0, .ref q_1, .ref q_3, .ref q_5, .ref q_7, .int 0, .int 0, .int 0, .int 0, .int 0, .ref q_9, .int 0, .int 0, .int 0, .ref q_11, .ref q_13, .int 0, .int 0, .int 0, .int 2, .int 0, .int 0, .ref q_15, .int 0, .null, .int 0])), (q_1, .inl (cy_2, 8192, .inl (fun _ => 0))), (q_3, .inl (cy_4, 65536, .inl (fun _ => 0))), (q_5, .inl (cy_6, 16384, .inl (fun _ => 0))), (q_7, .inl (cy_8, 8192, .inl (fun _ => 0))), (q_9, .inl (cy_10, 8, .inl (fun _ => 0))), (q_11, .inl (cy_12, 4096, .inl (fun _ => 0))), (q_13, .inl (cy_14, 64, .inl (fun _ => 0))), (q_15, .inl (cy_16, 16, .inl (fun _ => 0)))] H := hP
  have hD : va_D A [(y, .inr (7, [.int 0, .ref q_1, .ref q_3, .ref q_5, .ref q_7, .int 0, .int 0, .int 0, .int 0, .int 0, .ref q_9, .int 0, .int 0, .int 0, .ref q_11, .ref q_13, .int 0, .int 0, .int 0, .int 2, .int 0, .int 0, .ref q_15, .int 0, .null, .int 0])), (q_1, .inl (cy_2, 8192, .inl (fun _ => 0))), (q_3, .inl (cy_4, 65536, .inl (fun _ => 0))), (q_5, .inl (cy_6, 16384, .inl (fun _ => 0))), (q_7, .inl (cy_8, 8192, .inl (fun _ => 0))), (q_9, .inl (cy_10, 8, .inl (fun _ => 0))), (q_11, .inl (cy_12, 4096, .inl (fun _ => 0))), (q_13, .inl (cy_14, 64, .inl (fun _ => 0))), (q_15, .inl (cy_16, 16, .inl (fun _ => 0)))] := hD
  refine lv_aload_n hx hb dX7_init_77 rfl (lv_at hl 0 rfl) ?_
  refine lv_sipush (v := 1000) hx hb dX7_init_78 (by decide) ?_
  refine va_newa (atype := .int) (N' := 1000) (ty := .int) (a0 := (1000, .inl (fun _ => 0))) hx hb (hts (.arrayClass .int) (by decide +kernel)) rfl hK hP hD hS hA (fun _ => rfl) (by decide) (by decide) (Nat.le_of_ble_eq_true rfl) (Nat.le_of_ble_eq_true rfl) (Nat.le_of_ble_eq_true rfl) dX7_init_81 (fun q_17 cy_18 H hK hP hD hS => ?_)
  have hP : va_P (dC, dI) vwCl [(y, .inr (7, [.int 0, .ref q_1, .ref q_3, .ref q_5, .ref q_7, .int 0, .int 0, .int 0, .int 0, .int 0, .ref q_9, .int 0, .int 0, .int 0, .ref q_11, .ref q_13, .int 0, .int 0, .int 0, .int 2, .int 0, .int 0, .ref q_15, .int 0, .null, .int 0])), (q_1, .inl (cy_2, 8192, .inl (fun _ => 0))), (q_3, .inl (cy_4, 65536, .inl (fun _ => 0))), (q_5, .inl (cy_6, 16384, .inl (fun _ => 0))), (q_7, .inl (cy_8, 8192, .inl (fun _ => 0))), (q_9, .inl (cy_10, 8, .inl (fun _ => 0))), (q_11, .inl (cy_12, 4096, .inl (fun _ => 0))), (q_13, .inl (cy_14, 64, .inl (fun _ => 0))), (q_15, .inl (cy_16, 16, .inl (fun _ => 0))), (q_17, .inl (cy_18, 1000, .inl (fun _ => 0)))] H := hP
  have hD : va_D A [(y, .inr (7, [.int 0, .ref q_1, .ref q_3, .ref q_5, .ref q_7, .int 0, .int 0, .int 0, .int 0, .int 0, .ref q_9, .int 0, .int 0, .int 0, .ref q_11, .ref q_13, .int 0, .int 0, .int 0, .int 2, .int 0, .int 0, .ref q_15, .int 0, .null, .int 0])), (q_1, .inl (cy_2, 8192, .inl (fun _ => 0))), (q_3, .inl (cy_4, 65536, .inl (fun _ => 0))), (q_5, .inl (cy_6, 16384, .inl (fun _ => 0))), (q_7, .inl (cy_8, 8192, .inl (fun _ => 0))), (q_9, .inl (cy_10, 8, .inl (fun _ => 0))), (q_11, .inl (cy_12, 4096, .inl (fun _ => 0))), (q_13, .inl (cy_14, 64, .inl (fun _ => 0))), (q_15, .inl (cy_16, 16, .inl (fun _ => 0))), (q_17, .inl (cy_18, 1000, .inl (fun _ => 0)))] := hD
  have hK : va_K (dC, dI) vwCl [(cy_2, .byte), (cy_4, .byte), (cy_6, .byte), (cy_8, .byte), (cy_10, .int), (cy_12, .boolean), (cy_14, .boolean), (cy_16, .boolean), (cy_18, .int)] s := hK
  refine W.widen (k := 9) (n := 103488) (by omega) (by omega) ?_
  refine va_putF (D := (dC, dI)) (ci := 7) (v := .ref q_17) (ty := .array .int) (C := RX7) (T := TX7) (N := 26) hx hb hts in_X7_init_X7 tyX7 tyX7_ok nmX7 hown hK hP hD hS 0 rfl rfl 24 (by decide) (hts (.fieldLink RX7 41 "WorkspaceBoxModel" "tape" "[I") (by decide +kernel)) (fun _ h9 => h9) rfl hin rfl (by decide +kernel) rfl rfl (Nat.le_of_ble_eq_true rfl) dX7_init_83 (fun H locs hP hD hS => ?_)
  have hP : va_P (dC, dI) vwCl [(y, .inr (7, [.int 0, .ref q_1, .ref q_3, .ref q_5, .ref q_7, .int 0, .int 0, .int 0, .int 0, .int 0, .ref q_9, .int 0, .int 0, .int 0, .ref q_11, .ref q_13, .int 0, .int 0, .int 0, .int 2, .int 0, .int 0, .ref q_15, .int 0, .ref q_17, .int 0])), (q_1, .inl (cy_2, 8192, .inl (fun _ => 0))), (q_3, .inl (cy_4, 65536, .inl (fun _ => 0))), (q_5, .inl (cy_6, 16384, .inl (fun _ => 0))), (q_7, .inl (cy_8, 8192, .inl (fun _ => 0))), (q_9, .inl (cy_10, 8, .inl (fun _ => 0))), (q_11, .inl (cy_12, 4096, .inl (fun _ => 0))), (q_13, .inl (cy_14, 64, .inl (fun _ => 0))), (q_15, .inl (cy_16, 16, .inl (fun _ => 0))), (q_17, .inl (cy_18, 1000, .inl (fun _ => 0)))] H := hP
  have hD : va_D A [(y, .inr (7, [.int 0, .ref q_1, .ref q_3, .ref q_5, .ref q_7, .int 0, .int 0, .int 0, .int 0, .int 0, .ref q_9, .int 0, .int 0, .int 0, .ref q_11, .ref q_13, .int 0, .int 0, .int 0, .int 2, .int 0, .int 0, .ref q_15, .int 0, .ref q_17, .int 0])), (q_1, .inl (cy_2, 8192, .inl (fun _ => 0))), (q_3, .inl (cy_4, 65536, .inl (fun _ => 0))), (q_5, .inl (cy_6, 16384, .inl (fun _ => 0))), (q_7, .inl (cy_8, 8192, .inl (fun _ => 0))), (q_9, .inl (cy_10, 8, .inl (fun _ => 0))), (q_11, .inl (cy_12, 4096, .inl (fun _ => 0))), (q_13, .inl (cy_14, 64, .inl (fun _ => 0))), (q_15, .inl (cy_16, 16, .inl (fun _ => 0))), (q_17, .inl (cy_18, 1000, .inl (fun _ => 0)))] := hD
  have hP9 := hP.sub (ws' := [(y, .inr (7, [.int 0, .ref q_1, .ref q_3, .ref q_5, .ref q_7, .int 0, .int 0, .int 0, .int 0, .int 0, .ref q_9, .int 0, .int 0, .int 0, .ref q_11, .ref q_13, .int 0, .int 0, .int 0, .int 2, .int 0, .int 0, .ref q_15, .int 0, .ref q_17, .int 0])), (q_1, .inl (cy_2, 8192, .inl (fun _ => 0))), (q_3, .inl (cy_4, 65536, .inl (fun _ => 0))), (q_5, .inl (cy_6, 16384, .inl (fun _ => 0))), (q_7, .inl (cy_8, 8192, .inl (fun _ => 0))), (q_9, .inl (cy_10, 8, .inl (fun _ => 0))), (q_11, .inl (cy_12, 4096, .inl (fun _ => 0))), (q_13, .inl (cy_14, 64, .inl (fun _ => 0))), (q_15, .inl (cy_16, 16, .inl (fun _ => 0))), (q_17, .inl (cy_18, 1000, .inl (fun _ => 0)))]) [0, 1, 2, 3, 4, 5, 6, 7, 8, 9] rfl
  have hD9 := hD.sub (ws' := [(y, .inr (7, [.int 0, .ref q_1, .ref q_3, .ref q_5, .ref q_7, .int 0, .int 0, .int 0, .int 0, .int 0, .ref q_9, .int 0, .int 0, .int 0, .ref q_11, .ref q_13, .int 0, .int 0, .int 0, .int 2, .int 0, .int 0, .ref q_15, .int 0, .ref q_17, .int 0])), (q_1, .inl (cy_2, 8192, .inl (fun _ => 0))), (q_3, .inl (cy_4, 65536, .inl (fun _ => 0))), (q_5, .inl (cy_6, 16384, .inl (fun _ => 0))), (q_7, .inl (cy_8, 8192, .inl (fun _ => 0))), (q_9, .inl (cy_10, 8, .inl (fun _ => 0))), (q_11, .inl (cy_12, 4096, .inl (fun _ => 0))), (q_13, .inl (cy_14, 64, .inl (fun _ => 0))), (q_15, .inl (cy_16, 16, .inl (fun _ => 0))), (q_17, .inl (cy_18, 1000, .inl (fun _ => 0)))]) [0, 1, 2, 3, 4, 5, 6, 7, 8, 9] (by decide) rfl
  have hK9 := hK.sub (tys' := [(cy_2, .byte), (cy_4, .byte), (cy_6, .byte), (cy_8, .byte), (cy_10, .int), (cy_12, .boolean), (cy_14, .boolean), (cy_16, .boolean), (cy_18, .int)]) [0, 1, 2, 3, 4, 5, 6, 7, 8] rfl
  refine W.widen (k := 9) (n := 103488) (by omega) (by omega) ?_
  exact W.vret hx hb hr (fun t ht hW => ⟨⟨(q_1, q_3, q_5, q_7, q_9, q_11, q_13, q_15, q_17, cy_2, cy_4, cy_6, cy_8, cy_10, cy_12, cy_14, cy_16, cy_18), rfl, trivial, by rw [ht]; exact hP9, va_K.moved hW.alike hK9, hD9⟩, hS.F ht⟩) hS.2.2 dX7_init_86

set_option maxHeartbeats 1000000 in
set_option maxRecDepth 100000 in
theorem m_in (l : Launch) (dC : Nat → ClassId) (dI : Nat → Nat → Nat) (y yo ya yv yg yp yu yk yq yt : Nat) (eo ea ev eg ep eu ek eq et : ClassId) (p0 : Int32) (p1 : Int32) (p2 : Int32) (sz : Nat)  : Met l yX7_in wsX7_in ({ frames := 0, cells := 0, slots := 0, locals := 0 }) (va_Pc [.int p0, .int p1, .int p2] (fun U => U.heap.size = sz ∧ va_P (dC, dI) vwCl [] U.heap ∧ va_K (dC, dI) vwCl [] U ∧ va_D (fun _ => True) [])) (va_Qi (fun (r : Int32) (_ : Unit) => (r = 1 ∧ ¬ p0 < p1 ∧ ¬ p2 < p0) ∨ (r = 0 ∧ (p0 < p1 ∨ p2 < p0))) (fun (u : Unit) (t : State) => va_P (dC, dI) vwCl [] t.heap ∧ va_K (dC, dI) vwCl [] t ∧ va_D (va_A [] sz) []) (va_A [] sz)) 0 0 (va_A [] sz) := by
  refine Met.ofW (cc := cX7_in) (maxL := 3) (ret := (some .boolean)) (by decide) rfl ?_
  intro p e s m args below meth c s₁ B hml hv
  obtain ⟨rfl, hsz, hP, hK, hD0⟩ := hv
  have hx := B.exec
  have hb := B.bytes
  have hr := B.returns
  have hts := atoms_spec (ws := wsX7_in) B.pre
  have hown : s.vm.findClass RX7 = some m.cls := findClass_of_methodNamed B.named
  have hlocks := B.notSynchronized
  subst hsz
  have hD := hD0.self (sz := s.heap.size)
  generalize hAe : va_A [] s.heap.size = A at hD ⊢
  have hA : ∀ q : Nat, s.heap.size ≤ q → A q := fun q h => by rw [← hAe]; exact Or.inr h
  have hS : va_S A s.heap s.heap [] := va_S.rf
  have hP : va_P (dC, dI) vwCl [] s.heap := hP
  have hl := lv_entry ([.int p0, .int p1, .int p2]) (n := 3) (Nat.le_of_ble_eq_true rfl)
  rw [lg_entry_eq]
  generalize (lg_sl ([.int p0, .int p1, .int p2]) ++ List.replicate (3 - (lg_sl ([.int p0, .int p1, .int p2])).length) Slot.unset).toArray = ls at hl ⊢
  have hl : lv_has ls 3 [(0, .int p0), (1, .int p1), (2, .int p2)] := hl
  refine lv_iload_n hx hb dX7_in_0 rfl (lv_at hl 0 rfl) ?_
  refine lv_iload_n hx hb dX7_in_1 rfl (lv_at hl 1 rfl) ?_
  refine lv_icmp_lt (tgt := 14) hx hb dX7_in_2 (by decide) (fun c2_1 => ?_) (fun c2_1 => ?_)
  · refine lv_iconst (v := 0) hx hb dX7_in_14 (by decide) ?_
    have hP9 := hP.sub (ws' := []) [] rfl
    have hD9 := hD.sub (ws' := []) [] (by decide) rfl
    have hK9 := hK.sub (tys' := []) [] rfl
    exact W.zret (v := 0) hx hb hr rfl (fun t ht hW => ⟨⟨0, (), rfl, by simp_all, by rw [ht]; exact hP9, va_K.moved hW.alike hK9, hD9⟩, hS.F ht⟩) hS.2.2 dX7_in_15
  · refine lv_iload_n hx hb dX7_in_5 rfl (lv_at hl 0 rfl) ?_
    refine lv_iload_n hx hb dX7_in_6 rfl (lv_at hl 2 rfl) ?_
    refine lv_icmp_gt (tgt := 14) hx hb dX7_in_7 (by decide) (fun c7_2 => ?_) (fun c7_2 => ?_)
    · refine lv_iconst (v := 0) hx hb dX7_in_14 (by decide) ?_
      have hP9 := hP.sub (ws' := []) [] rfl
      have hD9 := hD.sub (ws' := []) [] (by decide) rfl
      have hK9 := hK.sub (tys' := []) [] rfl
      exact W.zret (v := 0) hx hb hr rfl (fun t ht hW => ⟨⟨0, (), rfl, by simp_all, by rw [ht]; exact hP9, va_K.moved hW.alike hK9, hD9⟩, hS.F ht⟩) hS.2.2 dX7_in_15
    · refine lv_iconst (v := 1) hx hb dX7_in_10 (by decide) ?_
      refine lv_goto (tgt := 15) hx hb dX7_in_11 (by decide) ?_
      have hP9 := hP.sub (ws' := []) [] rfl
      have hD9 := hD.sub (ws' := []) [] (by decide) rfl
      have hK9 := hK.sub (tys' := []) [] rfl
      exact W.zret (v := 1) hx hb hr rfl (fun t ht hW => ⟨⟨1, (), rfl, by simp_all, by rw [ht]; exact hP9, va_K.moved hW.alike hK9, hD9⟩, hS.F ht⟩) hS.2.2 dX7_in_15

set_option maxHeartbeats 1000000 in
set_option maxRecDepth 100000 in
theorem m_isPort (l : Launch) (dC : Nat → ClassId) (dI : Nat → Nat → Nat) (y yo ya yv yg yp yu yk yq yt : Nat) (eo ea ev eg ep eu ek eq et : ClassId) (p0 : Int32) (sz : Nat) (hq : p0 < 34816) : Met l yX7_isPort wsX7_isPort ({ frames := 1, cells := 0, slots := 0, locals := 22 }) (va_Pc [.int p0] (fun U => U.heap.size = sz ∧ va_P (dC, dI) vwCl [] U.heap ∧ va_K (dC, dI) vwCl [] U ∧ va_D (fun _ => True) [])) (va_Qi (fun (r : Int32) (_ : Unit) => r = 0) (fun (u : Unit) (t : State) => va_P (dC, dI) vwCl [] t.heap ∧ va_K (dC, dI) vwCl [] t ∧ va_D (va_A [] sz) []) (va_A [] sz)) 0 0 (va_A [] sz) := by
  refine Met.ofW (cc := cX7_isPort) (maxL := 1) (ret := (some .boolean)) (by decide) rfl ?_
  intro p e s m args below meth c s₁ B hml hv
  obtain ⟨rfl, hsz, hP, hK, hD0⟩ := hv
  have hx := B.exec
  have hb := B.bytes
  have hr := B.returns
  have hts := atoms_spec (ws := wsX7_isPort) B.pre
  have hown : s.vm.findClass RX7 = some m.cls := findClass_of_methodNamed B.named
  have hlocks := B.notSynchronized
  subst hsz
  have hD := hD0.self (sz := s.heap.size)
  generalize hAe : va_A [] s.heap.size = A at hD ⊢
  have hA : ∀ q : Nat, s.heap.size ≤ q → A q := fun q h => by rw [← hAe]; exact Or.inr h
  have hS : va_S A s.heap s.heap [] := va_S.rf
  have hP : va_P (dC, dI) vwCl [] s.heap := hP
  have hl := lv_entry ([.int p0]) (n := 1) (Nat.le_of_ble_eq_true rfl)
  rw [lg_entry_eq]
  generalize (lg_sl ([.int p0]) ++ List.replicate (1 - (lg_sl ([.int p0])).length) Slot.unset).toArray = ls at hl ⊢
  have hl : lv_has ls 1 [(0, .int p0)] := hl
  refine lv_iload_n hx hb dX7_isPort_0 rfl (lv_at hl 0 rfl) ?_
  refine lv_ldc hx hb hown (hts (.constant RX7 54 (34816)) (by decide +kernel)) dX7_isPort_1 ?_
  refine lv_ldc hx hb hown (hts (.constant RX7 55 (40959)) (by decide +kernel)) dX7_isPort_3 ?_
  have hPc := hP.sub (ws' := []) [] rfl
  have hDc := hD.sub (ws' := []) [] (by decide) rfl
  have hKc := hK.sub (tys' := []) [] rfl
  have hFc := va_free (wc := []) hD hS hA [] rfl
  refine va_calli (va_runS (As := [.int p0, .int 34816, .int 40959]) (rest := []) ⟨hx, hb, hml, hown, hts⟩ (m_in l dC dI y yo ya yv yg yp yu yk yq yt eo ea ev eg ep eu ek eq et p0 34816 40959 s.heap.size) (va_cwS 3 hts gX7_isPort_X7_in rfl rfl rfl (by decide +kernel) ⟨Nat.le_of_ble_eq_true rfl, Nat.le_of_ble_eq_true rfl⟩) ⟨fun a U g mk q => by obtain ⟨q0, q1, qP, qK, qD⟩ := q; exact ⟨q0, q1, qP, va_K.moved (u := U) (U := U.calling g mk a) (Vm.Alike.refl U.vm) qK, qD⟩, fun U hU hW => ⟨rfl, by rw [hU], by rw [hU]; exact hPc, va_K.moved hW.alike hKc, hDc.weaken (fun _ _ _ _ => trivial)⟩⟩ rfl rfl hl.1 rfl (lv_room (Nat.le_of_ble_eq_true rfl)) dX7_isPort_5 ⟨Nat.le_of_ble_eq_true rfl, Nat.le_of_ble_eq_true rfl⟩) hS (fun q _ h => hFc q h) hFc (fun r_1 u t H1 locs ht hvm hw hB hz1 hk1 hS => ?_)
  obtain ⟨hP1, hK1, hD1⟩ := hB
  rw [ht] at hP1
  have hK1 := va_K.moved hvm.symm hK1
  try dsimp only at hw
  obtain ⟨hP, hD⟩ := va_join (wr := []) (w1 := []) hP hD [] [] rfl rfl (by decide) (by decide) hk1 hFc hP1 hD1
  have hK := (hK.sub (tys' := []) [] rfl).app hK1
  generalize H1 = H at hP hS ⊢
  have hP : va_P (dC, dI) vwCl [] H := hP
  have hD : va_D A [] := hD
  have hK : va_K (dC, dI) vwCl [] s := hK
  have hw_2 := hw
  rcases hw_2 with ⟨rfl, h8, h9⟩ | ⟨rfl, h8⟩
  · refine lv_if_eq (tgt := 21) hx hb dX7_isPort_8 (by decide) (fun h => absurd h (by decide)) (fun _ => ?_)
    refine lv_iload_n hx hb dX7_isPort_11 rfl (lv_at hl 0 rfl) ?_
    refine lv_iconst (v := 2) hx hb dX7_isPort_12 (by decide) ?_
    refine lv_irem hx hb dX7_isPort_13 (by decide) ?_
    refine lv_topi (fun y_3 ey_3 => ?_)
    refine lv_if_ne (tgt := 21) hx hb dX7_isPort_14 (by decide) (fun c14_4 => ?_) (fun c14_4 => ?_)
    · refine lv_iconst (v := 0) hx hb dX7_isPort_21 (by decide) ?_
      have hP9 := hP.sub (ws' := []) [] rfl
      have hD9 := hD.sub (ws' := []) [] (by decide) rfl
      have hK9 := hK.sub (tys' := []) [] rfl
      exact W.zret (v := 0) hx hb hr rfl (fun t ht hW => ⟨⟨0, (), rfl, by first | rfl | (exfalso; (try simp only [tI_34816] at *); (try simp only [fa_lt, fa_le, fa_eq, tI_m1, tI_0, tI_1, tI_2, tI_3, tI_4, tI_5, tI_7, tI_8, tI_10, tI_15, tI_16, tI_20, tI_31, tI_125, tI_191, tI_255, tI_256, tI_980, tI_1000, tI_4095, tI_4096, tI_8191, tI_8192, tI_16383, tI_16384, tI_32767, tI_32768, tI_33791, tI_33792, tI_40959, tI_40960, tI_65535, tI_65536] at hq); (try simp only [fa_lt, fa_le, fa_eq, tI_m1, tI_0, tI_1, tI_2, tI_3, tI_4, tI_5, tI_7, tI_8, tI_10, tI_15, tI_16, tI_20, tI_31, tI_125, tI_191, tI_255, tI_256, tI_980, tI_1000, tI_4095, tI_4096, tI_8191, tI_8192, tI_16383, tI_16384, tI_32767, tI_32768, tI_33791, tI_33792, tI_40959, tI_40960, tI_65535, tI_65536] at hw_2); (try simp only [fa_lt, fa_le, fa_eq, tI_m1, tI_0, tI_1, tI_2, tI_3, tI_4, tI_5, tI_7, tI_8, tI_10, tI_15, tI_16, tI_20, tI_31, tI_125, tI_191, tI_255, tI_256, tI_980, tI_1000, tI_4095, tI_4096, tI_8191, tI_8192, tI_16383, tI_16384, tI_32767, tI_32768, tI_33791, tI_33792, tI_40959, tI_40960, tI_65535, tI_65536] at h8); (try simp only [fa_lt, fa_le, fa_eq, tI_m1, tI_0, tI_1, tI_2, tI_3, tI_4, tI_5, tI_7, tI_8, tI_10, tI_15, tI_16, tI_20, tI_31, tI_125, tI_191, tI_255, tI_256, tI_980, tI_1000, tI_4095, tI_4096, tI_8191, tI_8192, tI_16383, tI_16384, tI_32767, tI_32768, tI_33791, tI_33792, tI_40959, tI_40960, tI_65535, tI_65536] at h9); (try simp only [fa_lt, fa_le, fa_eq, tI_m1, tI_0, tI_1, tI_2, tI_3, tI_4, tI_5, tI_7, tI_8, tI_10, tI_15, tI_16, tI_20, tI_31, tI_125, tI_191, tI_255, tI_256, tI_980, tI_1000, tI_4095, tI_4096, tI_8191, tI_8192, tI_16383, tI_16384, tI_32767, tI_32768, tI_33791, tI_33792, tI_40959, tI_40960, tI_65535, tI_65536] at c14_4); (try simp only [fa_lt, tI_34816] at hq); (try simp only [fa_lt, tI_34816] at h8); omega), by rw [ht]; exact hP9, va_K.moved hW.alike hK9, hD9⟩, hS.F ht⟩) hS.2.2 dX7_isPort_22
    · refine lv_iconst (v := 1) hx hb dX7_isPort_17 (by decide) ?_
      refine lv_goto (tgt := 22) hx hb dX7_isPort_18 (by decide) ?_
      have hP9 := hP.sub (ws' := []) [] rfl
      have hD9 := hD.sub (ws' := []) [] (by decide) rfl
      have hK9 := hK.sub (tys' := []) [] rfl
      exact W.zret (v := 1) hx hb hr rfl (fun t ht hW => ⟨⟨1, (), rfl, by first | rfl | (exfalso; (try simp only [tI_34816] at *); (try simp only [fa_lt, fa_le, fa_eq, tI_m1, tI_0, tI_1, tI_2, tI_3, tI_4, tI_5, tI_7, tI_8, tI_10, tI_15, tI_16, tI_20, tI_31, tI_125, tI_191, tI_255, tI_256, tI_980, tI_1000, tI_4095, tI_4096, tI_8191, tI_8192, tI_16383, tI_16384, tI_32767, tI_32768, tI_33791, tI_33792, tI_40959, tI_40960, tI_65535, tI_65536] at hq); (try simp only [fa_lt, fa_le, fa_eq, tI_m1, tI_0, tI_1, tI_2, tI_3, tI_4, tI_5, tI_7, tI_8, tI_10, tI_15, tI_16, tI_20, tI_31, tI_125, tI_191, tI_255, tI_256, tI_980, tI_1000, tI_4095, tI_4096, tI_8191, tI_8192, tI_16383, tI_16384, tI_32767, tI_32768, tI_33791, tI_33792, tI_40959, tI_40960, tI_65535, tI_65536] at hw_2); (try simp only [fa_lt, fa_le, fa_eq, tI_m1, tI_0, tI_1, tI_2, tI_3, tI_4, tI_5, tI_7, tI_8, tI_10, tI_15, tI_16, tI_20, tI_31, tI_125, tI_191, tI_255, tI_256, tI_980, tI_1000, tI_4095, tI_4096, tI_8191, tI_8192, tI_16383, tI_16384, tI_32767, tI_32768, tI_33791, tI_33792, tI_40959, tI_40960, tI_65535, tI_65536] at h8); (try simp only [fa_lt, fa_le, fa_eq, tI_m1, tI_0, tI_1, tI_2, tI_3, tI_4, tI_5, tI_7, tI_8, tI_10, tI_15, tI_16, tI_20, tI_31, tI_125, tI_191, tI_255, tI_256, tI_980, tI_1000, tI_4095, tI_4096, tI_8191, tI_8192, tI_16383, tI_16384, tI_32767, tI_32768, tI_33791, tI_33792, tI_40959, tI_40960, tI_65535, tI_65536] at h9); (try simp only [fa_lt, fa_le, fa_eq, tI_m1, tI_0, tI_1, tI_2, tI_3, tI_4, tI_5, tI_7, tI_8, tI_10, tI_15, tI_16, tI_20, tI_31, tI_125, tI_191, tI_255, tI_256, tI_980, tI_1000, tI_4095, tI_4096, tI_8191, tI_8192, tI_16383, tI_16384, tI_32767, tI_32768, tI_33791, tI_33792, tI_40959, tI_40960, tI_65535, tI_65536] at c14_4); (try simp only [fa_lt, tI_34816] at hq); (try simp only [fa_lt, tI_34816] at h8); omega), by rw [ht]; exact hP9, va_K.moved hW.alike hK9, hD9⟩, hS.F ht⟩) hS.2.2 dX7_isPort_22
  · refine lv_if_eq (tgt := 21) hx hb dX7_isPort_8 (by decide) (fun _ => ?_) (fun h => absurd (by decide) h)
    refine lv_iconst (v := 0) hx hb dX7_isPort_21 (by decide) ?_
    have hP9 := hP.sub (ws' := []) [] rfl
    have hD9 := hD.sub (ws' := []) [] (by decide) rfl
    have hK9 := hK.sub (tys' := []) [] rfl
    exact W.zret (v := 0) hx hb hr rfl (fun t ht hW => ⟨⟨0, (), rfl, by first | rfl | (exfalso; (try simp only [tI_34816] at *); (try simp only [fa_lt, fa_le, fa_eq, tI_m1, tI_0, tI_1, tI_2, tI_3, tI_4, tI_5, tI_7, tI_8, tI_10, tI_15, tI_16, tI_20, tI_31, tI_125, tI_191, tI_255, tI_256, tI_980, tI_1000, tI_4095, tI_4096, tI_8191, tI_8192, tI_16383, tI_16384, tI_32767, tI_32768, tI_33791, tI_33792, tI_40959, tI_40960, tI_65535, tI_65536] at hq); (try simp only [fa_lt, fa_le, fa_eq, tI_m1, tI_0, tI_1, tI_2, tI_3, tI_4, tI_5, tI_7, tI_8, tI_10, tI_15, tI_16, tI_20, tI_31, tI_125, tI_191, tI_255, tI_256, tI_980, tI_1000, tI_4095, tI_4096, tI_8191, tI_8192, tI_16383, tI_16384, tI_32767, tI_32768, tI_33791, tI_33792, tI_40959, tI_40960, tI_65535, tI_65536] at hw_2); (try simp only [fa_lt, fa_le, fa_eq, tI_m1, tI_0, tI_1, tI_2, tI_3, tI_4, tI_5, tI_7, tI_8, tI_10, tI_15, tI_16, tI_20, tI_31, tI_125, tI_191, tI_255, tI_256, tI_980, tI_1000, tI_4095, tI_4096, tI_8191, tI_8192, tI_16383, tI_16384, tI_32767, tI_32768, tI_33791, tI_33792, tI_40959, tI_40960, tI_65535, tI_65536] at h8); (try simp only [fa_lt, tI_34816] at hq); (try simp only [fa_lt, tI_34816] at h8); omega), by rw [ht]; exact hP9, va_K.moved hW.alike hK9, hD9⟩, hS.F ht⟩) hS.2.2 dX7_isPort_22

theorem in_X7_plain_X7 : ∀ w ∈ wsX70, w ∈ wsX7_plain := by decide +kernel
set_option maxHeartbeats 1000000 in
set_option maxRecDepth 100000 in
theorem m_plain (l : Launch) (dC : Nat → ClassId) (dI : Nat → Nat → Nat) (y yo ya yv yg yp yu yk yq yt : Nat) (eo ea ev eg ep eu ek eq et : ClassId) (p0 : Int32) (sz : Nat) (ha : ¬ p0 < 0) (hc : ¬ 65535 < p0) : Met l yX7_plain wsX7_plain ({ frames := 1, cells := 0, slots := 0, locals := 22 }) (va_Pc [.ref y, .int p0] (fun U => U.heap.size = sz ∧ va_P (dC, dI) vwCl [(y, .inr (7, [.int 0, .ref yo, .ref ya, .ref yv, .ref yg, .int 0, .int 0, .int 0, .int 0, .int 0, .ref yp, .int 0, .int 0, .int 0, .ref yu, .ref yk, .int 0, .int 0, .int 0, .int 2, .int 0, .int 0, .ref yq, .int 0, .ref yt, .int 0])), (yo, .inl (eo, 8192, .inl (fun _ => 0))), (ya, .inl (ea, 65536, .inl (fun _ => 0)))] U.heap ∧ va_K (dC, dI) vwCl [(eo, .byte), (ea, .byte)] U ∧ va_D (fun _ => True) [(y, .inr (7, [.int 0, .ref yo, .ref ya, .ref yv, .ref yg, .int 0, .int 0, .int 0, .int 0, .int 0, .ref yp, .int 0, .int 0, .int 0, .ref yu, .ref yk, .int 0, .int 0, .int 0, .int 2, .int 0, .int 0, .ref yq, .int 0, .ref yt, .int 0])), (yo, .inl (eo, 8192, .inl (fun _ => 0))), (ya, .inl (ea, 65536, .inl (fun _ => 0)))])) (va_Qi (fun (r : Int32) (_ : Unit) => r = 0) (fun (u : Unit) (t : State) => va_P (dC, dI) vwCl [(y, .inr (7, [.int 0, .ref yo, .ref ya, .ref yv, .ref yg, .int 0, .int 0, .int 0, .int 0, .int 0, .ref yp, .int 0, .int 0, .int 0, .ref yu, .ref yk, .int 0, .int 0, .int 0, .int 2, .int 0, .int 0, .ref yq, .int 0, .ref yt, .int 0])), (yo, .inl (eo, 8192, .inl (fun _ => 0))), (ya, .inl (ea, 65536, .inl (fun _ => 0)))] t.heap ∧ va_K (dC, dI) vwCl [(eo, .byte), (ea, .byte)] t ∧ va_D (va_A [(y, .inr (7, [.int 0, .ref yo, .ref ya, .ref yv, .ref yg, .int 0, .int 0, .int 0, .int 0, .int 0, .ref yp, .int 0, .int 0, .int 0, .ref yu, .ref yk, .int 0, .int 0, .int 0, .int 2, .int 0, .int 0, .ref yq, .int 0, .ref yt, .int 0])), (yo, .inl (eo, 8192, .inl (fun _ => 0))), (ya, .inl (ea, 65536, .inl (fun _ => 0)))] sz) [(y, .inr (7, [.int 0, .ref yo, .ref ya, .ref yv, .ref yg, .int 0, .int 0, .int 0, .int 0, .int 0, .ref yp, .int 0, .int 0, .int 0, .ref yu, .ref yk, .int 0, .int 0, .int 0, .int 2, .int 0, .int 0, .ref yq, .int 0, .ref yt, .int 0])), (yo, .inl (eo, 8192, .inl (fun _ => 0))), (ya, .inl (ea, 65536, .inl (fun _ => 0)))]) (va_A [(y, .inr (7, [.int 0, .ref yo, .ref ya, .ref yv, .ref yg, .int 0, .int 0, .int 0, .int 0, .int 0, .ref yp, .int 0, .int 0, .int 0, .ref yu, .ref yk, .int 0, .int 0, .int 0, .int 2, .int 0, .int 0, .ref yq, .int 0, .ref yt, .int 0])), (yo, .inl (eo, 8192, .inl (fun _ => 0))), (ya, .inl (ea, 65536, .inl (fun _ => 0)))] sz)) 0 0 (va_A [(y, .inr (7, [.int 0, .ref yo, .ref ya, .ref yv, .ref yg, .int 0, .int 0, .int 0, .int 0, .int 0, .ref yp, .int 0, .int 0, .int 0, .ref yu, .ref yk, .int 0, .int 0, .int 0, .int 2, .int 0, .int 0, .ref yq, .int 0, .ref yt, .int 0])), (yo, .inl (eo, 8192, .inl (fun _ => 0))), (ya, .inl (ea, 65536, .inl (fun _ => 0)))] sz) := by
  refine Met.ofW (cc := cX7_plain) (maxL := 2) (ret := (some .int)) (by decide) rfl ?_
  intro p e s m args below meth c s₁ B hml hv
  obtain ⟨rfl, hsz, hP, hK, hD0⟩ := hv
  have hx := B.exec
  have hb := B.bytes
  have hr := B.returns
  have hts := atoms_spec (ws := wsX7_plain) B.pre
  have hown : s.vm.findClass RX7 = some m.cls := findClass_of_methodNamed B.named
  have hlocks := B.notSynchronized
  subst hsz
  have hD := hD0.self (sz := s.heap.size)
  generalize hAe : va_A [(y, .inr (7, [.int 0, .ref yo, .ref ya, .ref yv, .ref yg, .int 0, .int 0, .int 0, .int 0, .int 0, .ref yp, .int 0, .int 0, .int 0, .ref yu, .ref yk, .int 0, .int 0, .int 0, .int 2, .int 0, .int 0, .ref yq, .int 0, .ref yt, .int 0])), (yo, .inl (eo, 8192, .inl (fun _ => 0))), (ya, .inl (ea, 65536, .inl (fun _ => 0)))] s.heap.size = A at hD ⊢
  have hA : ∀ q : Nat, s.heap.size ≤ q → A q := fun q h => by rw [← hAe]; exact Or.inr h
  have hS : va_S A s.heap s.heap [] := va_S.rf
  have hP : va_P (dC, dI) vwCl [(y, .inr (7, [.int 0, .ref yo, .ref ya, .ref yv, .ref yg, .int 0, .int 0, .int 0, .int 0, .int 0, .ref yp, .int 0, .int 0, .int 0, .ref yu, .ref yk, .int 0, .int 0, .int 0, .int 2, .int 0, .int 0, .ref yq, .int 0, .ref yt, .int 0])), (yo, .inl (eo, 8192, .inl (fun _ => 0))), (ya, .inl (ea, 65536, .inl (fun _ => 0)))] s.heap := hP
  have hl := lv_entry ([.ref y, .int p0]) (n := 2) (Nat.le_of_ble_eq_true rfl)
  rw [lg_entry_eq]
  generalize (lg_sl ([.ref y, .int p0]) ++ List.replicate (2 - (lg_sl ([.ref y, .int p0])).length) Slot.unset).toArray = ls at hl ⊢
  have hl : lv_has ls 2 [(0, .ref y), (1, .int p0)] := hl
  refine lv_iload_n hx hb dX7_plain_0 rfl (lv_at hl 1 rfl) ?_
  refine lv_sipush (v := 8192) hx hb dX7_plain_1 (by decide) ?_
  refine lv_icmp_ge (tgt := 18) hx hb dX7_plain_4 (by decide) (fun c4_1 => ?_) (fun c4_1 => ?_)
  · refine lv_iload_n hx hb dX7_plain_18 rfl (lv_at hl 1 rfl) ?_
    refine lv_sipush (v := 8192) hx hb dX7_plain_19 (by decide) ?_
    refine lv_sipush (v := 16383) hx hb dX7_plain_22 (by decide) ?_
    have hPc := hP.sub (ws' := []) [] rfl
    have hDc := hD.sub (ws' := []) [] (by decide) rfl
    have hKc := hK.sub (tys' := []) [] rfl
    have hFc := va_free (wc := []) hD hS hA [] rfl
    refine va_calli (va_runS (As := [.int p0, .int 8192, .int 16383]) (rest := []) ⟨hx, hb, hml, hown, hts⟩ (m_in l dC dI y yo ya yv yg yp yu yk yq yt eo ea ev eg ep eu ek eq et p0 8192 16383 s.heap.size) (va_cwS 3 hts gX7_plain_X7_in rfl rfl rfl (by decide +kernel) ⟨Nat.le_of_ble_eq_true rfl, Nat.le_of_ble_eq_true rfl⟩) ⟨fun a U g mk q => by obtain ⟨q0, q1, qP, qK, qD⟩ := q; exact ⟨q0, q1, qP, va_K.moved (u := U) (U := U.calling g mk a) (Vm.Alike.refl U.vm) qK, qD⟩, fun U hU hW => ⟨rfl, by rw [hU], by rw [hU]; exact hPc, va_K.moved hW.alike hKc, hDc.weaken (fun _ _ _ _ => trivial)⟩⟩ rfl rfl hl.1 rfl (lv_room (Nat.le_of_ble_eq_true rfl)) dX7_plain_25 ⟨Nat.le_of_ble_eq_true rfl, Nat.le_of_ble_eq_true rfl⟩) hS (fun q _ h => hFc q h) hFc (fun r_2 u t H1 locs ht hvm hw hB hz1 hk1 hS => ?_)
    obtain ⟨hP1, hK1, hD1⟩ := hB
    rw [ht] at hP1
    have hK1 := va_K.moved hvm.symm hK1
    try dsimp only at hw
    obtain ⟨hP, hD⟩ := va_join (wr := [(y, .inr (7, [.int 0, .ref yo, .ref ya, .ref yv, .ref yg, .int 0, .int 0, .int 0, .int 0, .int 0, .ref yp, .int 0, .int 0, .int 0, .ref yu, .ref yk, .int 0, .int 0, .int 0, .int 2, .int 0, .int 0, .ref yq, .int 0, .ref yt, .int 0])), (yo, .inl (eo, 8192, .inl (fun _ => 0))), (ya, .inl (ea, 65536, .inl (fun _ => 0)))]) (w1 := []) hP hD [] [0, 1, 2] rfl rfl (by decide) (by decide) hk1 hFc hP1 hD1
    have hK := (hK.sub (tys' := [(eo, .byte), (ea, .byte)]) [0, 1] rfl).app hK1
    generalize H1 = H at hP hS ⊢
    have hP : va_P (dC, dI) vwCl [(y, .inr (7, [.int 0, .ref yo, .ref ya, .ref yv, .ref yg, .int 0, .int 0, .int 0, .int 0, .int 0, .ref yp, .int 0, .int 0, .int 0, .ref yu, .ref yk, .int 0, .int 0, .int 0, .int 2, .int 0, .int 0, .ref yq, .int 0, .ref yt, .int 0])), (yo, .inl (eo, 8192, .inl (fun _ => 0))), (ya, .inl (ea, 65536, .inl (fun _ => 0)))] H := hP
    have hD : va_D A [(y, .inr (7, [.int 0, .ref yo, .ref ya, .ref yv, .ref yg, .int 0, .int 0, .int 0, .int 0, .int 0, .ref yp, .int 0, .int 0, .int 0, .ref yu, .ref yk, .int 0, .int 0, .int 0, .int 2, .int 0, .int 0, .ref yq, .int 0, .ref yt, .int 0])), (yo, .inl (eo, 8192, .inl (fun _ => 0))), (ya, .inl (ea, 65536, .inl (fun _ => 0)))] := hD
    have hK : va_K (dC, dI) vwCl [(eo, .byte), (ea, .byte)] s := hK
    have hw_3 := hw
    rcases hw_3 with ⟨rfl, h8, h9⟩ | ⟨rfl, h8⟩
    · refine lv_if_ne (tgt := 37) hx hb dX7_plain_28 (by decide) (fun _ => ?_) (fun h => absurd h (by decide))
      refine lv_aload_n hx hb dX7_plain_37 rfl (lv_at hl 0 rfl) ?_
      refine va_get (D := (dC, dI)) (ci := 7) (v := .ref ya) (C := RX7) (T := TX7) (N := 26) hx hb hts in_X7_plain_X7 hown hK hP 0 rfl rfl 2 (by decide) (hts (.fieldLink RX7 14 "WorkspaceBoxModel" "ram" "[B") (by decide +kernel)) (fun _ h9 => h9) rfl dX7_plain_38 ?_
      refine lv_iload_n hx hb dX7_plain_41 rfl (lv_at hl 1 rfl) ?_
      refine va_bald hx hb hK hP 2 1 rfl rfl (vp_in_iff.mpr (by (try simp only [fa_lt, fa_le, fa_eq, tI_m1, tI_0, tI_1, tI_2, tI_3, tI_4, tI_5, tI_7, tI_8, tI_10, tI_15, tI_16, tI_20, tI_31, tI_125, tI_191, tI_255, tI_256, tI_980, tI_1000, tI_4095, tI_4096, tI_8191, tI_8192, tI_16383, tI_16384, tI_32767, tI_32768, tI_33791, tI_33792, tI_40959, tI_40960, tI_65535, tI_65536] at ha); (try simp only [fa_lt, fa_le, fa_eq, tI_m1, tI_0, tI_1, tI_2, tI_3, tI_4, tI_5, tI_7, tI_8, tI_10, tI_15, tI_16, tI_20, tI_31, tI_125, tI_191, tI_255, tI_256, tI_980, tI_1000, tI_4095, tI_4096, tI_8191, tI_8192, tI_16383, tI_16384, tI_32767, tI_32768, tI_33791, tI_33792, tI_40959, tI_40960, tI_65535, tI_65536] at hc); (try simp only [fa_lt, fa_le, fa_eq, tI_m1, tI_0, tI_1, tI_2, tI_3, tI_4, tI_5, tI_7, tI_8, tI_10, tI_15, tI_16, tI_20, tI_31, tI_125, tI_191, tI_255, tI_256, tI_980, tI_1000, tI_4095, tI_4096, tI_8191, tI_8192, tI_16383, tI_16384, tI_32767, tI_32768, tI_33791, tI_33792, tI_40959, tI_40960, tI_65535, tI_65536] at c4_1); (try simp only [fa_lt, fa_le, fa_eq, tI_m1, tI_0, tI_1, tI_2, tI_3, tI_4, tI_5, tI_7, tI_8, tI_10, tI_15, tI_16, tI_20, tI_31, tI_125, tI_191, tI_255, tI_256, tI_980, tI_1000, tI_4095, tI_4096, tI_8191, tI_8192, tI_16383, tI_16384, tI_32767, tI_32768, tI_33791, tI_33792, tI_40959, tI_40960, tI_65535, tI_65536] at hw_3); (try simp only [fa_lt, fa_le, fa_eq, tI_m1, tI_0, tI_1, tI_2, tI_3, tI_4, tI_5, tI_7, tI_8, tI_10, tI_15, tI_16, tI_20, tI_31, tI_125, tI_191, tI_255, tI_256, tI_980, tI_1000, tI_4095, tI_4096, tI_8191, tI_8192, tI_16383, tI_16384, tI_32767, tI_32768, tI_33791, tI_33792, tI_40959, tI_40960, tI_65535, tI_65536] at h8); (try simp only [fa_lt, fa_le, fa_eq, tI_m1, tI_0, tI_1, tI_2, tI_3, tI_4, tI_5, tI_7, tI_8, tI_10, tI_15, tI_16, tI_20, tI_31, tI_125, tI_191, tI_255, tI_256, tI_980, tI_1000, tI_4095, tI_4096, tI_8191, tI_8192, tI_16383, tI_16384, tI_32767, tI_32768, tI_33791, tI_33792, tI_40959, tI_40960, tI_65535, tI_65536] at h9); (try simp only [fa_lt, fa_le, fa_eq, tI_m1, tI_0, tI_1, tI_2, tI_3, tI_4, tI_5, tI_7, tI_8, tI_10, tI_15, tI_16, tI_20, tI_31, tI_125, tI_191, tI_255, tI_256, tI_980, tI_1000, tI_4095, tI_4096, tI_8191, tI_8192, tI_16383, tI_16384, tI_32767, tI_32768, tI_33791, tI_33792, tI_40959, tI_40960, tI_65535, tI_65536]); omega)) dX7_plain_42 ?_
      refine lv_topi (fun y_4 ey_4 => ?_)
      obtain rfl : y_4 = 0 := ey_4
      refine lv_sipush (v := 255) hx hb dX7_plain_43 (by decide) ?_
      refine lv_iand hx hb dX7_plain_46 ?_
      refine lv_topi (fun y_5 ey_5 => ?_)
      obtain rfl : y_5 = 0 := ey_5.trans (by decide)
      have hP9 := hP.sub (ws' := [(y, .inr (7, [.int 0, .ref yo, .ref ya, .ref yv, .ref yg, .int 0, .int 0, .int 0, .int 0, .int 0, .ref yp, .int 0, .int 0, .int 0, .ref yu, .ref yk, .int 0, .int 0, .int 0, .int 2, .int 0, .int 0, .ref yq, .int 0, .ref yt, .int 0])), (yo, .inl (eo, 8192, .inl (fun _ => 0))), (ya, .inl (ea, 65536, .inl (fun _ => 0)))]) [0, 1, 2] rfl
      have hD9 := hD.sub (ws' := [(y, .inr (7, [.int 0, .ref yo, .ref ya, .ref yv, .ref yg, .int 0, .int 0, .int 0, .int 0, .int 0, .ref yp, .int 0, .int 0, .int 0, .ref yu, .ref yk, .int 0, .int 0, .int 0, .int 2, .int 0, .int 0, .ref yq, .int 0, .ref yt, .int 0])), (yo, .inl (eo, 8192, .inl (fun _ => 0))), (ya, .inl (ea, 65536, .inl (fun _ => 0)))]) [0, 1, 2] (by decide) rfl
      have hK9 := hK.sub (tys' := [(eo, .byte), (ea, .byte)]) [0, 1] rfl
      exact W.iret (v := 0) hx hb hr (fun t ht hW => ⟨⟨0, (), rfl, rfl, by rw [ht]; exact hP9, va_K.moved hW.alike hK9, hD9⟩, hS.F ht⟩) hS.2.2 dX7_plain_47
    · refine lv_if_ne (tgt := 37) hx hb dX7_plain_28 (by decide) (fun h => absurd h (by decide)) (fun _ => ?_)
      refine lv_iload_n hx hb dX7_plain_31 rfl (lv_at hl 1 rfl) ?_
      refine lv_ldc hx hb hown (hts (.constant RX7 51 (40960)) (by decide +kernel)) dX7_plain_32 ?_
      refine lv_icmp_lt (tgt := 48) hx hb dX7_plain_34 (by decide) (fun c34_6 => ?_) (fun c34_6 => ?_)
      · refine lv_iload_n hx hb dX7_plain_48 rfl (lv_at hl 1 rfl) ?_
        refine lv_ldc hx hb hown (hts (.constant RX7 52 (32768)) (by decide +kernel)) dX7_plain_49 ?_
        refine lv_ldc hx hb hown (hts (.constant RX7 53 (33791)) (by decide +kernel)) dX7_plain_51 ?_
        have hPc := hP.sub (ws' := []) [] rfl
        have hDc := hD.sub (ws' := []) [] (by decide) rfl
        have hKc := hK.sub (tys' := []) [] rfl
        have hFc := va_free (wc := []) hD hS hA [] rfl
        refine va_calli (va_runS (As := [.int p0, .int 32768, .int 33791]) (rest := []) ⟨hx, hb, hml, hown, hts⟩ (m_in l dC dI y yo ya yv yg yp yu yk yq yt eo ea ev eg ep eu ek eq et p0 32768 33791 H.size) (va_cwS 3 hts gX7_plain_X7_in rfl rfl rfl (by decide +kernel) ⟨Nat.le_of_ble_eq_true rfl, Nat.le_of_ble_eq_true rfl⟩) ⟨fun a U g mk q => by obtain ⟨q0, q1, qP, qK, qD⟩ := q; exact ⟨q0, q1, qP, va_K.moved (u := U) (U := U.calling g mk a) (Vm.Alike.refl U.vm) qK, qD⟩, fun U hU hW => ⟨rfl, by rw [hU], by rw [hU]; exact hPc, va_K.moved hW.alike hKc, hDc.weaken (fun _ _ _ _ => trivial)⟩⟩ rfl rfl hl.1 rfl (lv_room (Nat.le_of_ble_eq_true rfl)) dX7_plain_53 ⟨Nat.le_of_ble_eq_true rfl, Nat.le_of_ble_eq_true rfl⟩) hS (fun q _ h => hFc q h) hFc (fun r_7 u t H1 locs ht hvm hw hB hz1 hk1 hS => ?_)
        obtain ⟨hP1, hK1, hD1⟩ := hB
        rw [ht] at hP1
        have hK1 := va_K.moved hvm.symm hK1
        try dsimp only at hw
        obtain ⟨hP, hD⟩ := va_join (wr := [(y, .inr (7, [.int 0, .ref yo, .ref ya, .ref yv, .ref yg, .int 0, .int 0, .int 0, .int 0, .int 0, .ref yp, .int 0, .int 0, .int 0, .ref yu, .ref yk, .int 0, .int 0, .int 0, .int 2, .int 0, .int 0, .ref yq, .int 0, .ref yt, .int 0])), (yo, .inl (eo, 8192, .inl (fun _ => 0))), (ya, .inl (ea, 65536, .inl (fun _ => 0)))]) (w1 := []) hP hD [] [0, 1, 2] rfl rfl (by decide) (by decide) hk1 hFc hP1 hD1
        have hK := (hK.sub (tys' := [(eo, .byte), (ea, .byte)]) [0, 1] rfl).app hK1
        generalize H1 = H at hP hS ⊢
        have hP : va_P (dC, dI) vwCl [(y, .inr (7, [.int 0, .ref yo, .ref ya, .ref yv, .ref yg, .int 0, .int 0, .int 0, .int 0, .int 0, .ref yp, .int 0, .int 0, .int 0, .ref yu, .ref yk, .int 0, .int 0, .int 0, .int 2, .int 0, .int 0, .ref yq, .int 0, .ref yt, .int 0])), (yo, .inl (eo, 8192, .inl (fun _ => 0))), (ya, .inl (ea, 65536, .inl (fun _ => 0)))] H := hP
        have hD : va_D A [(y, .inr (7, [.int 0, .ref yo, .ref ya, .ref yv, .ref yg, .int 0, .int 0, .int 0, .int 0, .int 0, .ref yp, .int 0, .int 0, .int 0, .ref yu, .ref yk, .int 0, .int 0, .int 0, .int 2, .int 0, .int 0, .ref yq, .int 0, .ref yt, .int 0])), (yo, .inl (eo, 8192, .inl (fun _ => 0))), (ya, .inl (ea, 65536, .inl (fun _ => 0)))] := hD
        have hK : va_K (dC, dI) vwCl [(eo, .byte), (ea, .byte)] s := hK
        have hw_8 := hw
        rcases hw_8 with ⟨rfl, h8, h9⟩ | ⟨rfl, h8⟩
        · refine lv_if_eq (tgt := 79) hx hb dX7_plain_56 (by decide) (fun h => absurd h (by decide)) (fun _ => ?_)
          refine lv_aload_n hx hb dX7_plain_59 rfl (lv_at hl 0 rfl) ?_
          refine va_get (D := (dC, dI)) (ci := 7) (v := .ref ya) (C := RX7) (T := TX7) (N := 26) hx hb hts in_X7_plain_X7 hown hK hP 0 rfl rfl 2 (by decide) (hts (.fieldLink RX7 14 "WorkspaceBoxModel" "ram" "[B") (by decide +kernel)) (fun _ h9 => h9) rfl dX7_plain_60 ?_
          refine lv_ldc hx hb hown (hts (.constant RX7 52 (32768)) (by decide +kernel)) dX7_plain_63 ?_
          refine lv_iload_n hx hb dX7_plain_65 rfl (lv_at hl 1 rfl) ?_
          refine lv_sipush (v := 256) hx hb dX7_plain_66 (by decide) ?_
          refine lv_irem hx hb dX7_plain_69 (by decide) ?_
          refine lv_topi (fun y_9 ey_9 => ?_)
          refine lv_iadd hx hb dX7_plain_70 ?_
          refine lv_topi (fun y_10 ey_10 => ?_)
          refine va_bald hx hb hK hP 2 1 rfl rfl (by subst_vars; exact in_pad ha) dX7_plain_71 ?_
          refine lv_topi (fun y_11 ey_11 => ?_)
          obtain rfl : y_11 = 0 := ey_11
          refine lv_sipush (v := 255) hx hb dX7_plain_72 (by decide) ?_
          refine lv_iand hx hb dX7_plain_75 ?_
          refine lv_topi (fun y_12 ey_12 => ?_)
          obtain rfl : y_12 = 0 := ey_12.trans (by decide)
          refine lv_goto (tgt := 80) hx hb dX7_plain_76 (by decide) ?_
          have hP9 := hP.sub (ws' := [(y, .inr (7, [.int 0, .ref yo, .ref ya, .ref yv, .ref yg, .int 0, .int 0, .int 0, .int 0, .int 0, .ref yp, .int 0, .int 0, .int 0, .ref yu, .ref yk, .int 0, .int 0, .int 0, .int 2, .int 0, .int 0, .ref yq, .int 0, .ref yt, .int 0])), (yo, .inl (eo, 8192, .inl (fun _ => 0))), (ya, .inl (ea, 65536, .inl (fun _ => 0)))]) [0, 1, 2] rfl
          have hD9 := hD.sub (ws' := [(y, .inr (7, [.int 0, .ref yo, .ref ya, .ref yv, .ref yg, .int 0, .int 0, .int 0, .int 0, .int 0, .ref yp, .int 0, .int 0, .int 0, .ref yu, .ref yk, .int 0, .int 0, .int 0, .int 2, .int 0, .int 0, .ref yq, .int 0, .ref yt, .int 0])), (yo, .inl (eo, 8192, .inl (fun _ => 0))), (ya, .inl (ea, 65536, .inl (fun _ => 0)))]) [0, 1, 2] (by decide) rfl
          have hK9 := hK.sub (tys' := [(eo, .byte), (ea, .byte)]) [0, 1] rfl
          exact W.iret (v := 0) hx hb hr (fun t ht hW => ⟨⟨0, (), rfl, rfl, by rw [ht]; exact hP9, va_K.moved hW.alike hK9, hD9⟩, hS.F ht⟩) hS.2.2 dX7_plain_80
        · refine lv_if_eq (tgt := 79) hx hb dX7_plain_56 (by decide) (fun _ => ?_) (fun h => absurd (by decide) h)
          refine lv_iconst (v := 0) hx hb dX7_plain_79 (by decide) ?_
          have hP9 := hP.sub (ws' := [(y, .inr (7, [.int 0, .ref yo, .ref ya, .ref yv, .ref yg, .int 0, .int 0, .int 0, .int 0, .int 0, .ref yp, .int 0, .int 0, .int 0, .ref yu, .ref yk, .int 0, .int 0, .int 0, .int 2, .int 0, .int 0, .ref yq, .int 0, .ref yt, .int 0])), (yo, .inl (eo, 8192, .inl (fun _ => 0))), (ya, .inl (ea, 65536, .inl (fun _ => 0)))]) [0, 1, 2] rfl
          have hD9 := hD.sub (ws' := [(y, .inr (7, [.int 0, .ref yo, .ref ya, .ref yv, .ref yg, .int 0, .int 0, .int 0, .int 0, .int 0, .ref yp, .int 0, .int 0, .int 0, .ref yu, .ref yk, .int 0, .int 0, .int 0, .int 2, .int 0, .int 0, .ref yq, .int 0, .ref yt, .int 0])), (yo, .inl (eo, 8192, .inl (fun _ => 0))), (ya, .inl (ea, 65536, .inl (fun _ => 0)))]) [0, 1, 2] (by decide) rfl
          have hK9 := hK.sub (tys' := [(eo, .byte), (ea, .byte)]) [0, 1] rfl
          exact W.iret (v := 0) hx hb hr (fun t ht hW => ⟨⟨0, (), rfl, rfl, by rw [ht]; exact hP9, va_K.moved hW.alike hK9, hD9⟩, hS.F ht⟩) hS.2.2 dX7_plain_80
      · refine lv_aload_n hx hb dX7_plain_37 rfl (lv_at hl 0 rfl) ?_
        refine va_get (D := (dC, dI)) (ci := 7) (v := .ref ya) (C := RX7) (T := TX7) (N := 26) hx hb hts in_X7_plain_X7 hown hK hP 0 rfl rfl 2 (by decide) (hts (.fieldLink RX7 14 "WorkspaceBoxModel" "ram" "[B") (by decide +kernel)) (fun _ h9 => h9) rfl dX7_plain_38 ?_
        refine lv_iload_n hx hb dX7_plain_41 rfl (lv_at hl 1 rfl) ?_
        refine va_bald hx hb hK hP 2 1 rfl rfl (vp_in_iff.mpr (by (try simp only [fa_lt, fa_le, fa_eq, tI_m1, tI_0, tI_1, tI_2, tI_3, tI_4, tI_5, tI_7, tI_8, tI_10, tI_15, tI_16, tI_20, tI_31, tI_125, tI_191, tI_255, tI_256, tI_980, tI_1000, tI_4095, tI_4096, tI_8191, tI_8192, tI_16383, tI_16384, tI_32767, tI_32768, tI_33791, tI_33792, tI_40959, tI_40960, tI_65535, tI_65536] at ha); (try simp only [fa_lt, fa_le, fa_eq, tI_m1, tI_0, tI_1, tI_2, tI_3, tI_4, tI_5, tI_7, tI_8, tI_10, tI_15, tI_16, tI_20, tI_31, tI_125, tI_191, tI_255, tI_256, tI_980, tI_1000, tI_4095, tI_4096, tI_8191, tI_8192, tI_16383, tI_16384, tI_32767, tI_32768, tI_33791, tI_33792, tI_40959, tI_40960, tI_65535, tI_65536] at hc); (try simp only [fa_lt, fa_le, fa_eq, tI_m1, tI_0, tI_1, tI_2, tI_3, tI_4, tI_5, tI_7, tI_8, tI_10, tI_15, tI_16, tI_20, tI_31, tI_125, tI_191, tI_255, tI_256, tI_980, tI_1000, tI_4095, tI_4096, tI_8191, tI_8192, tI_16383, tI_16384, tI_32767, tI_32768, tI_33791, tI_33792, tI_40959, tI_40960, tI_65535, tI_65536] at c4_1); (try simp only [fa_lt, fa_le, fa_eq, tI_m1, tI_0, tI_1, tI_2, tI_3, tI_4, tI_5, tI_7, tI_8, tI_10, tI_15, tI_16, tI_20, tI_31, tI_125, tI_191, tI_255, tI_256, tI_980, tI_1000, tI_4095, tI_4096, tI_8191, tI_8192, tI_16383, tI_16384, tI_32767, tI_32768, tI_33791, tI_33792, tI_40959, tI_40960, tI_65535, tI_65536] at hw_3); (try simp only [fa_lt, fa_le, fa_eq, tI_m1, tI_0, tI_1, tI_2, tI_3, tI_4, tI_5, tI_7, tI_8, tI_10, tI_15, tI_16, tI_20, tI_31, tI_125, tI_191, tI_255, tI_256, tI_980, tI_1000, tI_4095, tI_4096, tI_8191, tI_8192, tI_16383, tI_16384, tI_32767, tI_32768, tI_33791, tI_33792, tI_40959, tI_40960, tI_65535, tI_65536] at h8); (try simp only [fa_lt, fa_le, fa_eq, tI_m1, tI_0, tI_1, tI_2, tI_3, tI_4, tI_5, tI_7, tI_8, tI_10, tI_15, tI_16, tI_20, tI_31, tI_125, tI_191, tI_255, tI_256, tI_980, tI_1000, tI_4095, tI_4096, tI_8191, tI_8192, tI_16383, tI_16384, tI_32767, tI_32768, tI_33791, tI_33792, tI_40959, tI_40960, tI_65535, tI_65536] at c34_6); (try simp only [fa_lt, fa_le, fa_eq, tI_m1, tI_0, tI_1, tI_2, tI_3, tI_4, tI_5, tI_7, tI_8, tI_10, tI_15, tI_16, tI_20, tI_31, tI_125, tI_191, tI_255, tI_256, tI_980, tI_1000, tI_4095, tI_4096, tI_8191, tI_8192, tI_16383, tI_16384, tI_32767, tI_32768, tI_33791, tI_33792, tI_40959, tI_40960, tI_65535, tI_65536]); omega)) dX7_plain_42 ?_
        refine lv_topi (fun y_13 ey_13 => ?_)
        obtain rfl : y_13 = 0 := ey_13
        refine lv_sipush (v := 255) hx hb dX7_plain_43 (by decide) ?_
        refine lv_iand hx hb dX7_plain_46 ?_
        refine lv_topi (fun y_14 ey_14 => ?_)
        obtain rfl : y_14 = 0 := ey_14.trans (by decide)
        have hP9 := hP.sub (ws' := [(y, .inr (7, [.int 0, .ref yo, .ref ya, .ref yv, .ref yg, .int 0, .int 0, .int 0, .int 0, .int 0, .ref yp, .int 0, .int 0, .int 0, .ref yu, .ref yk, .int 0, .int 0, .int 0, .int 2, .int 0, .int 0, .ref yq, .int 0, .ref yt, .int 0])), (yo, .inl (eo, 8192, .inl (fun _ => 0))), (ya, .inl (ea, 65536, .inl (fun _ => 0)))]) [0, 1, 2] rfl
        have hD9 := hD.sub (ws' := [(y, .inr (7, [.int 0, .ref yo, .ref ya, .ref yv, .ref yg, .int 0, .int 0, .int 0, .int 0, .int 0, .ref yp, .int 0, .int 0, .int 0, .ref yu, .ref yk, .int 0, .int 0, .int 0, .int 2, .int 0, .int 0, .ref yq, .int 0, .ref yt, .int 0])), (yo, .inl (eo, 8192, .inl (fun _ => 0))), (ya, .inl (ea, 65536, .inl (fun _ => 0)))]) [0, 1, 2] (by decide) rfl
        have hK9 := hK.sub (tys' := [(eo, .byte), (ea, .byte)]) [0, 1] rfl
        exact W.iret (v := 0) hx hb hr (fun t ht hW => ⟨⟨0, (), rfl, rfl, by rw [ht]; exact hP9, va_K.moved hW.alike hK9, hD9⟩, hS.F ht⟩) hS.2.2 dX7_plain_47
  · refine lv_aload_n hx hb dX7_plain_7 rfl (lv_at hl 0 rfl) ?_
    refine va_get (D := (dC, dI)) (ci := 7) (v := .ref yo) (C := RX7) (T := TX7) (N := 26) hx hb hts in_X7_plain_X7 hown hK hP 0 rfl rfl 1 (by decide) (hts (.fieldLink RX7 7 "WorkspaceBoxModel" "rom" "[B") (by decide +kernel)) (fun _ h9 => h9) rfl dX7_plain_8 ?_
    refine lv_iload_n hx hb dX7_plain_11 rfl (lv_at hl 1 rfl) ?_
    refine va_bald hx hb hK hP 1 0 rfl rfl (vp_in_iff.mpr (by (try simp only [fa_lt, fa_le, fa_eq, tI_m1, tI_0, tI_1, tI_2, tI_3, tI_4, tI_5, tI_7, tI_8, tI_10, tI_15, tI_16, tI_20, tI_31, tI_125, tI_191, tI_255, tI_256, tI_980, tI_1000, tI_4095, tI_4096, tI_8191, tI_8192, tI_16383, tI_16384, tI_32767, tI_32768, tI_33791, tI_33792, tI_40959, tI_40960, tI_65535, tI_65536] at ha); (try simp only [fa_lt, fa_le, fa_eq, tI_m1, tI_0, tI_1, tI_2, tI_3, tI_4, tI_5, tI_7, tI_8, tI_10, tI_15, tI_16, tI_20, tI_31, tI_125, tI_191, tI_255, tI_256, tI_980, tI_1000, tI_4095, tI_4096, tI_8191, tI_8192, tI_16383, tI_16384, tI_32767, tI_32768, tI_33791, tI_33792, tI_40959, tI_40960, tI_65535, tI_65536] at hc); (try simp only [fa_lt, fa_le, fa_eq, tI_m1, tI_0, tI_1, tI_2, tI_3, tI_4, tI_5, tI_7, tI_8, tI_10, tI_15, tI_16, tI_20, tI_31, tI_125, tI_191, tI_255, tI_256, tI_980, tI_1000, tI_4095, tI_4096, tI_8191, tI_8192, tI_16383, tI_16384, tI_32767, tI_32768, tI_33791, tI_33792, tI_40959, tI_40960, tI_65535, tI_65536] at c4_1); (try simp only [fa_lt, fa_le, fa_eq, tI_m1, tI_0, tI_1, tI_2, tI_3, tI_4, tI_5, tI_7, tI_8, tI_10, tI_15, tI_16, tI_20, tI_31, tI_125, tI_191, tI_255, tI_256, tI_980, tI_1000, tI_4095, tI_4096, tI_8191, tI_8192, tI_16383, tI_16384, tI_32767, tI_32768, tI_33791, tI_33792, tI_40959, tI_40960, tI_65535, tI_65536]); omega)) dX7_plain_12 ?_
    refine lv_topi (fun y_15 ey_15 => ?_)
    obtain rfl : y_15 = 0 := ey_15
    refine lv_sipush (v := 255) hx hb dX7_plain_13 (by decide) ?_
    refine lv_iand hx hb dX7_plain_16 ?_
    refine lv_topi (fun y_16 ey_16 => ?_)
    obtain rfl : y_16 = 0 := ey_16.trans (by decide)
    have hP9 := hP.sub (ws' := [(y, .inr (7, [.int 0, .ref yo, .ref ya, .ref yv, .ref yg, .int 0, .int 0, .int 0, .int 0, .int 0, .ref yp, .int 0, .int 0, .int 0, .ref yu, .ref yk, .int 0, .int 0, .int 0, .int 2, .int 0, .int 0, .ref yq, .int 0, .ref yt, .int 0])), (yo, .inl (eo, 8192, .inl (fun _ => 0))), (ya, .inl (ea, 65536, .inl (fun _ => 0)))]) [0, 1, 2] rfl
    have hD9 := hD.sub (ws' := [(y, .inr (7, [.int 0, .ref yo, .ref ya, .ref yv, .ref yg, .int 0, .int 0, .int 0, .int 0, .int 0, .ref yp, .int 0, .int 0, .int 0, .ref yu, .ref yk, .int 0, .int 0, .int 0, .int 2, .int 0, .int 0, .ref yq, .int 0, .ref yt, .int 0])), (yo, .inl (eo, 8192, .inl (fun _ => 0))), (ya, .inl (ea, 65536, .inl (fun _ => 0)))]) [0, 1, 2] (by decide) rfl
    have hK9 := hK.sub (tys' := [(eo, .byte), (ea, .byte)]) [0, 1] rfl
    exact W.iret (v := 0) hx hb hr (fun t ht hW => ⟨⟨0, (), rfl, rfl, by rw [ht]; exact hP9, va_K.moved hW.alike hK9, hD9⟩, hS.F ht⟩) hS.2.2 dX7_plain_17

set_option maxHeartbeats 1000000 in
set_option maxRecDepth 100000 in
theorem m_plainWord (l : Launch) (dC : Nat → ClassId) (dI : Nat → Nat → Nat) (y yo ya yv yg yp yu yk yq yt : Nat) (eo ea ev eg ep eu ek eq et : ClassId) (p0 : Int32) (sz : Nat) (hq : p0 ∈ romA) : Met l yX7_plainWord wsX7_plainWord ({ frames := 2, cells := 0, slots := 0, locals := 43 }) (va_Pc [.ref y, .int p0] (fun U => U.heap.size = sz ∧ va_P (dC, dI) vwCl [(y, .inr (7, [.int 0, .ref yo, .ref ya, .ref yv, .ref yg, .int 0, .int 0, .int 0, .int 0, .int 0, .ref yp, .int 0, .int 0, .int 0, .ref yu, .ref yk, .int 0, .int 0, .int 0, .int 2, .int 0, .int 0, .ref yq, .int 0, .ref yt, .int 0])), (yo, .inl (eo, 8192, .inl (fun _ => 0))), (ya, .inl (ea, 65536, .inl (fun _ => 0)))] U.heap ∧ va_K (dC, dI) vwCl [(eo, .byte), (ea, .byte)] U ∧ va_D (fun _ => True) [(y, .inr (7, [.int 0, .ref yo, .ref ya, .ref yv, .ref yg, .int 0, .int 0, .int 0, .int 0, .int 0, .ref yp, .int 0, .int 0, .int 0, .ref yu, .ref yk, .int 0, .int 0, .int 0, .int 2, .int 0, .int 0, .ref yq, .int 0, .ref yt, .int 0])), (yo, .inl (eo, 8192, .inl (fun _ => 0))), (ya, .inl (ea, 65536, .inl (fun _ => 0)))])) (va_Qi (fun (r : Int32) (_ : Unit) => r = 0) (fun (u : Unit) (t : State) => va_P (dC, dI) vwCl [(y, .inr (7, [.int 0, .ref yo, .ref ya, .ref yv, .ref yg, .int 0, .int 0, .int 0, .int 0, .int 0, .ref yp, .int 0, .int 0, .int 0, .ref yu, .ref yk, .int 0, .int 0, .int 0, .int 2, .int 0, .int 0, .ref yq, .int 0, .ref yt, .int 0])), (yo, .inl (eo, 8192, .inl (fun _ => 0))), (ya, .inl (ea, 65536, .inl (fun _ => 0)))] t.heap ∧ va_K (dC, dI) vwCl [(eo, .byte), (ea, .byte)] t ∧ va_D (va_A [(y, .inr (7, [.int 0, .ref yo, .ref ya, .ref yv, .ref yg, .int 0, .int 0, .int 0, .int 0, .int 0, .ref yp, .int 0, .int 0, .int 0, .ref yu, .ref yk, .int 0, .int 0, .int 0, .int 2, .int 0, .int 0, .ref yq, .int 0, .ref yt, .int 0])), (yo, .inl (eo, 8192, .inl (fun _ => 0))), (ya, .inl (ea, 65536, .inl (fun _ => 0)))] sz) [(y, .inr (7, [.int 0, .ref yo, .ref ya, .ref yv, .ref yg, .int 0, .int 0, .int 0, .int 0, .int 0, .ref yp, .int 0, .int 0, .int 0, .ref yu, .ref yk, .int 0, .int 0, .int 0, .int 2, .int 0, .int 0, .ref yq, .int 0, .ref yt, .int 0])), (yo, .inl (eo, 8192, .inl (fun _ => 0))), (ya, .inl (ea, 65536, .inl (fun _ => 0)))]) (va_A [(y, .inr (7, [.int 0, .ref yo, .ref ya, .ref yv, .ref yg, .int 0, .int 0, .int 0, .int 0, .int 0, .ref yp, .int 0, .int 0, .int 0, .ref yu, .ref yk, .int 0, .int 0, .int 0, .int 2, .int 0, .int 0, .ref yq, .int 0, .ref yt, .int 0])), (yo, .inl (eo, 8192, .inl (fun _ => 0))), (ya, .inl (ea, 65536, .inl (fun _ => 0)))] sz)) 0 0 (va_A [(y, .inr (7, [.int 0, .ref yo, .ref ya, .ref yv, .ref yg, .int 0, .int 0, .int 0, .int 0, .int 0, .ref yp, .int 0, .int 0, .int 0, .ref yu, .ref yk, .int 0, .int 0, .int 0, .int 2, .int 0, .int 0, .ref yq, .int 0, .ref yt, .int 0])), (yo, .inl (eo, 8192, .inl (fun _ => 0))), (ya, .inl (ea, 65536, .inl (fun _ => 0)))] sz) := by
  refine Met.ofW (cc := cX7_plainWord) (maxL := 2) (ret := (some .int)) (by decide) rfl ?_
  intro p e s m args below meth c s₁ B hml hv
  obtain ⟨rfl, hsz, hP, hK, hD0⟩ := hv
  have hx := B.exec
  have hb := B.bytes
  have hr := B.returns
  have hts := atoms_spec (ws := wsX7_plainWord) B.pre
  have hown : s.vm.findClass RX7 = some m.cls := findClass_of_methodNamed B.named
  have hlocks := B.notSynchronized
  subst hsz
  have hD := hD0.self (sz := s.heap.size)
  generalize hAe : va_A [(y, .inr (7, [.int 0, .ref yo, .ref ya, .ref yv, .ref yg, .int 0, .int 0, .int 0, .int 0, .int 0, .ref yp, .int 0, .int 0, .int 0, .ref yu, .ref yk, .int 0, .int 0, .int 0, .int 2, .int 0, .int 0, .ref yq, .int 0, .ref yt, .int 0])), (yo, .inl (eo, 8192, .inl (fun _ => 0))), (ya, .inl (ea, 65536, .inl (fun _ => 0)))] s.heap.size = A at hD ⊢
  have hA : ∀ q : Nat, s.heap.size ≤ q → A q := fun q h => by rw [← hAe]; exact Or.inr h
  have hS : va_S A s.heap s.heap [] := va_S.rf
  have hP : va_P (dC, dI) vwCl [(y, .inr (7, [.int 0, .ref yo, .ref ya, .ref yv, .ref yg, .int 0, .int 0, .int 0, .int 0, .int 0, .ref yp, .int 0, .int 0, .int 0, .ref yu, .ref yk, .int 0, .int 0, .int 0, .int 2, .int 0, .int 0, .ref yq, .int 0, .ref yt, .int 0])), (yo, .inl (eo, 8192, .inl (fun _ => 0))), (ya, .inl (ea, 65536, .inl (fun _ => 0)))] s.heap := hP
  have hl := lv_entry ([.ref y, .int p0]) (n := 2) (Nat.le_of_ble_eq_true rfl)
  rw [lg_entry_eq]
  generalize (lg_sl ([.ref y, .int p0]) ++ List.replicate (2 - (lg_sl ([.ref y, .int p0])).length) Slot.unset).toArray = ls at hl ⊢
  have hl : lv_has ls 2 [(0, .ref y), (1, .int p0)] := hl
  refine lv_iload_n hx hb dX7_plainWord_0 rfl (lv_at hl 1 rfl) ?_
  have hPc := hP.sub (ws' := []) [] rfl
  have hDc := hD.sub (ws' := []) [] (by decide) rfl
  have hKc := hK.sub (tys' := []) [] rfl
  have hFc := va_free (wc := []) hD hS hA [] rfl
  refine va_calli (va_runS (As := [.int p0]) (rest := []) ⟨hx, hb, hml, hown, hts⟩ (m_isPort l dC dI y yo ya yv yg yp yu yk yq yt eo ea ev eg ep eu ek eq et p0 s.heap.size (romA_4 _ hq).2.1) (va_cwS 1 hts gX7_plainWord_X7_isPort rfl rfl rfl (by decide +kernel) ⟨Nat.le_of_ble_eq_true rfl, Nat.le_of_ble_eq_true rfl⟩) ⟨fun a U g mk q => by obtain ⟨q0, q1, qP, qK, qD⟩ := q; exact ⟨q0, q1, qP, va_K.moved (u := U) (U := U.calling g mk a) (Vm.Alike.refl U.vm) qK, qD⟩, fun U hU hW => ⟨rfl, by rw [hU], by rw [hU]; exact hPc, va_K.moved hW.alike hKc, hDc.weaken (fun _ _ _ _ => trivial)⟩⟩ rfl rfl hl.1 rfl (lv_room (Nat.le_of_ble_eq_true rfl)) dX7_plainWord_1 ⟨Nat.le_of_ble_eq_true rfl, Nat.le_of_ble_eq_true rfl⟩) hS (fun q _ h => hFc q h) hFc (fun r_1 u t H1 locs ht hvm hw hB hz1 hk1 hS => ?_)
  obtain ⟨hP1, hK1, hD1⟩ := hB
  rw [ht] at hP1
  have hK1 := va_K.moved hvm.symm hK1
  try dsimp only at hw
  obtain ⟨hP, hD⟩ := va_join (wr := [(y, .inr (7, [.int 0, .ref yo, .ref ya, .ref yv, .ref yg, .int 0, .int 0, .int 0, .int 0, .int 0, .ref yp, .int 0, .int 0, .int 0, .ref yu, .ref yk, .int 0, .int 0, .int 0, .int 2, .int 0, .int 0, .ref yq, .int 0, .ref yt, .int 0])), (yo, .inl (eo, 8192, .inl (fun _ => 0))), (ya, .inl (ea, 65536, .inl (fun _ => 0)))]) (w1 := []) hP hD [] [0, 1, 2] rfl rfl (by decide) (by decide) hk1 hFc hP1 hD1
  have hK := (hK.sub (tys' := [(eo, .byte), (ea, .byte)]) [0, 1] rfl).app hK1
  generalize H1 = H at hP hS ⊢
  have hP : va_P (dC, dI) vwCl [(y, .inr (7, [.int 0, .ref yo, .ref ya, .ref yv, .ref yg, .int 0, .int 0, .int 0, .int 0, .int 0, .ref yp, .int 0, .int 0, .int 0, .ref yu, .ref yk, .int 0, .int 0, .int 0, .int 2, .int 0, .int 0, .ref yq, .int 0, .ref yt, .int 0])), (yo, .inl (eo, 8192, .inl (fun _ => 0))), (ya, .inl (ea, 65536, .inl (fun _ => 0)))] H := hP
  have hD : va_D A [(y, .inr (7, [.int 0, .ref yo, .ref ya, .ref yv, .ref yg, .int 0, .int 0, .int 0, .int 0, .int 0, .ref yp, .int 0, .int 0, .int 0, .ref yu, .ref yk, .int 0, .int 0, .int 0, .int 2, .int 0, .int 0, .ref yq, .int 0, .ref yt, .int 0])), (yo, .inl (eo, 8192, .inl (fun _ => 0))), (ya, .inl (ea, 65536, .inl (fun _ => 0)))] := hD
  have hK : va_K (dC, dI) vwCl [(eo, .byte), (ea, .byte)] s := hK
  have hw_2 := hw
  obtain rfl := hw_2
  refine lv_if_eq (tgt := 11) hx hb dX7_plainWord_4 (by decide) (fun _ => ?_) (fun h => absurd (by decide) h)
  refine lv_sipush (v := 256) hx hb dX7_plainWord_11 (by decide) ?_
  refine lv_aload_n hx hb dX7_plainWord_14 rfl (lv_at hl 0 rfl) ?_
  refine lv_iload_n hx hb dX7_plainWord_15 rfl (lv_at hl 1 rfl) ?_
  have hPc := hP.sub (ws' := [(y, .inr (7, [.int 0, .ref yo, .ref ya, .ref yv, .ref yg, .int 0, .int 0, .int 0, .int 0, .int 0, .ref yp, .int 0, .int 0, .int 0, .ref yu, .ref yk, .int 0, .int 0, .int 0, .int 2, .int 0, .int 0, .ref yq, .int 0, .ref yt, .int 0])), (yo, .inl (eo, 8192, .inl (fun _ => 0))), (ya, .inl (ea, 65536, .inl (fun _ => 0)))]) [0, 1, 2] rfl
  have hDc := hD.sub (ws' := [(y, .inr (7, [.int 0, .ref yo, .ref ya, .ref yv, .ref yg, .int 0, .int 0, .int 0, .int 0, .int 0, .ref yp, .int 0, .int 0, .int 0, .ref yu, .ref yk, .int 0, .int 0, .int 0, .int 2, .int 0, .int 0, .ref yq, .int 0, .ref yt, .int 0])), (yo, .inl (eo, 8192, .inl (fun _ => 0))), (ya, .inl (ea, 65536, .inl (fun _ => 0)))]) [0, 1, 2] (by decide) rfl
  have hKc := hK.sub (tys' := [(eo, .byte), (ea, .byte)]) [0, 1] rfl
  have hFc := va_free (wc := [(y, .inr (7, [.int 0, .ref yo, .ref ya, .ref yv, .ref yg, .int 0, .int 0, .int 0, .int 0, .int 0, .ref yp, .int 0, .int 0, .int 0, .ref yu, .ref yk, .int 0, .int 0, .int 0, .int 2, .int 0, .int 0, .ref yq, .int 0, .ref yt, .int 0])), (yo, .inl (eo, 8192, .inl (fun _ => 0))), (ya, .inl (ea, 65536, .inl (fun _ => 0)))]) hD hS hA [0, 1, 2] rfl
  refine va_calli (va_runV (As := [.int p0]) (rest := [.int 256]) ⟨hx, hb, hml, hown, hts⟩ (m_plain l dC dI y yo ya yv yg yp yu yk yq yt eo ea ev eg ep eu ek eq et p0 H.size (romA_4 _ hq).1 (romA_4 _ hq).2.2.1) (cwV 1 hts gX7_plainWord_X7_plain rfl rfl rfl (by decide +kernel) ⟨Nat.le_of_ble_eq_true rfl, Nat.le_of_ble_eq_true rfl⟩) ⟨fun a U g mk q => by obtain ⟨q0, q1, qP, qK, qD⟩ := q; exact ⟨q0, q1, qP, va_K.moved (u := U) (U := U.calling g mk a) (Vm.Alike.refl U.vm) qK, qD⟩, va_recv hKc hPc (ci := 7) (q0 := 0) rfl rfl, fun U hU hW => ⟨rfl, by rw [hU], by rw [hU]; exact hPc, va_K.moved hW.alike hKc, hDc.weaken (fun _ _ _ _ => trivial)⟩⟩ rfl rfl hl.1 rfl (lv_room (Nat.le_of_ble_eq_true rfl)) dX7_plainWord_16 ⟨Nat.le_of_ble_eq_true rfl, Nat.le_of_ble_eq_true rfl⟩) hS (fun q _ h => hFc q h) hFc (fun r_3 u t H1 locs ht hvm hw hB hz1 hk1 hS => ?_)
  obtain ⟨hP1, hK1, hD1⟩ := hB
  rw [ht] at hP1
  have hK1 := va_K.moved hvm.symm hK1
  try dsimp only at hw
  obtain ⟨hP, hD⟩ := va_join (wr := []) (w1 := [(y, .inr (7, [.int 0, .ref yo, .ref ya, .ref yv, .ref yg, .int 0, .int 0, .int 0, .int 0, .int 0, .ref yp, .int 0, .int 0, .int 0, .ref yu, .ref yk, .int 0, .int 0, .int 0, .int 2, .int 0, .int 0, .ref yq, .int 0, .ref yt, .int 0])), (yo, .inl (eo, 8192, .inl (fun _ => 0))), (ya, .inl (ea, 65536, .inl (fun _ => 0)))]) hP hD [0, 1, 2] [] rfl rfl (by decide) (by decide) hk1 hFc hP1 hD1
  have hK := (hK.sub (tys' := [(eo, .byte), (ea, .byte)]) [0, 1] rfl).app hK1
  generalize H1 = H at hP hS ⊢
  have hP : va_P (dC, dI) vwCl [(y, .inr (7, [.int 0, .ref yo, .ref ya, .ref yv, .ref yg, .int 0, .int 0, .int 0, .int 0, .int 0, .ref yp, .int 0, .int 0, .int 0, .ref yu, .ref yk, .int 0, .int 0, .int 0, .int 2, .int 0, .int 0, .ref yq, .int 0, .ref yt, .int 0])), (yo, .inl (eo, 8192, .inl (fun _ => 0))), (ya, .inl (ea, 65536, .inl (fun _ => 0)))] H := hP
  have hD : va_D A [(y, .inr (7, [.int 0, .ref yo, .ref ya, .ref yv, .ref yg, .int 0, .int 0, .int 0, .int 0, .int 0, .ref yp, .int 0, .int 0, .int 0, .ref yu, .ref yk, .int 0, .int 0, .int 0, .int 2, .int 0, .int 0, .ref yq, .int 0, .ref yt, .int 0])), (yo, .inl (eo, 8192, .inl (fun _ => 0))), (ya, .inl (ea, 65536, .inl (fun _ => 0)))] := hD
  have hK : va_K (dC, dI) vwCl [(eo, .byte), (ea, .byte), (eo, .byte), (ea, .byte)] s := hK
  have hw_4 := hw
  obtain rfl := hw_4
  refine lv_imul hx hb dX7_plainWord_19 ?_
  refine lv_topi (fun y_5 ey_5 => ?_)
  obtain rfl : y_5 = 0 := ey_5.trans (by decide)
  refine lv_aload_n hx hb dX7_plainWord_20 rfl (lv_at hl 0 rfl) ?_
  refine lv_iload_n hx hb dX7_plainWord_21 rfl (lv_at hl 1 rfl) ?_
  refine lv_iconst (v := 1) hx hb dX7_plainWord_22 (by decide) ?_
  refine lv_iadd hx hb dX7_plainWord_23 ?_
  refine lv_topi (fun y_6 ey_6 => ?_)
  have hPc := hP.sub (ws' := [(y, .inr (7, [.int 0, .ref yo, .ref ya, .ref yv, .ref yg, .int 0, .int 0, .int 0, .int 0, .int 0, .ref yp, .int 0, .int 0, .int 0, .ref yu, .ref yk, .int 0, .int 0, .int 0, .int 2, .int 0, .int 0, .ref yq, .int 0, .ref yt, .int 0])), (yo, .inl (eo, 8192, .inl (fun _ => 0))), (ya, .inl (ea, 65536, .inl (fun _ => 0)))]) [0, 1, 2] rfl
  have hDc := hD.sub (ws' := [(y, .inr (7, [.int 0, .ref yo, .ref ya, .ref yv, .ref yg, .int 0, .int 0, .int 0, .int 0, .int 0, .ref yp, .int 0, .int 0, .int 0, .ref yu, .ref yk, .int 0, .int 0, .int 0, .int 2, .int 0, .int 0, .ref yq, .int 0, .ref yt, .int 0])), (yo, .inl (eo, 8192, .inl (fun _ => 0))), (ya, .inl (ea, 65536, .inl (fun _ => 0)))]) [0, 1, 2] (by decide) rfl
  have hKc := hK.sub (tys' := [(eo, .byte), (ea, .byte)]) [0, 1] rfl
  have hFc := va_free (wc := [(y, .inr (7, [.int 0, .ref yo, .ref ya, .ref yv, .ref yg, .int 0, .int 0, .int 0, .int 0, .int 0, .ref yp, .int 0, .int 0, .int 0, .ref yu, .ref yk, .int 0, .int 0, .int 0, .int 2, .int 0, .int 0, .ref yq, .int 0, .ref yt, .int 0])), (yo, .inl (eo, 8192, .inl (fun _ => 0))), (ya, .inl (ea, 65536, .inl (fun _ => 0)))]) hD hS hA [0, 1, 2] rfl
  refine va_calli (va_runV (As := [.int y_6]) (rest := [.int 0]) ⟨hx, hb, hml, hown, hts⟩ (m_plain l dC dI y yo ya yv yg yp yu yk yq yt eo ea ev eg ep eu ek eq et y_6 H.size (by subst_vars; exact (romA_4 _ hq).2.2.2.1) (by subst_vars; exact (romA_4 _ hq).2.2.2.2)) (cwV 1 hts gX7_plainWord_X7_plain rfl rfl rfl (by decide +kernel) ⟨Nat.le_of_ble_eq_true rfl, Nat.le_of_ble_eq_true rfl⟩) ⟨fun a U g mk q => by obtain ⟨q0, q1, qP, qK, qD⟩ := q; exact ⟨q0, q1, qP, va_K.moved (u := U) (U := U.calling g mk a) (Vm.Alike.refl U.vm) qK, qD⟩, va_recv hKc hPc (ci := 7) (q0 := 0) rfl rfl, fun U hU hW => ⟨rfl, by rw [hU], by rw [hU]; exact hPc, va_K.moved hW.alike hKc, hDc.weaken (fun _ _ _ _ => trivial)⟩⟩ rfl rfl hl.1 rfl (lv_room (Nat.le_of_ble_eq_true rfl)) dX7_plainWord_24 ⟨Nat.le_of_ble_eq_true rfl, Nat.le_of_ble_eq_true rfl⟩) hS (fun q _ h => hFc q h) hFc (fun r_7 u t H1 locs ht hvm hw hB hz1 hk1 hS => ?_)
  obtain ⟨hP1, hK1, hD1⟩ := hB
  rw [ht] at hP1
  have hK1 := va_K.moved hvm.symm hK1
  try dsimp only at hw
  obtain ⟨hP, hD⟩ := va_join (wr := []) (w1 := [(y, .inr (7, [.int 0, .ref yo, .ref ya, .ref yv, .ref yg, .int 0, .int 0, .int 0, .int 0, .int 0, .ref yp, .int 0, .int 0, .int 0, .ref yu, .ref yk, .int 0, .int 0, .int 0, .int 2, .int 0, .int 0, .ref yq, .int 0, .ref yt, .int 0])), (yo, .inl (eo, 8192, .inl (fun _ => 0))), (ya, .inl (ea, 65536, .inl (fun _ => 0)))]) hP hD [0, 1, 2] [] rfl rfl (by decide) (by decide) hk1 hFc hP1 hD1
  have hK := (hK.sub (tys' := [(eo, .byte), (ea, .byte), (eo, .byte), (ea, .byte)]) [0, 1, 2, 3] rfl).app hK1
  generalize H1 = H at hP hS ⊢
  have hP : va_P (dC, dI) vwCl [(y, .inr (7, [.int 0, .ref yo, .ref ya, .ref yv, .ref yg, .int 0, .int 0, .int 0, .int 0, .int 0, .ref yp, .int 0, .int 0, .int 0, .ref yu, .ref yk, .int 0, .int 0, .int 0, .int 2, .int 0, .int 0, .ref yq, .int 0, .ref yt, .int 0])), (yo, .inl (eo, 8192, .inl (fun _ => 0))), (ya, .inl (ea, 65536, .inl (fun _ => 0)))] H := hP
  have hD : va_D A [(y, .inr (7, [.int 0, .ref yo, .ref ya, .ref yv, .ref yg, .int 0, .int 0, .int 0, .int 0, .int 0, .ref yp, .int 0, .int 0, .int 0, .ref yu, .ref yk, .int 0, .int 0, .int 0, .int 2, .int 0, .int 0, .ref yq, .int 0, .ref yt, .int 0])), (yo, .inl (eo, 8192, .inl (fun _ => 0))), (ya, .inl (ea, 65536, .inl (fun _ => 0)))] := hD
  have hK : va_K (dC, dI) vwCl [(eo, .byte), (ea, .byte), (eo, .byte), (ea, .byte), (eo, .byte), (ea, .byte)] s := hK
  have hw_8 := hw
  obtain rfl := hw_8
  refine lv_iadd hx hb dX7_plainWord_27 ?_
  refine lv_topi (fun y_9 ey_9 => ?_)
  obtain rfl : y_9 = 0 := ey_9.trans (by decide)
  have hP9 := hP.sub (ws' := [(y, .inr (7, [.int 0, .ref yo, .ref ya, .ref yv, .ref yg, .int 0, .int 0, .int 0, .int 0, .int 0, .ref yp, .int 0, .int 0, .int 0, .ref yu, .ref yk, .int 0, .int 0, .int 0, .int 2, .int 0, .int 0, .ref yq, .int 0, .ref yt, .int 0])), (yo, .inl (eo, 8192, .inl (fun _ => 0))), (ya, .inl (ea, 65536, .inl (fun _ => 0)))]) [0, 1, 2] rfl
  have hD9 := hD.sub (ws' := [(y, .inr (7, [.int 0, .ref yo, .ref ya, .ref yv, .ref yg, .int 0, .int 0, .int 0, .int 0, .int 0, .ref yp, .int 0, .int 0, .int 0, .ref yu, .ref yk, .int 0, .int 0, .int 0, .int 2, .int 0, .int 0, .ref yq, .int 0, .ref yt, .int 0])), (yo, .inl (eo, 8192, .inl (fun _ => 0))), (ya, .inl (ea, 65536, .inl (fun _ => 0)))]) [0, 1, 2] (by decide) rfl
  have hK9 := hK.sub (tys' := [(eo, .byte), (ea, .byte)]) [0, 1] rfl
  exact W.iret (v := 0) hx hb hr (fun t ht hW => ⟨⟨0, (), rfl, rfl, by rw [ht]; exact hP9, va_K.moved hW.alike hK9, hD9⟩, hS.F ht⟩) hS.2.2 dX7_plainWord_28

