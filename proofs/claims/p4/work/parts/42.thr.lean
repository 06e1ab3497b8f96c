def wq_X6_runT : List Cond := .code yX6_run cX6_run 3 (some .int) :: ([.classLink RX6 95 "java/lang/IllegalArgumentException", .initialized "java/lang/IllegalArgumentException"] ++ (vx_atS RX6 99 "java/lang/IllegalArgumentException" ["java/lang/RuntimeException", "java/lang/Exception"]).filter goodWord)
def wq_L_runT : List Cond := .codeWith yL_run cL_run 4 (some .int) [(0, 9, 12, 13)] :: ([.methodLink RL 7 yX6_run, .instanceMethod yX6_run, .selects RX6 yX6_run yX6_run, .initialized RX6, .classLink RL 13 "java/lang/IllegalArgumentException"] ++ wq_X6_runT)
set_option maxRecDepth 20000 in
theorem gqT_run : GoodIn wq_L_runT (wsV RL 7 RX6 yX6_run wq_X6_runT) := goodIn_of _ (by decide +kernel)
set_option maxRecDepth 20000 in
theorem gq_L_runT : GoodIn lw_tbl (va_wsS RL 42 yL_run wq_L_runT) := goodIn_of _ (by decide +kernel)
set_option maxHeartbeats 1000000 in
set_option maxRecDepth 100000 in
theorem x_run_thr (l : Launch) (hl0 : l.stackTraces = false) (dC : Nat → ClassId) (dI : Nat → Nat → Nat) (ad : Nat → Nat) (tl : Int32) (p0 : Int32) (sa : Nat) (sz : Nat) (hg : ¬ (0 ≤ p0.toInt ∧ p0.toInt ≤ 2000)) : vx_Met l yX6_run wq_X6_runT ({ frames := 6, cells := 1, slots := 6, locals := 90 }) (va_Pc [.ref (ad 0), .int p0] (fun U => U.heap.size = sz ∧ va_P (dC, dI) vwCl [(ad 0, .inr (6, [.ref (ad 1), .ref (ad 3), .ref (ad 7), .ref (ad 10), .ref (ad 12), .ref (ad 19), .int tl]))] U.heap ∧ va_K (dC, dI) vwCl [] U ∧ va_D (fun _ => True) [(ad 0, .inr (6, [.ref (ad 1), .ref (ad 3), .ref (ad 7), .ref (ad 10), .ref (ad 12), .ref (ad 19), .int tl]))] ∧ vk_R RX6 97 "from 0 to 2000 instructions can be done at once" sa U ∧ va_Nw (.castable "java/lang/IllegalArgumentException" "java/lang/IllegalArgumentException") U ∧ va_Nw (.declares (Bundle.initS "java/lang/RuntimeException")) U ∧ va_Nw (.declares (Bundle.initS "java/lang/Exception")) U ∧ va_Nw (.declares (Bundle.initS Bundle.tN)) U ∧ vx_Zq Bundle.tN "UNASSIGNED_STACK" Bundle.steD (va_A [] sz) U U.heap ∧ vx_Zq Bundle.tN "SUPPRESSED_SENTINEL" Bundle.listD (va_A [] sz) U U.heap)) (va_Qi (fun (_ : Int32) (_ : Unit) => False) (fun (_ : Unit) (_ : State) => False) (va_A [] sz)) (vx_X (fun (_ : Unit) => True) (fun (E : String) (_ : Unit) (_ : State) => E = "java/lang/IllegalArgumentException") (va_A [] sz)) 1 6 (va_A [] sz) := by
  refine vx_ofW (cc := cX6_run) (maxL := 3) (ret := (some .int)) (by decide) rfl ?_
  intro p e s m args below meth c s₁ B hml htab hv
  obtain ⟨rfl, hsz, hP, hK, hD0, hstr, hN0, hN1, hN2, hN3, hU, hN⟩ := hv
  have hx := B.exec
  have hb := B.bytes
  have hts := atoms_spec (ws := wq_X6_runT) B.pre
  have hown : s.vm.findClass RX6 = some m.cls := findClass_of_methodNamed B.named
  have hlocks := B.notSynchronized
  subst hsz
  have hS : va_S (va_A [] s.heap.size) s.heap s.heap [] := va_S.rf
  have hl := lv_entry ([.ref (ad 0), .int p0]) (n := 3) (Nat.le_of_ble_eq_true rfl)
  rw [lg_entry_eq]
  generalize (lg_sl ([.ref (ad 0), .int p0]) ++ List.replicate (3 - (lg_sl ([.ref (ad 0), .int p0])).length) Slot.unset).toArray = ls at hl ⊢
  have hl : lv_has ls 3 [(0, .ref (ad 0)), (1, .int p0)] := hl
  refine lv_iload_n hx hb dX6_run_0 rfl (lv_at hl 1 rfl) ?_
  refine lv_if_lt (tgt := 11) hx hb dX6_run_1 (by decide) (fun c1 => ?_) (fun c1 => ?_)
  · exact vx_throwS (own := RX6) (cls := "java/lang/IllegalArgumentException") (text := "from 0 to 2000 instructions can be done at once") (names := ["java/lang/RuntimeException", "java/lang/Exception"]) (ik := 95) (is := 97) (ic := 99) (sa := sa) (A := va_A [] s.heap.size) hx hb hl0 hown (by decide +kernel) (by decide +kernel) (hts (.classLink RX6 95 "java/lang/IllegalArgumentException") (by decide +kernel)) (hts (.initialized "java/lang/IllegalArgumentException") (by decide +kernel)) hstr (vx_hat (B := [.castable "java/lang/IllegalArgumentException" "java/lang/IllegalArgumentException", .declares (Bundle.initS "java/lang/RuntimeException"), .declares (Bundle.initS "java/lang/Exception"), .declares (Bundle.initS Bundle.tN)]) (fun w h => hts w (List.mem_cons_of_mem _ (List.mem_append_right _ h))) (by decide +kernel) (vx_c (va_Nw.use rfl hN0) (vx_c (va_Nw.use rfl hN1) (vx_c (va_Nw.use rfl hN2) (vx_c (va_Nw.use rfl hN3) vx_n))))) (by decide +kernel) hU hN hS (hl.1.trans hml.symm) dX6_run_11 dX6_run_14 dX6_run_15 dX6_run_17 dX6_run_20 (fun z hz => (htab z hz).elim) (by decide) (by decide) (Nat.le_of_ble_eq_true rfl) (Nat.le_of_ble_eq_true rfl) hlocks (fun t _ h1 h2 => ⟨(), trivial, rfl, h1, fun q hq _ => h2 q hq⟩) (fun z hz => by cases hz) (Nat.le_refl _) (Nat.le_refl _)
  · refine lv_iload_n hx hb dX6_run_4 rfl (lv_at hl 1 rfl) ?_
    refine lv_sipush (v := 2000) hx hb dX6_run_5 (by decide) ?_
    refine lv_icmp_le (tgt := 21) hx hb dX6_run_8 (by decide) (fun c8 => (hg ⟨by have h1 := zc_nlt c1; have h2 : (0 : Int32).toInt = 0 := rfl; omega, by have h1 := zc_le c8; have h2 : (2000 : Int32).toInt = 2000 := rfl; omega⟩).elim) (fun _ => ?_)
    exact vx_throwS (own := RX6) (cls := "java/lang/IllegalArgumentException") (text := "from 0 to 2000 instructions can be done at once") (names := ["java/lang/RuntimeException", "java/lang/Exception"]) (ik := 95) (is := 97) (ic := 99) (sa := sa) (A := va_A [] s.heap.size) hx hb hl0 hown (by decide +kernel) (by decide +kernel) (hts (.classLink RX6 95 "java/lang/IllegalArgumentException") (by decide +kernel)) (hts (.initialized "java/lang/IllegalArgumentException") (by decide +kernel)) hstr (vx_hat (B := [.castable "java/lang/IllegalArgumentException" "java/lang/IllegalArgumentException", .declares (Bundle.initS "java/lang/RuntimeException"), .declares (Bundle.initS "java/lang/Exception"), .declares (Bundle.initS Bundle.tN)]) (fun w h => hts w (List.mem_cons_of_mem _ (List.mem_append_right _ h))) (by decide +kernel) (vx_c (va_Nw.use rfl hN0) (vx_c (va_Nw.use rfl hN1) (vx_c (va_Nw.use rfl hN2) (vx_c (va_Nw.use rfl hN3) vx_n))))) (by decide +kernel) hU hN hS (hl.1.trans hml.symm) dX6_run_11 dX6_run_14 dX6_run_15 dX6_run_17 dX6_run_20 (fun z hz => (htab z hz).elim) (by decide) (by decide) (Nat.le_of_ble_eq_true rfl) (Nat.le_of_ble_eq_true rfl) hlocks (fun t _ h1 h2 => ⟨(), trivial, rfl, h1, fun q hq _ => h2 q hq⟩) (fun z hz => by cases hz) (Nat.le_refl _) (Nat.le_refl _)

set_option maxHeartbeats 1000000 in
set_option maxRecDepth 100000 in
theorem l_run_thr (l : Launch) (hl0 : l.stackTraces = false) (dC : Nat → ClassId) (dI : Nat → Nat → Nat) (ad : Nat → Nat) (tl : Int32) (p0 : Int32) (sa : Nat) (oa : Nat) (sz : Nat) (hg : ¬ (0 ≤ p0.toInt ∧ p0.toInt ≤ 2000)) : Met l yL_run wq_L_runT ({ frames := 7, cells := 1, slots := 6, locals := 120 }) (va_Pc [.ref (ad 0), .int p0, .ref oa] (fun U => U.heap.size = sz ∧ va_P (dC, dI) vwCl [(ad 0, .inr (6, [.ref (ad 1), .ref (ad 3), .ref (ad 7), .ref (ad 10), .ref (ad 12), .ref (ad 19), .int tl]))] U.heap ∧ va_K (dC, dI) vwCl [] U ∧ va_D (fun _ => True) [(ad 0, .inr (6, [.ref (ad 1), .ref (ad 3), .ref (ad 7), .ref (ad 10), .ref (ad 12), .ref (ad 19), .int tl]))] ∧ vk_R RX6 97 "from 0 to 2000 instructions can be done at once" sa U ∧ va_Nw (.castable "java/lang/IllegalArgumentException" "java/lang/IllegalArgumentException") U ∧ va_Nw (.declares (Bundle.initS "java/lang/RuntimeException")) U ∧ va_Nw (.declares (Bundle.initS "java/lang/Exception")) U ∧ va_Nw (.declares (Bundle.initS Bundle.tN)) U ∧ vx_Zq Bundle.tN "UNASSIGNED_STACK" Bundle.steD (va_A [] sz) U U.heap ∧ vx_Zq Bundle.tN "SUPPRESSED_SENTINEL" Bundle.listD (va_A [] sz) U U.heap)) (va_Qi (fun (r : Int32) (_ : Unit) => r = 1) (fun (u : Unit) (t : State) => True) (va_A [] sz)) 1 6 (va_A [] sz) := by
  refine va_MetW (cc := cL_run) (maxL := 4) (ret := (some .int)) (hh := [(0, 9, 12, 13)]) (by decide) rfl ?_
  intro p e s m args below meth c s₁ B hml hv
  obtain ⟨rfl, hsz, hP, hK, hD0, hstr, hN0, hN1, hN2, hN3, hUq, hN⟩ := hv
  have hx := B.exec
  have hb := B.bytes
  have hr := B.returns
  have hts := atoms_spec (ws := wq_L_runT) B.pre
  have hown : s.vm.findClass RL = some m.cls := findClass_of_methodNamed B.named
  have hlocks := B.notSynchronized
  have htb := vx_table (x := yL_run) B (hts (.codeWith yL_run cL_run 4 (some .int) [(0, 9, 12, 13)]) (by decide +kernel))
  subst hsz
  have hS : va_S (va_A [] s.heap.size) s.heap s.heap [] := va_S.rf
  have hl := lv_entry ([.ref (ad 0), .int p0, .ref oa]) (n := 4) (Nat.le_of_ble_eq_true rfl)
  rw [lg_entry_eq]
  generalize (lg_sl ([.ref (ad 0), .int p0, .ref oa]) ++ List.replicate (4 - (lg_sl ([.ref (ad 0), .int p0, .ref oa])).length) Slot.unset).toArray = ls at hl ⊢
  have hl : lv_has ls 4 [(0, .ref (ad 0)), (1, .int p0), (2, .ref oa)] := hl
  refine lv_aload_n hx hb dL_run_0 rfl (lv_at hl 2 rfl) ?_
  refine lv_iconst (v := 0) hx hb dL_run_1 (by decide) ?_
  refine lv_aload_n hx hb dL_run_2 rfl (lv_at hl 0 rfl) ?_
  refine lv_iload_n hx hb dL_run_3 rfl (lv_at hl 1 rfl) ?_
  refine vx_calli (vx_runV (As := [.int p0]) (rest := [.int 0, .ref oa]) ⟨hx, hb, hml, hown, hts⟩ (x_run_thr l hl0 dC dI ad tl p0 sa s.heap.size hg) (cwV 1 hts gqT_run rfl rfl rfl (by decide +kernel) ⟨Nat.le_of_ble_eq_true rfl, Nat.le_of_ble_eq_true rfl⟩) ⟨fun a U g mk q => by obtain ⟨q0, q1, qP, qK, qD, q5, q6, n1, n2, n3, q7, q8⟩ := q; exact ⟨q0, q1, qP, va_K.moved (u := U) (U := U.calling g mk a) (Vm.Alike.refl U.vm) qK, qD, vk_R.same rfl q5, va_Nw.same rfl rfl q6, va_Nw.same rfl rfl n1, va_Nw.same rfl rfl n2, va_Nw.same rfl rfl n3, vx_Zq.moved (u := U) (U := U.calling g mk a) (Vm.Alike.refl U.vm) q7, vx_Zq.moved (u := U) (U := U.calling g mk a) (Vm.Alike.refl U.vm) q8⟩, va_recv hK hP (ci := 6) (q0 := 0) rfl rfl, fun U hU hW => ⟨rfl, by rw [hU], by rw [hU]; exact hP, va_K.moved hW.alike hK, hD0, vk_R.warm hW hstr, va_Nw.warmC hW hN0, va_Nw.warmD hW hN1, va_Nw.warmD hW hN2, va_Nw.warmD hW hN3, by rw [hU]; exact vx_Zq.moved hW.alike hUq, by rw [hU]; exact vx_Zq.moved hW.alike hN⟩⟩ rfl rfl hl.1 rfl (lv_room (Nat.le_of_ble_eq_true rfl)) dL_run_4 ⟨Nat.le_of_ble_eq_true rfl, Nat.le_of_ble_eq_true rfl⟩) hS (fun q _ h => h) (fun q h => h) (fun q _ h => h) (fun E ce q9 u t H1 locs ht hvm hpx hBX hz1 hk1 hS hce hcv hcl => ?_) (fun r u t H1 locs ht hvm hw hB hz1 hk1 hS => hw.elim)
  subst hBX
  refine vx_catch (own := RL) (name := "java/lang/IllegalArgumentException") hown [] ⟨0, 9, 12, 13⟩ [] (by rw [htb]; rfl) (fun z hz => by cases hz) (by decide) (by decide) (hts (.classLink RL 13 "java/lang/IllegalArgumentException") (by decide +kernel)) (va_Nw.use rfl hN0) hce hcv hcl ?_
  refine lv_astore_n (lv' := [(3, .ref q9), (0, .ref (ad 0)), (1, .int p0), (2, .ref oa)]) hx hb dL_run_12 rfl hl (by decide) rfl (fun ls hl => ?_)
  refine lv_iconst (v := 1) hx hb dL_run_13 (by decide) ?_
  refine W.widen (k := 1) (n := 6) (by omega) (by omega) ?_
  exact W.iret (v := 1) hx hb hr (fun t ht hW => ⟨⟨1, (), rfl, rfl, trivial⟩, hS.F ht⟩) hS.2.2 dL_run_14

def wq_X6_vramT : List Cond := .code yX6_vram cX6_vram 2 (some .int) :: ([.classLink RX6 152 "java/util/NoSuchElementException", .initialized "java/util/NoSuchElementException"] ++ (vy_atS RX6 156 "java/util/NoSuchElementException" 13 prog_16_method_4_code ["java/lang/RuntimeException", "java/lang/Exception"]).filter goodWord)
def wq_L_vramT : List Cond := .codeWith yL_vram cL_vram 4 (some .int) [(0, 9, 12, 18)] :: ([.methodLink RL 15 yX6_vram, .instanceMethod yX6_vram, .selects RX6 yX6_vram yX6_vram, .initialized RX6, .classLink RL 18 "java/util/NoSuchElementException"] ++ wq_X6_vramT)
set_option maxRecDepth 20000 in
theorem gqT_vram : GoodIn wq_L_vramT (wsV RL 15 RX6 yX6_vram wq_X6_vramT) := goodIn_of _ (by decide +kernel)
set_option maxRecDepth 20000 in
theorem gq_L_vramT : GoodIn lw_tbl (va_wsS RL 65 yL_vram wq_L_vramT) := goodIn_of _ (by decide +kernel)
set_option maxHeartbeats 1000000 in
set_option maxRecDepth 100000 in
theorem x_vram_thr (l : Launch) (hl0 : l.stackTraces = false) (dC : Nat → ClassId) (dI : Nat → Nat → Nat) (ad : Nat → Nat) (tl : Int32) (p0 : Int32) (sa : Nat) (sz : Nat) (hg : ¬ (0 ≤ p0.toInt ∧ p0.toInt ≤ 16383)) : vx_Met l yX6_vram wq_X6_vramT ({ frames := 6, cells := 1, slots := 6, locals := 90 }) (va_Pc [.ref (ad 0), .int p0] (fun U => U.heap.size = sz ∧ va_P (dC, dI) vwCl [(ad 0, .inr (6, [.ref (ad 1), .ref (ad 3), .ref (ad 7), .ref (ad 10), .ref (ad 12), .ref (ad 19), .int tl]))] U.heap ∧ va_K (dC, dI) vwCl [] U ∧ va_D (fun _ => True) [(ad 0, .inr (6, [.ref (ad 1), .ref (ad 3), .ref (ad 7), .ref (ad 10), .ref (ad 12), .ref (ad 19), .int tl]))] ∧ vk_R RX6 154 "VRAM has the addresses 0 to 16383" sa U ∧ va_Nw (.castable "java/util/NoSuchElementException" "java/util/NoSuchElementException") U ∧ va_Nw (.declares (Bundle.initS "java/lang/RuntimeException")) U ∧ va_Nw (.declares (Bundle.initS "java/lang/Exception")) U ∧ va_Nw (.declares (Bundle.initS Bundle.tN)) U ∧ vx_Zq Bundle.tN "UNASSIGNED_STACK" Bundle.steD (va_A [] sz) U U.heap ∧ vx_Zq Bundle.tN "SUPPRESSED_SENTINEL" Bundle.listD (va_A [] sz) U U.heap)) (va_Qi (fun (_ : Int32) (_ : Unit) => False) (fun (_ : Unit) (_ : State) => False) (va_A [] sz)) (vx_X (fun (_ : Unit) => True) (fun (E : String) (_ : Unit) (_ : State) => E = "java/util/NoSuchElementException") (va_A [] sz)) 1 6 (va_A [] sz) := by
  refine vx_ofW (cc := cX6_vram) (maxL := 2) (ret := (some .int)) (by decide) rfl ?_
  intro p e s m args below meth c s₁ B hml htab hv
  obtain ⟨rfl, hsz, hP, hK, hD0, hstr, hN0, hN1, hN2, hN3, hU, hN⟩ := hv
  have hx := B.exec
  have hb := B.bytes
  have hts := atoms_spec (ws := wq_X6_vramT) B.pre
  have hown : s.vm.findClass RX6 = some m.cls := findClass_of_methodNamed B.named
  have hlocks := B.notSynchronized
  subst hsz
  have hS : va_S (va_A [] s.heap.size) s.heap s.heap [] := va_S.rf
  have hl := lv_entry ([.ref (ad 0), .int p0]) (n := 2) (Nat.le_of_ble_eq_true rfl)
  rw [lg_entry_eq]
  generalize (lg_sl ([.ref (ad 0), .int p0]) ++ List.replicate (2 - (lg_sl ([.ref (ad 0), .int p0])).length) Slot.unset).toArray = ls at hl ⊢
  have hl : lv_has ls 2 [(0, .ref (ad 0)), (1, .int p0)] := hl
  refine lv_iload_n hx hb dX6_vram_0 rfl (lv_at hl 1 rfl) ?_
  refine lv_if_lt (tgt := 11) hx hb dX6_vram_1 (by decide) (fun c1 => ?_) (fun c1 => ?_)
  · exact vy_throwSX (ix := 13) (rx := prog_16_method_4_code) (by decide +kernel) (by decide +kernel) (by decide +kernel) (by decide +kernel) (own := RX6) (cls := "java/util/NoSuchElementException") (text := "VRAM has the addresses 0 to 16383") (names := ["java/lang/RuntimeException", "java/lang/Exception"]) (ik := 152) (is := 154) (ic := 156) (sa := sa) (A := va_A [] s.heap.size) hx hb hl0 hown (by decide +kernel) (by decide +kernel) (hts (.classLink RX6 152 "java/util/NoSuchElementException") (by decide +kernel)) (hts (.initialized "java/util/NoSuchElementException") (by decide +kernel)) hstr (vx_hat (B := [.castable "java/util/NoSuchElementException" "java/util/NoSuchElementException", .declares (Bundle.initS "java/lang/RuntimeException"), .declares (Bundle.initS "java/lang/Exception"), .declares (Bundle.initS Bundle.tN)]) (fun w h => hts w (List.mem_cons_of_mem _ (List.mem_append_right _ h))) (by decide +kernel) (vx_c (va_Nw.use rfl hN0) (vx_c (va_Nw.use rfl hN1) (vx_c (va_Nw.use rfl hN2) (vx_c (va_Nw.use rfl hN3) vx_n))))) (by decide +kernel) hU hN hS (hl.1.trans hml.symm) dX6_vram_11 dX6_vram_14 dX6_vram_15 dX6_vram_17 dX6_vram_20 (fun z hz => (htab z hz).elim) (by decide) (by decide) (Nat.le_of_ble_eq_true rfl) (Nat.le_of_ble_eq_true rfl) hlocks (fun t _ h1 h2 => ⟨(), trivial, rfl, h1, fun q hq _ => h2 q hq⟩) (fun z hz => by cases hz) (Nat.le_refl _) (Nat.le_refl _)
  · refine lv_iload_n hx hb dX6_vram_4 rfl (lv_at hl 1 rfl) ?_
    refine lv_sipush (v := 16384) hx hb dX6_vram_5 (by decide) ?_
    refine lv_icmp_lt (tgt := 21) hx hb dX6_vram_8 (by decide) (fun c8 => (hg ⟨by have h1 := zc_nlt c1; have h2 : (0 : Int32).toInt = 0 := rfl; omega, by have h1 := zc_lt c8; have h2 : (16384 : Int32).toInt = 16384 := rfl; omega⟩).elim) (fun _ => ?_)
    exact vy_throwSX (ix := 13) (rx := prog_16_method_4_code) (by decide +kernel) (by decide +kernel) (by decide +kernel) (by decide +kernel) (own := RX6) (cls := "java/util/NoSuchElementException") (text := "VRAM has the addresses 0 to 16383") (names := ["java/lang/RuntimeException", "java/lang/Exception"]) (ik := 152) (is := 154) (ic := 156) (sa := sa) (A := va_A [] s.heap.size) hx hb hl0 hown (by decide +kernel) (by decide +kernel) (hts (.classLink RX6 152 "java/util/NoSuchElementException") (by decide +kernel)) (hts (.initialized "java/util/NoSuchElementException") (by decide +kernel)) hstr (vx_hat (B := [.castable "java/util/NoSuchElementException" "java/util/NoSuchElementException", .declares (Bundle.initS "java/lang/RuntimeException"), .declares (Bundle.initS "java/lang/Exception"), .declares (Bundle.initS Bundle.tN)]) (fun w h => hts w (List.mem_cons_of_mem _ (List.mem_append_right _ h))) (by decide +kernel) (vx_c (va_Nw.use rfl hN0) (vx_c (va_Nw.use rfl hN1) (vx_c (va_Nw.use rfl hN2) (vx_c (va_Nw.use rfl hN3) vx_n))))) (by decide +kernel) hU hN hS (hl.1.trans hml.symm) dX6_vram_11 dX6_vram_14 dX6_vram_15 dX6_vram_17 dX6_vram_20 (fun z hz => (htab z hz).elim) (by decide) (by decide) (Nat.le_of_ble_eq_true rfl) (Nat.le_of_ble_eq_true rfl) hlocks (fun t _ h1 h2 => ⟨(), trivial, rfl, h1, fun q hq _ => h2 q hq⟩) (fun z hz => by cases hz) (Nat.le_refl _) (Nat.le_refl _)

set_option maxHeartbeats 1000000 in
set_option maxRecDepth 100000 in
theorem l_vram_thr (l : Launch) (hl0 : l.stackTraces = false) (dC : Nat → ClassId) (dI : Nat → Nat → Nat) (ad : Nat → Nat) (tl : Int32) (p0 : Int32) (sa : Nat) (oa : Nat) (sz : Nat) (hg : ¬ (0 ≤ p0.toInt ∧ p0.toInt ≤ 16383)) : Met l yL_vram wq_L_vramT ({ frames := 7, cells := 1, slots := 6, locals := 120 }) (va_Pc [.ref (ad 0), .int p0, .ref oa] (fun U => U.heap.size = sz ∧ va_P (dC, dI) vwCl [(ad 0, .inr (6, [.ref (ad 1), .ref (ad 3), .ref (ad 7), .ref (ad 10), .ref (ad 12), .ref (ad 19), .int tl]))] U.heap ∧ va_K (dC, dI) vwCl [] U ∧ va_D (fun _ => True) [(ad 0, .inr (6, [.ref (ad 1), .ref (ad 3), .ref (ad 7), .ref (ad 10), .ref (ad 12), .ref (ad 19), .int tl]))] ∧ vk_R RX6 154 "VRAM has the addresses 0 to 16383" sa U ∧ va_Nw (.castable "java/util/NoSuchElementException" "java/util/NoSuchElementException") U ∧ va_Nw (.declares (Bundle.initS "java/lang/RuntimeException")) U ∧ va_Nw (.declares (Bundle.initS "java/lang/Exception")) U ∧ va_Nw (.declares (Bundle.initS Bundle.tN)) U ∧ vx_Zq Bundle.tN "UNASSIGNED_STACK" Bundle.steD (va_A [] sz) U U.heap ∧ vx_Zq Bundle.tN "SUPPRESSED_SENTINEL" Bundle.listD (va_A [] sz) U U.heap)) (va_Qi (fun (r : Int32) (_ : Unit) => r = 1) (fun (u : Unit) (t : State) => True) (va_A [] sz)) 1 6 (va_A [] sz) := by
  refine va_MetW (cc := cL_vram) (maxL := 4) (ret := (some .int)) (hh := [(0, 9, 12, 18)]) (by decide) rfl ?_
  intro p e s m args below meth c s₁ B hml hv
  obtain ⟨rfl, hsz, hP, hK, hD0, hstr, hN0, hN1, hN2, hN3, hUq, hN⟩ := hv
  have hx := B.exec
  have hb := B.bytes
  have hr := B.returns
  have hts := atoms_spec (ws := wq_L_vramT) B.pre
  have hown : s.vm.findClass RL = some m.cls := findClass_of_methodNamed B.named
  have hlocks := B.notSynchronized
  have htb := vx_table (x := yL_vram) B (hts (.codeWith yL_vram cL_vram 4 (some .int) [(0, 9, 12, 18)]) (by decide +kernel))
  subst hsz
  have hS : va_S (va_A [] s.heap.size) s.heap s.heap [] := va_S.rf
  have hl := lv_entry ([.ref (ad 0), .int p0, .ref oa]) (n := 4) (Nat.le_of_ble_eq_true rfl)
  rw [lg_entry_eq]
  generalize (lg_sl ([.ref (ad 0), .int p0, .ref oa]) ++ List.replicate (4 - (lg_sl ([.ref (ad 0), .int p0, .ref oa])).length) Slot.unset).toArray = ls at hl ⊢
  have hl : lv_has ls 4 [(0, .ref (ad 0)), (1, .int p0), (2, .ref oa)] := hl
  refine lv_aload_n hx hb dL_vram_0 rfl (lv_at hl 2 rfl) ?_
  refine lv_iconst (v := 0) hx hb dL_vram_1 (by decide) ?_
  refine lv_aload_n hx hb dL_vram_2 rfl (lv_at hl 0 rfl) ?_
  refine lv_iload_n hx hb dL_vram_3 rfl (lv_at hl 1 rfl) ?_
  refine vx_calli (vx_runV (As := [.int p0]) (rest := [.int 0, .ref oa]) ⟨hx, hb, hml, hown, hts⟩ (x_vram_thr l hl0 dC dI ad tl p0 sa s.heap.size hg) (cwV 1 hts gqT_vram rfl rfl rfl (by decide +kernel) ⟨Nat.le_of_ble_eq_true rfl, Nat.le_of_ble_eq_true rfl⟩) ⟨fun a U g mk q => by obtain ⟨q0, q1, qP, qK, qD, q5, q6, n1, n2, n3, q7, q8⟩ := q; exact ⟨q0, q1, qP, va_K.moved (u := U) (U := U.calling g mk a) (Vm.Alike.refl U.vm) qK, qD, vk_R.same rfl q5, va_Nw.same rfl rfl q6, va_Nw.same rfl rfl n1, va_Nw.same rfl rfl n2, va_Nw.same rfl rfl n3, vx_Zq.moved (u := U) (U := U.calling g mk a) (Vm.Alike.refl U.vm) q7, vx_Zq.moved (u := U) (U := U.calling g mk a) (Vm.Alike.refl U.vm) q8⟩, va_recv hK hP (ci := 6) (q0 := 0) rfl rfl, fun U hU hW => ⟨rfl, by rw [hU], by rw [hU]; exact hP, va_K.moved hW.alike hK, hD0, vk_R.warm hW hstr, va_Nw.warmC hW hN0, va_Nw.warmD hW hN1, va_Nw.warmD hW hN2, va_Nw.warmD hW hN3, by rw [hU]; exact vx_Zq.moved hW.alike hUq, by rw [hU]; exact vx_Zq.moved hW.alike hN⟩⟩ rfl rfl hl.1 rfl (lv_room (Nat.le_of_ble_eq_true rfl)) dL_vram_4 ⟨Nat.le_of_ble_eq_true rfl, Nat.le_of_ble_eq_true rfl⟩) hS (fun q _ h => h) (fun q h => h) (fun q _ h => h) (fun E ce q9 u t H1 locs ht hvm hpx hBX hz1 hk1 hS hce hcv hcl => ?_) (fun r u t H1 locs ht hvm hw hB hz1 hk1 hS => hw.elim)
  subst hBX
  refine vx_catch (own := RL) (name := "java/util/NoSuchElementException") hown [] ⟨0, 9, 12, 18⟩ [] (by rw [htb]; rfl) (fun z hz => by cases hz) (by decide) (by decide) (hts (.classLink RL 18 "java/util/NoSuchElementException") (by decide +kernel)) (va_Nw.use rfl hN0) hce hcv hcl ?_
  refine lv_astore_n (lv' := [(3, .ref q9), (0, .ref (ad 0)), (1, .int p0), (2, .ref oa)]) hx hb dL_vram_12 rfl hl (by decide) rfl (fun ls hl => ?_)
  refine lv_iconst (v := 1) hx hb dL_vram_13 (by decide) ?_
  refine W.widen (k := 1) (n := 6) (by omega) (by omega) ?_
  exact W.iret (v := 1) hx hb hr (fun t ht hW => ⟨⟨1, (), rfl, rfl, trivial⟩, hS.F ht⟩) hS.2.2 dL_vram_14

abbrev wz_L_run : List Cond := .codeWith yL_run cL_run 4 (some .int) [(0, 9, 12, 13)] :: wq_all
set_option maxRecDepth 20000 in
theorem gq_L_run : GoodIn lw_tbl (va_wsS RL 42 yL_run wz_L_run) := goodIn_app (a := [.methodLink RL 42 yL_run, .static yL_run, .initialized yL_run.cls, .codeWith yL_run cL_run 4 (some .int) [(0, 9, 12, 13)]]) (goodIn_of _ (by decide +kernel)) wq_all_in
theorem cs_L_run : yL_run.cls ≠ "java/lang/invoke/MethodHandle" ∧ yL_run.cls ≠ "java/lang/invoke/VarHandle" ∧ (parseMethodDescriptor yL_run.desc).map (fun d => d.parameters.length) = some 3 := by decide +kernel
theorem l_run_ok (l : Launch) (D : va_G) (ad : Nat → Nat) (cy : Nat → ClassId) (tl : Int32) (oa : Nat) (co : ClassId) (Ac : Nat → Prop) (ho : ¬ Ac oa) (p0 : Int32) (hp0 : zI 0 2000 p0) : zMi l yL_run wz_L_run ({ frames := 8, cells := 0, slots := 0, locals := 191 }) [.ref (ad 0), .int p0, .ref oa] D ((co, .long) :: zTc cy) (fun q => Ac q ∨ q = oa) (fun H => zMc D Ac ad cy tl H ∧ zOut oa co H) (fun _ H => zMc D Ac ad cy tl H ∧ zOut oa co H) := by
  refine zstartW_i (cc := cL_run) (maxL := 4) (ty := .int) (own := RL) (by decide) rfl rfl (Nat.le_of_ble_eq_true rfl) (fun p e s m args below meth c Q C r => ?_)
  have hKc : va_K D vwCl (zTc cy) s := C.2.2.2.2.2.sub (tys' := zTc cy) [1, 2, 3, 4, 5, 6, 7, 8] rfl
  refine g_sub (lv' := [(0, .ref (ad 0)), (1, .int p0), (2, .ref oa)]) [0, 1, 2] rfl ?_
  refine g_aload_n (pc := 0) C dL_run_0 rfl 2 rfl ?_
  refine g_iconst (pc := 1) C 0 dL_run_1 (by decide) ?_
  refine g_aload_n (pc := 2) C dL_run_2 rfl 0 rfl ?_
  refine g_iload_n (pc := 3) C dL_run_3 rfl 1 rfl ?_
  refine zcallBi (pc := 4) (st := [.int 0, .ref oa]) C hKc (n_X6_runA l D ad cy tl Ac p0 hp0) (cwV 1 C.2.2.2.2.1 gw_RL_7 rfl rfl rfl cd_X6_run ⟨Nat.le_of_ble_eq_true rfl, Nat.le_of_ble_eq_true rfl⟩) (zrec hKc (ci := 6) rfl 0 (fun _ => rfl)) (fun q h => Or.inl h) (fun H H1 h hk => zOut_kept h (fun q hq e => hk q hq (by rw [e]; exact ho))) rfl rfl (Nat.le_of_ble_eq_true rfl) ⟨Nat.le_of_ble_eq_true rfl, Nat.le_of_ble_eq_true rfl⟩ dL_run_4 (fun r1 => ?_)
  refine g_i2l (pc := 7) C dL_run_7 (fun z1 e1 => ?_)
  refine z_out (pc := 8) C 0 rfl (Or.inr rfl) (fun H H1 h hk => zM_kept h (fun q _ hq => hk q (fun e => ho (by rw [← e]; exact hq)))) (by unfold vp_in; decide) dL_run_8 ?_
  refine g_goto (pc := 9) C 15 dL_run_9 (by decide) ?_
  refine g_iconst (pc := 15) C 0 dL_run_15 (by decide) ?_
  exact g_ireturn r dL_run_16 rfl (fun _ h => h)

abbrev wz_L_vram : List Cond := .codeWith yL_vram cL_vram 4 (some .int) [(0, 9, 12, 18)] :: wq_all
set_option maxRecDepth 20000 in
theorem gq_L_vram : GoodIn lw_tbl (va_wsS RL 65 yL_vram wz_L_vram) := goodIn_app (a := [.methodLink RL 65 yL_vram, .static yL_vram, .initialized yL_vram.cls, .codeWith yL_vram cL_vram 4 (some .int) [(0, 9, 12, 18)]]) (goodIn_of _ (by decide +kernel)) wq_all_in
theorem cs_L_vram : yL_vram.cls ≠ "java/lang/invoke/MethodHandle" ∧ yL_vram.cls ≠ "java/lang/invoke/VarHandle" ∧ (parseMethodDescriptor yL_vram.desc).map (fun d => d.parameters.length) = some 3 := by decide +kernel
theorem l_vram_ok (l : Launch) (D : va_G) (ad : Nat → Nat) (cy : Nat → ClassId) (tl : Int32) (oa : Nat) (co : ClassId) (Ac : Nat → Prop) (ho : ¬ Ac oa) (p0 : Int32) (hp0 : zI 0 16383 p0) : zMi l yL_vram wz_L_vram ({ frames := 2, cells := 0, slots := 0, locals := 43 }) [.ref (ad 0), .int p0, .ref oa] D ((co, .long) :: zTc cy) (fun q => Ac q ∨ q = oa) (fun H => zMc D Ac ad cy tl H ∧ zOut oa co H) (fun _ H => zMc D Ac ad cy tl H ∧ zOut oa co H) := by
  refine zstartW_i (cc := cL_vram) (maxL := 4) (ty := .int) (own := RL) (by decide) rfl rfl (Nat.le_of_ble_eq_true rfl) (fun p e s m args below meth c Q C r => ?_)
  have hKc : va_K D vwCl (zTc cy) s := C.2.2.2.2.2.sub (tys' := zTc cy) [1, 2, 3, 4, 5, 6, 7, 8] rfl
  refine g_sub (lv' := [(0, .ref (ad 0)), (1, .int p0), (2, .ref oa)]) [0, 1, 2] rfl ?_
  refine g_aload_n (pc := 0) C dL_vram_0 rfl 2 rfl ?_
  refine g_iconst (pc := 1) C 0 dL_vram_1 (by decide) ?_
  refine g_aload_n (pc := 2) C dL_vram_2 rfl 0 rfl ?_
  refine g_iload_n (pc := 3) C dL_vram_3 rfl 1 rfl ?_
  refine zcallBi (pc := 4) (st := [.int 0, .ref oa]) C hKc (n_X6_vramA l D ad cy tl Ac p0 hp0) (cwV 1 C.2.2.2.2.1 gw_RL_15 rfl rfl rfl cd_X6_vram ⟨Nat.le_of_ble_eq_true rfl, Nat.le_of_ble_eq_true rfl⟩) (zrec hKc (ci := 6) rfl 0 (fun _ => rfl)) (fun q h => Or.inl h) (fun H H1 h hk => zOut_kept h (fun q hq e => hk q hq (by rw [e]; exact ho))) rfl rfl (Nat.le_of_ble_eq_true rfl) ⟨Nat.le_of_ble_eq_true rfl, Nat.le_of_ble_eq_true rfl⟩ dL_vram_4 (fun r1 => ?_)
  refine g_i2l (pc := 7) C dL_vram_7 (fun z1 e1 => ?_)
  refine z_out (pc := 8) C 0 rfl (Or.inr rfl) (fun H H1 h hk => zM_kept h (fun q _ hq => hk q (fun e => ho (by rw [← e]; exact hq)))) (by unfold vp_in; decide) dL_vram_8 ?_
  refine g_goto (pc := 9) C 15 dL_vram_9 (by decide) ?_
  refine g_iconst (pc := 15) C 0 dL_vram_15 (by decide) ?_
  exact g_ireturn r dL_vram_16 rfl (fun _ h => h)

