set_option maxHeartbeats 8000000 in
set_option maxRecDepth 100000 in
theorem law_loop {p : Program} {e : Env} {s : State} {m : MethodId} {below : List Frame} {meth : Method} {c : Code} (l : Launch) (hl0 : l.stackTraces = false) {b L : Nat} {xs : Nat → Int32} (hL : L ≤ 3072) (C0 : lw_At p s m meth c b L xs) (D : va_G) (hKc : ∀ (k : Nat) (q : vw_C), vwCl[k]? = some q → u_Kn s q.1 q.2.1 q.2.2 (D.1 k) (D.2 k)) (ad be : Nat → Nat) (cy dy : Nat → ClassId) (oa : Nat) (co : ClassId) (hKC : va_K D vwCl (zTc cy) s) (hKR : va_K D vwCl (zTr dy) s) (hKO : va_K D vwCl ((co, .long) :: zTc cy) s) (g1 : ∀ i, i < 20 → s.heap.size ≤ ad i) (g2 : ∀ i, i < 10 → s.heap.size ≤ be i) (g3 : s.heap.size ≤ oa) (g4 : ∀ i j, i < 20 → j < 10 → ad i ≠ be j) (g5 : ∀ i, i < 20 → ad i ≠ oa) (g6 : ∀ i, i < 10 → be i ≠ oa) : ∀ (n j : Nat), L - 6 * j = n → 6 * j ≤ L → zG p l e room_1 s m #[Value.ref b] below meth c 7 (31 + j) (111979 + 6 * j) (fun q => s.heap.size ≤ q) (lw_Z below #[Value.ref b] s) (zLL D ad be cy dy oa co) 23 [(0, .ref b), (1, .ref (ad 0)), (2, .ref (be 0)), (3, .ref oa), (4, .int (nI (6 * j)))] [] := by
  obtain ⟨hx, hb, hr, hml, hown, hts, hX, hbl, hlocks, hgv⟩ := id C0
  have hb : c.code = cL_law := hb
  have hown : s.vm.findClass RL = some m.cls := hown
  have hbA : ¬ (fun q : Nat => s.heap.size ≤ q) b := Nat.not_le.mpr hbl
  have C : zC p s m #[Value.ref b] c cL_law 7 RL (Cond.initialized RX6 :: wq_all) D [] := ⟨hx, hb, hml, hown, fun w h => by
    rcases List.mem_cons.mp h with rfl | h
    · exact hts _ (wq_all_in _ wk_80).1
    · exact hts _ (wq_all_in w h).1, ⟨hKc, fun k q h => by simp at h⟩⟩
  have hKn6 := hKc 6 _ rfl
  have hfl := flat_of_before _ hgv
  have hnA : ∀ a : Nat, a < s.heap.size → ¬ (fun q : Nat => s.heap.size ≤ q) a := fun a h => Nat.not_le.mpr h
  have hZ1 : vx_Zq Bundle.tN "UNASSIGNED_STACK" Bundle.steD (fun q : Nat => s.heap.size ≤ q) s s.heap := vx_Zqof (hts (.laysStatic "java/lang/Throwable" "UNASSIGNED_STACK" "[Ljava/lang/StackTraceElement;") (by decide +kernel)) (hts (.initialized "java/lang/Throwable") (by decide +kernel)) (hfl (.isRef (.static "java/lang/Throwable" "UNASSIGNED_STACK" "[Ljava/lang/StackTraceElement;")) (by decide +kernel)) hnA
  have hZ2 : vx_Zq Bundle.tN "SUPPRESSED_SENTINEL" Bundle.listD (fun q : Nat => s.heap.size ≤ q) s s.heap := vx_Zqof (hts (.laysStatic "java/lang/Throwable" "SUPPRESSED_SENTINEL" "Ljava/util/List;") (by decide +kernel)) (hts (.initialized "java/lang/Throwable") (by decide +kernel)) (hfl (.isRef (.static "java/lang/Throwable" "SUPPRESSED_SENTINEL" "Ljava/util/List;")) (by decide +kernel)) hnA
  obtain ⟨_, _, _, sa97, -, -, -, -, -, hse97⟩ := Cond.stringRef_spec (cls := RX6) (index := 97) (text := "from 0 to 2000 instructions can be done at once") hKn6.2.1 (hts (.stringRef RX6 97 "from 0 to 2000 instructions can be done at once") (by decide +kernel))
  have hst97 : vk_R RX6 97 "from 0 to 2000 instructions can be done at once" sa97 s := vk_R.of (A := #[Value.ref b]) (hts (.stringRef RX6 97 "from 0 to 2000 instructions can be done at once") (by decide +kernel)) hse97
  have hca97 : va_Nw (.castable "java/lang/IllegalArgumentException" "java/lang/IllegalArgumentException") s := va_Nw.of rfl (hts (.castable "java/lang/IllegalArgumentException" "java/lang/IllegalArgumentException") (by decide +kernel))
  obtain ⟨_, _, _, sa154, -, -, -, -, -, hse154⟩ := Cond.stringRef_spec (cls := RX6) (index := 154) (text := "VRAM has the addresses 0 to 16383") hKn6.2.1 (hts (.stringRef RX6 154 "VRAM has the addresses 0 to 16383") (by decide +kernel))
  have hst154 : vk_R RX6 154 "VRAM has the addresses 0 to 16383" sa154 s := vk_R.of (A := #[Value.ref b]) (hts (.stringRef RX6 154 "VRAM has the addresses 0 to 16383") (by decide +kernel)) hse154
  have hca154 : va_Nw (.castable "java/util/NoSuchElementException" "java/util/NoSuchElementException") s := va_Nw.of rfl (hts (.castable "java/util/NoSuchElementException" "java/util/NoSuchElementException") (by decide +kernel))
  have hde0 : va_Nw (.declares (Bundle.initS "java/lang/RuntimeException")) s := va_Nw.of rfl (hts (.declares (Bundle.initS "java/lang/RuntimeException")) (by decide +kernel))
  have hde1 : va_Nw (.declares (Bundle.initS "java/lang/Exception")) s := va_Nw.of rfl (hts (.declares (Bundle.initS "java/lang/Exception")) (by decide +kernel))
  have hde2 : va_Nw (.declares (Bundle.initS Bundle.tN)) s := va_Nw.of rfl (hts (.declares (Bundle.initS Bundle.tN)) (by decide +kernel))
  have hKO0 : va_K D vwCl [] s := ⟨hKc, fun k q h => by simp at h⟩
  have hac : ∀ q, zAc ad q → s.heap.size ≤ q := fun q ⟨i, hi, hq⟩ => by rw [hq]; exact g1 i hi
  have har : ∀ q, zAr be q → s.heap.size ≤ q := fun q ⟨i, hi, hq⟩ => by rw [hq]; exact g2 i hi
  have hcr : ∀ q, zAr be q → ¬ zAc ad q := fun q ⟨i, hi, hq⟩ ⟨i2, hi2, hq2⟩ => g4 i2 i hi2 hi (hq2.symm.trans hq)
  have hco : ¬ zAc ad oa := fun ⟨i, hi, hq⟩ => g5 i hi hq.symm
  have hro : ¬ zAr be oa := fun ⟨i, hi, hq⟩ => g6 i hi hq.symm
  have kC : ∀ (t : Int32) (H H1 : Heap), (zMr D (zAr be) be dy t H ∧ zOut oa co H) → (∀ q : Nat, q < H.size → ¬ zAc ad q → H1[q]? = H[q]?) → (zMr D (zAr be) be dy t H1 ∧ zOut oa co H1) := fun t H H1 h hk => ⟨zM_kept h.1 (fun q hq ha => hk q hq (hcr q ha)), zOut_kept h.2 (fun q hq e9 => hk q hq (by rw [e9]; exact hco))⟩
  have kR : ∀ (t : Int32) (H H1 : Heap), (zMc D (zAc ad) ad cy t H ∧ zOut oa co H) → (∀ q : Nat, q < H.size → ¬ zAr be q → H1[q]? = H[q]?) → (zMc D (zAc ad) ad cy t H1 ∧ zOut oa co H1) := fun t H H1 h hk => ⟨zM_kept h.1 (fun q hq ha => hk q hq (fun h9 => hcr q h9 ha)), zOut_kept h.2 (fun q hq e9 => hk q hq (by rw [e9]; exact hro))⟩
  have kT : ∀ (t : Int32) (H H1 : Heap), zMr D (zAr be) be dy t H → (∀ q : Nat, q < H.size → ¬ (zAc ad q ∨ q = oa) → H1[q]? = H[q]?) → zMr D (zAr be) be dy t H1 := fun t H H1 h hk => zM_kept h (fun q hq ha => hk q hq (fun h9 => h9.elim (hcr q ha) (fun e9 => hro (by rw [← e9]; exact ha))))
  intro n
  induction n using Nat.strongRecOn with
  | ind n ih =>
    intro j hn hj
    have hcs : 31 + j + 0 ≤ room_1.cells ∧ 111979 + 6 * j + 0 ≤ room_1.slots := ⟨by show _ ≤ 601024; omega, by show _ ≤ 7293034; omega⟩
    refine g_ex (fun tl => ?_)
    refine g_and (M2 := fun H => zMc D (zAc ad) ad cy tl H ∧ (zMr D (zAr be) be dy tl H ∧ zOut oa co H)) (fun htl => ?_)
    refine g_iload (pc := 23) C dL_law_23 4 rfl ?_
    refine g_aload_n (pc := 25) C dL_law_25 rfl 0 rfl ?_
    refine zslen (pc := 26) C hX hbl hbA dL_law_26 ?_
    refine g_bipush (pc := 27) C 6 dL_law_27 (by decide) ?_
    refine g_isub (pc := 29) C dL_law_29 (fun zl ezl => ?_)
    refine g_icmp_gt (pc := 30) C 657 dL_law_30 (by decide) (fun cl => ?_) (fun cl => ?_)
    · refine g_iconst (pc := 657) C 1 dL_law_657 (by decide) ?_
      exact fun H locs ls hl hM hS => va_forget (fun q hq => hS.2.2 q hq) (W.widen (k := 601024) (n := 7293034) (by omega) (by omega) (lw_ret hx hb hr hlocks dL_law_658))
    have hlt := zsl hL hj ezl cl
    have hcs2 : 31 + (j + 1) + 0 ≤ room_1.cells ∧ 111979 + 6 * (j + 1) + 0 ≤ room_1.slots := ⟨by show _ ≤ 601024; omega, by show _ ≤ 7293034; omega⟩
    have JE : zG p l e room_1 s m #[Value.ref b] below meth c 7 (31 + (j + 1)) (111979 + 6 * (j + 1)) (fun q => s.heap.size ≤ q) (lw_Z below #[Value.ref b] s) (zLL D ad be cy dy oa co) 651 [(0, .ref b), (1, .ref (ad 0)), (2, .ref (be 0)), (3, .ref oa), (4, .int (nI (6 * j)))] [] := by
      refine g_iinc (pc := 651) C (nI (6 * (j + 1))) ([(4, .int (nI (6 * (j + 1)))), (0, .ref b), (1, .ref (ad 0)), (2, .ref (be 0)), (3, .ref oa)]) dL_law_651 4 rfl (nI_add (6 * j) 6) (Nat.le_of_ble_eq_true rfl) rfl ?_
      refine g_goto (pc := 654) C 23 dL_law_654 (by decide) ?_
      exact g_sub [1, 2, 3, 4, 0] rfl (ih (L - 6 * (j + 1)) (by omega) (j + 1) rfl (by omega))
    refine g_aload_n (pc := 33) C dL_law_33 rfl 0 rfl ?_
    refine g_iload (pc := 34) C dL_law_34 4 rfl ?_
    refine zsld (pc := 36) C hX hbl hbA (zix0 hL hlt).1 rfl dL_law_36 ?_
    refine g_bipush (pc := 37) C 31 dL_law_37 (by decide) ?_
    refine g_iand (pc := 39) C dL_law_39 (fun zk ezk => ?_)
    refine g_table (pc := 40) C [651, 124, 197, 222, 259, 270, 298, 323, 348, 385, 410, 438, 463, 474, 499, 564, 589, 614] dL_law_40 (by decide) (by decide) (by decide) (List.forall_mem_cons.mpr ⟨?_, (List.forall_mem_cons.mpr ⟨?_, (List.forall_mem_cons.mpr ⟨?_, (List.forall_mem_cons.mpr ⟨?_, (List.forall_mem_cons.mpr ⟨?_, (List.forall_mem_cons.mpr ⟨?_, (List.forall_mem_cons.mpr ⟨?_, (List.forall_mem_cons.mpr ⟨?_, (List.forall_mem_cons.mpr ⟨?_, (List.forall_mem_cons.mpr ⟨?_, (List.forall_mem_cons.mpr ⟨?_, (List.forall_mem_cons.mpr ⟨?_, (List.forall_mem_cons.mpr ⟨?_, (List.forall_mem_cons.mpr ⟨?_, (List.forall_mem_cons.mpr ⟨?_, (List.forall_mem_cons.mpr ⟨?_, (List.forall_mem_cons.mpr ⟨?_, (List.forall_mem_cons.mpr ⟨?_, fun _ h => absurd h List.not_mem_nil⟩)⟩)⟩)⟩)⟩)⟩)⟩)⟩)⟩)⟩)⟩)⟩)⟩)⟩)⟩)⟩)⟩)⟩)
    · refine g_weak (M2 := zLL D ad be cy dy oa co) (fun H h => ⟨tl, htl, h⟩) ?_
      refine g_sub (lv' := [(0, .ref b), (1, .ref (ad 0)), (2, .ref (be 0)), (3, .ref oa), (4, .int (nI (6 * j)))]) [0, 1, 2, 3, 4] rfl ?_
      refine g_widen (k := 31 + (j + 1)) (q := 111979 + 6 * (j + 1)) (by omega) (by omega) ?_
      exact JE
    · refine g_aload_n (pc := 124) C dL_law_124 rfl 1 rfl ?_
      refine g_aload_n (pc := 125) C dL_law_125 rfl 0 rfl ?_
      refine g_iload (pc := 126) C dL_law_126 4 rfl ?_
      refine g_iconst (pc := 128) C 1 dL_law_128 (by decide) ?_
      refine g_iadd (pc := 129) C dL_law_129 (fun y1 ey1 => ?_)
      refine zsld (pc := 130) C (v := (xs (6 * j + 1))) hX hbl hbA (zix hL hlt (k := 1) (by decide) (by decide) ey1).1 (by rw [(zix hL hlt (k := 1) (by decide) (by decide) ey1).2]) dL_law_130 ?_
      refine g_aload_n (pc := 131) C dL_law_131 rfl 0 rfl ?_
      refine g_iload (pc := 132) C dL_law_132 4 rfl ?_
      refine g_iconst (pc := 134) C 2 dL_law_134 (by decide) ?_
      refine g_iadd (pc := 135) C dL_law_135 (fun y2 ey2 => ?_)
      refine zsld (pc := 136) C (v := (xs (6 * j + 2))) hX hbl hbA (zix hL hlt (k := 2) (by decide) (by decide) ey2).1 (by rw [(zix hL hlt (k := 2) (by decide) (by decide) ey2).2]) dL_law_136 ?_
      refine g_aload_n (pc := 137) C dL_law_137 rfl 0 rfl ?_
      refine g_iload (pc := 138) C dL_law_138 4 rfl ?_
      refine g_iconst (pc := 140) C 3 dL_law_140 (by decide) ?_
      refine g_iadd (pc := 141) C dL_law_141 (fun y3 ey3 => ?_)
      refine zsld (pc := 142) C (v := (xs (6 * j + 3))) hX hbl hbA (zix hL hlt (k := 3) (by decide) (by decide) ey3).1 (by rw [(zix hL hlt (k := 3) (by decide) (by decide) ey3).2]) dL_law_142 ?_
      refine g_aload_n (pc := 143) C dL_law_143 rfl 0 rfl ?_
      refine g_iload (pc := 144) C dL_law_144 4 rfl ?_
      refine g_iconst (pc := 146) C 4 dL_law_146 (by decide) ?_
      refine g_iadd (pc := 147) C dL_law_147 (fun y4 ey4 => ?_)
      refine zsld (pc := 148) C (v := (xs (6 * j + 4))) hX hbl hbA (zix hL hlt (k := 4) (by decide) (by decide) ey4).1 (by rw [(zix hL hlt (k := 4) (by decide) (by decide) ey4).2]) dL_law_148 ?_
      refine g_aload_n (pc := 149) C dL_law_149 rfl 0 rfl ?_
      refine g_iload (pc := 150) C dL_law_150 4 rfl ?_
      refine g_iconst (pc := 152) C 5 dL_law_152 (by decide) ?_
      refine g_iadd (pc := 153) C dL_law_153 (fun y5 ey5 => ?_)
      refine zsld (pc := 154) C (v := (xs (6 * j + 5))) hX hbl hbA (zix hL hlt (k := 5) (by decide) (by decide) ey5).1 (by rw [(zix hL hlt (k := 5) (by decide) (by decide) ey5).2]) dL_law_154 ?_
      refine zcallBi (pc := 155) (st := []) C hKC (n_X6_feed l D ad cy tl (zAc ad) (xs (6 * j + 1)) (xs (6 * j + 2)) (xs (6 * j + 3)) (xs (6 * j + 4)) (xs (6 * j + 5)) htl) (cwV 5 C.2.2.2.2.1 gw_RL_24 rfl rfl rfl cd_X6_feed ⟨Nat.le_of_ble_eq_true rfl, Nat.le_of_ble_eq_true rfl⟩) (zrec hKC (ci := 6) rfl 0 (fun _ => rfl)) hac (kC tl) rfl rfl (Nat.le_of_ble_eq_true rfl) hcs dL_law_155 (fun r6 => ?_)
      refine g_exl (fun t7 ht7 => ?_)
      refine g_pop (pc := 158) C dL_law_158 rfl ?_
      refine g_aload_n (pc := 159) C dL_law_159 rfl 2 rfl ?_
      refine g_aload_n (pc := 160) C dL_law_160 rfl 0 rfl ?_
      refine g_iload (pc := 161) C dL_law_161 4 rfl ?_
      refine g_iconst (pc := 163) C 1 dL_law_163 (by decide) ?_
      refine g_iadd (pc := 164) C dL_law_164 (fun y8 ey8 => ?_)
      refine zsld (pc := 165) C (v := (xs (6 * j + 1))) hX hbl hbA (zix hL hlt (k := 1) (by decide) (by decide) ey8).1 (by rw [(zix hL hlt (k := 1) (by decide) (by decide) ey8).2]) dL_law_165 ?_
      refine g_aload_n (pc := 166) C dL_law_166 rfl 0 rfl ?_
      refine g_iload (pc := 167) C dL_law_167 4 rfl ?_
      refine g_iconst (pc := 169) C 2 dL_law_169 (by decide) ?_
      refine g_iadd (pc := 170) C dL_law_170 (fun y9 ey9 => ?_)
      refine zsld (pc := 171) C (v := (xs (6 * j + 2))) hX hbl hbA (zix hL hlt (k := 2) (by decide) (by decide) ey9).1 (by rw [(zix hL hlt (k := 2) (by decide) (by decide) ey9).2]) dL_law_171 ?_
      refine g_aload_n (pc := 172) C dL_law_172 rfl 0 rfl ?_
      refine g_iload (pc := 173) C dL_law_173 4 rfl ?_
      refine g_iconst (pc := 175) C 3 dL_law_175 (by decide) ?_
      refine g_iadd (pc := 176) C dL_law_176 (fun y10 ey10 => ?_)
      refine zsld (pc := 177) C (v := (xs (6 * j + 3))) hX hbl hbA (zix hL hlt (k := 3) (by decide) (by decide) ey10).1 (by rw [(zix hL hlt (k := 3) (by decide) (by decide) ey10).2]) dL_law_177 ?_
      refine g_aload_n (pc := 178) C dL_law_178 rfl 0 rfl ?_
      refine g_iload (pc := 179) C dL_law_179 4 rfl ?_
      refine g_iconst (pc := 181) C 4 dL_law_181 (by decide) ?_
      refine g_iadd (pc := 182) C dL_law_182 (fun y11 ey11 => ?_)
      refine zsld (pc := 183) C (v := (xs (6 * j + 4))) hX hbl hbA (zix hL hlt (k := 4) (by decide) (by decide) ey11).1 (by rw [(zix hL hlt (k := 4) (by decide) (by decide) ey11).2]) dL_law_183 ?_
      refine g_aload_n (pc := 184) C dL_law_184 rfl 0 rfl ?_
      refine g_iload (pc := 185) C dL_law_185 4 rfl ?_
      refine g_iconst (pc := 187) C 5 dL_law_187 (by decide) ?_
      refine g_iadd (pc := 188) C dL_law_188 (fun y12 ey12 => ?_)
      refine zsld (pc := 189) C (v := (xs (6 * j + 5))) hX hbl hbA (zix hL hlt (k := 5) (by decide) (by decide) ey12).1 (by rw [(zix hL hlt (k := 5) (by decide) (by decide) ey12).2]) dL_law_189 ?_
      refine g_weak (M2 := fun H => zMr D (zAr be) be dy tl H ∧ (zMc D (zAc ad) ad cy t7 H ∧ zOut oa co H)) (fun H h => ⟨h.2.1, h.1, h.2.2⟩) ?_
      refine zcallBi (pc := 190) (st := []) C hKR (n_X7_feed l D be dy tl (zAr be) (xs (6 * j + 1)) (xs (6 * j + 2)) (xs (6 * j + 3)) (xs (6 * j + 4)) (xs (6 * j + 5)) htl) (cwV 5 C.2.2.2.2.1 gw_RL_28 rfl rfl rfl cd_X7_feed ⟨Nat.le_of_ble_eq_true rfl, Nat.le_of_ble_eq_true rfl⟩) (zrec hKR (ci := 7) rfl 0 (fun _ => rfl)) har (kR t7) rfl rfl (Nat.le_of_ble_eq_true rfl) hcs dL_law_190 (fun r13 => ?_)
      refine g_exl (fun t14 ht14 => ?_)
      obtain ⟨eqr, eqt⟩ := zfeed_fun ht7 ht14
      subst eqt
      have htl15 := zfeed_in htl ht7
      refine g_pop (pc := 193) C dL_law_193 rfl ?_
      refine g_goto (pc := 194) C 651 dL_law_194 (by decide) ?_
      refine g_weak (M2 := fun H => zMc D (zAc ad) ad cy t7 H ∧ (zMr D (zAr be) be dy t7 H ∧ zOut oa co H)) (fun H h => ⟨h.2.1, h.1, h.2.2⟩) ?_
      refine g_weak (M2 := zLL D ad be cy dy oa co) (fun H h => ⟨t7, htl15, h⟩) ?_
      refine g_sub (lv' := [(0, .ref b), (1, .ref (ad 0)), (2, .ref (be 0)), (3, .ref oa), (4, .int (nI (6 * j)))]) [0, 1, 2, 3, 4] rfl ?_
      refine g_widen (k := 31 + (j + 1)) (q := 111979 + 6 * (j + 1)) (by omega) (by omega) ?_
      exact JE
    · refine g_aload_n (pc := 197) C dL_law_197 rfl 1 rfl ?_
      refine g_aload_n (pc := 198) C dL_law_198 rfl 0 rfl ?_
      refine g_iload (pc := 199) C dL_law_199 4 rfl ?_
      refine g_iconst (pc := 201) C 1 dL_law_201 (by decide) ?_
      refine g_iadd (pc := 202) C dL_law_202 (fun y16 ey16 => ?_)
      refine zsld (pc := 203) C (v := (xs (6 * j + 1))) hX hbl hbA (zix hL hlt (k := 1) (by decide) (by decide) ey16).1 (by rw [(zix hL hlt (k := 1) (by decide) (by decide) ey16).2]) dL_law_203 ?_
      refine zcallBi (pc := 204) (st := []) C hKC (n_X6_end l D ad cy tl (zAc ad) (xs (6 * j + 1)) htl) (cwV 1 C.2.2.2.2.1 gw_RL_29 rfl rfl rfl cd_X6_end ⟨Nat.le_of_ble_eq_true rfl, Nat.le_of_ble_eq_true rfl⟩) (zrec hKC (ci := 6) rfl 0 (fun _ => rfl)) hac (kC tl) rfl rfl (Nat.le_of_ble_eq_true rfl) hcs dL_law_204 (fun r17 => ?_)
      refine g_exl (fun t18 ht18 => ?_)
      refine g_pop (pc := 207) C dL_law_207 rfl ?_
      refine g_aload_n (pc := 208) C dL_law_208 rfl 2 rfl ?_
      refine g_aload_n (pc := 209) C dL_law_209 rfl 0 rfl ?_
      refine g_iload (pc := 210) C dL_law_210 4 rfl ?_
      refine g_iconst (pc := 212) C 1 dL_law_212 (by decide) ?_
      refine g_iadd (pc := 213) C dL_law_213 (fun y19 ey19 => ?_)
      refine zsld (pc := 214) C (v := (xs (6 * j + 1))) hX hbl hbA (zix hL hlt (k := 1) (by decide) (by decide) ey19).1 (by rw [(zix hL hlt (k := 1) (by decide) (by decide) ey19).2]) dL_law_214 ?_
      refine g_weak (M2 := fun H => zMr D (zAr be) be dy tl H ∧ (zMc D (zAc ad) ad cy t18 H ∧ zOut oa co H)) (fun H h => ⟨h.2.1, h.1, h.2.2⟩) ?_
      refine zcallBi (pc := 215) (st := []) C hKR (n_X7_end l D be dy tl (zAr be) (xs (6 * j + 1)) htl) (cwV 1 C.2.2.2.2.1 gw_RL_32 rfl rfl rfl cd_X7_end ⟨Nat.le_of_ble_eq_true rfl, Nat.le_of_ble_eq_true rfl⟩) (zrec hKR (ci := 7) rfl 0 (fun _ => rfl)) har (kR t18) rfl rfl (Nat.le_of_ble_eq_true rfl) hcs dL_law_215 (fun r20 => ?_)
      refine g_exl (fun t21 ht21 => ?_)
      obtain ⟨eqr, eqt⟩ := zend_fun ht18 ht21
      subst eqt
      have htl22 := zend_in htl ht18
      refine g_pop (pc := 218) C dL_law_218 rfl ?_
      refine g_goto (pc := 219) C 651 dL_law_219 (by decide) ?_
      refine g_weak (M2 := fun H => zMc D (zAc ad) ad cy t18 H ∧ (zMr D (zAr be) be dy t18 H ∧ zOut oa co H)) (fun H h => ⟨h.2.1, h.1, h.2.2⟩) ?_
      refine g_weak (M2 := zLL D ad be cy dy oa co) (fun H h => ⟨t18, htl22, h⟩) ?_
      refine g_sub (lv' := [(0, .ref b), (1, .ref (ad 0)), (2, .ref (be 0)), (3, .ref oa), (4, .int (nI (6 * j)))]) [0, 1, 2, 3, 4] rfl ?_
      refine g_widen (k := 31 + (j + 1)) (q := 111979 + 6 * (j + 1)) (by omega) (by omega) ?_
      exact JE
    · refine g_aload_n (pc := 222) C dL_law_222 rfl 1 rfl ?_
      refine g_aload_n (pc := 223) C dL_law_223 rfl 0 rfl ?_
      refine g_iload (pc := 224) C dL_law_224 4 rfl ?_
      refine g_iconst (pc := 226) C 1 dL_law_226 (by decide) ?_
      refine g_iadd (pc := 227) C dL_law_227 (fun y23 ey23 => ?_)
      refine zsld (pc := 228) C (v := (xs (6 * j + 1))) hX hbl hbA (zix hL hlt (k := 1) (by decide) (by decide) ey23).1 (by rw [(zix hL hlt (k := 1) (by decide) (by decide) ey23).2]) dL_law_228 ?_
      refine g_aload_n (pc := 229) C dL_law_229 rfl 0 rfl ?_
      refine g_iload (pc := 230) C dL_law_230 4 rfl ?_
      refine g_iconst (pc := 232) C 2 dL_law_232 (by decide) ?_
      refine g_iadd (pc := 233) C dL_law_233 (fun y24 ey24 => ?_)
      refine zsld (pc := 234) C (v := (xs (6 * j + 2))) hX hbl hbA (zix hL hlt (k := 2) (by decide) (by decide) ey24).1 (by rw [(zix hL hlt (k := 2) (by decide) (by decide) ey24).2]) dL_law_234 ?_
      refine zcallBi (pc := 235) (st := []) C hKC (n_X6_load l D ad cy tl (zAc ad) (xs (6 * j + 1)) (xs (6 * j + 2)) htl) (cwV 2 C.2.2.2.2.1 gw_RL_33 rfl rfl rfl cd_X6_load ⟨Nat.le_of_ble_eq_true rfl, Nat.le_of_ble_eq_true rfl⟩) (zrec hKC (ci := 6) rfl 0 (fun _ => rfl)) hac (kC tl) rfl rfl (Nat.le_of_ble_eq_true rfl) hcs dL_law_235 (fun r25 => ?_)
      refine g_exl (fun t26 ht26 => ?_)
      refine g_aload_n (pc := 238) C dL_law_238 rfl 2 rfl ?_
      refine g_aload_n (pc := 239) C dL_law_239 rfl 0 rfl ?_
      refine g_iload (pc := 240) C dL_law_240 4 rfl ?_
      refine g_iconst (pc := 242) C 1 dL_law_242 (by decide) ?_
      refine g_iadd (pc := 243) C dL_law_243 (fun y27 ey27 => ?_)
      refine zsld (pc := 244) C (v := (xs (6 * j + 1))) hX hbl hbA (zix hL hlt (k := 1) (by decide) (by decide) ey27).1 (by rw [(zix hL hlt (k := 1) (by decide) (by decide) ey27).2]) dL_law_244 ?_
      refine g_aload_n (pc := 245) C dL_law_245 rfl 0 rfl ?_
      refine g_iload (pc := 246) C dL_law_246 4 rfl ?_
      refine g_iconst (pc := 248) C 2 dL_law_248 (by decide) ?_
      refine g_iadd (pc := 249) C dL_law_249 (fun y28 ey28 => ?_)
      refine zsld (pc := 250) C (v := (xs (6 * j + 2))) hX hbl hbA (zix hL hlt (k := 2) (by decide) (by decide) ey28).1 (by rw [(zix hL hlt (k := 2) (by decide) (by decide) ey28).2]) dL_law_250 ?_
      refine g_weak (M2 := fun H => zMr D (zAr be) be dy tl H ∧ (zMc D (zAc ad) ad cy t26 H ∧ zOut oa co H)) (fun H h => ⟨h.2.1, h.1, h.2.2⟩) ?_
      refine zcallBi (pc := 251) (st := [.int r25]) C hKR (n_X7_load l D be dy tl (zAr be) (xs (6 * j + 1)) (xs (6 * j + 2)) htl) (cwV 2 C.2.2.2.2.1 gw_RL_37 rfl rfl rfl cd_X7_load ⟨Nat.le_of_ble_eq_true rfl, Nat.le_of_ble_eq_true rfl⟩) (zrec hKR (ci := 7) rfl 0 (fun _ => rfl)) har (kR t26) rfl rfl (Nat.le_of_ble_eq_true rfl) hcs dL_law_251 (fun r29 => ?_)
      refine g_exl (fun t30 ht30 => ?_)
      obtain ⟨eqr, eqt⟩ := zload_fun ht26 ht30
      subst eqt
      have htl31 := zload_in htl ht26
      refine g_icmp_eq (pc := 254) C 651 dL_law_254 (by decide) (fun _ => ?_) (fun h => absurd (eqr) h)
      refine g_weak (M2 := fun H => zMc D (zAc ad) ad cy t26 H ∧ (zMr D (zAr be) be dy t26 H ∧ zOut oa co H)) (fun H h => ⟨h.2.1, h.1, h.2.2⟩) ?_
      refine g_weak (M2 := zLL D ad be cy dy oa co) (fun H h => ⟨t26, htl31, h⟩) ?_
      refine g_sub (lv' := [(0, .ref b), (1, .ref (ad 0)), (2, .ref (be 0)), (3, .ref oa), (4, .int (nI (6 * j)))]) [0, 1, 2, 3, 4] rfl ?_
      refine g_widen (k := 31 + (j + 1)) (q := 111979 + 6 * (j + 1)) (by omega) (by omega) ?_
      exact JE
    · refine g_aload_n (pc := 259) C dL_law_259 rfl 1 rfl ?_
      refine zcallBv (pc := 260) (st := []) C hKC (n_X6_reset l D ad cy tl (zAc ad) ) (cwV 0 C.2.2.2.2.1 gw_RL_38 rfl rfl rfl cd_X6_reset ⟨Nat.le_of_ble_eq_true rfl, Nat.le_of_ble_eq_true rfl⟩) (zrec hKC (ci := 6) rfl 0 (fun _ => rfl)) hac (kC tl) rfl rfl (Nat.le_of_ble_eq_true rfl) hcs dL_law_260 ?_
      refine g_aload_n (pc := 263) C dL_law_263 rfl 2 rfl ?_
      refine g_weak (M2 := fun H => zMr D (zAr be) be dy tl H ∧ (zMc D (zAc ad) ad cy tl H ∧ zOut oa co H)) (fun H h => ⟨h.2.1, h.1, h.2.2⟩) ?_
      refine zcallBv (pc := 264) (st := []) C hKR (n_X7_reset l D be dy tl (zAr be) ) (cwV 0 C.2.2.2.2.1 gw_RL_41 rfl rfl rfl cd_X7_reset ⟨Nat.le_of_ble_eq_true rfl, Nat.le_of_ble_eq_true rfl⟩) (zrec hKR (ci := 7) rfl 0 (fun _ => rfl)) har (kR tl) rfl rfl (Nat.le_of_ble_eq_true rfl) hcs dL_law_264 ?_
      refine g_goto (pc := 267) C 651 dL_law_267 (by decide) ?_
      refine g_weak (M2 := fun H => zMc D (zAc ad) ad cy tl H ∧ (zMr D (zAr be) be dy tl H ∧ zOut oa co H)) (fun H h => ⟨h.2.1, h.1, h.2.2⟩) ?_
      refine g_weak (M2 := zLL D ad be cy dy oa co) (fun H h => ⟨tl, htl, h⟩) ?_
      refine g_sub (lv' := [(0, .ref b), (1, .ref (ad 0)), (2, .ref (be 0)), (3, .ref oa), (4, .int (nI (6 * j)))]) [0, 1, 2, 3, 4] rfl ?_
      refine g_widen (k := 31 + (j + 1)) (q := 111979 + 6 * (j + 1)) (by omega) (by omega) ?_
      exact JE
    · refine g_aload_n (pc := 270) C dL_law_270 rfl 1 rfl ?_
      refine g_aload_n (pc := 271) C dL_law_271 rfl 0 rfl ?_
      refine g_iload (pc := 272) C dL_law_272 4 rfl ?_
      refine g_iconst (pc := 274) C 1 dL_law_274 (by decide) ?_
      refine g_iadd (pc := 275) C dL_law_275 (fun y32 ey32 => ?_)
      refine zsld (pc := 276) C (v := (xs (6 * j + 1))) hX hbl hbA (zix hL hlt (k := 1) (by decide) (by decide) ey32).1 (by rw [(zix hL hlt (k := 1) (by decide) (by decide) ey32).2]) dL_law_276 ?_
      refine g_aload_n (pc := 277) C dL_law_277 rfl 3 rfl ?_
      have K278 : ∀ r33 : Int32, zG p l e room_1 s m #[Value.ref b] below meth c 7 (31 + (j + 1)) (111979 + 6 * (j + 1)) (fun q => s.heap.size ≤ q) (lw_Z below #[Value.ref b] s) (fun H => zMc D (zAc ad) ad cy tl H ∧ (zMr D (zAr be) be dy tl H ∧ zOut oa co H)) 281 [(0, .ref b), (1, .ref (ad 0)), (2, .ref (be 0)), (3, .ref oa), (4, .int (nI (6 * j)))] [.int r33] := by
        intro r33
        refine g_istore (pc := 281) C ([(5, .int r33), (0, .ref b), (1, .ref (ad 0)), (2, .ref (be 0)), (3, .ref oa), (4, .int (nI (6 * j)))]) dL_law_281 (Nat.le_of_ble_eq_true rfl) rfl ?_
        refine g_aload_n (pc := 283) C dL_law_283 rfl 3 rfl ?_
        refine g_aload_n (pc := 284) C dL_law_284 rfl 1 rfl ?_
        refine g_iload (pc := 285) C dL_law_285 5 rfl ?_
        refine g_iconst (pc := 287) C 1 dL_law_287 (by decide) ?_
        refine g_iadd (pc := 288) C dL_law_288 (fun y34 ey34 => ?_)
        refine zsld (pc := 289) C (v := (xs (6 * j + 1))) hX hbl hbA (zix hL hlt (k := 1) (by decide) (by decide) ey34).1 (by rw [(zix hL hlt (k := 1) (by decide) (by decide) ey34).2]) dL_law_289 ?_
        refine g_weak (M2 := fun H => zMr D (zAr be) be dy tl H ∧ (zMc D (zAc ad) ad cy tl H ∧ zOut oa co H)) (fun H h => ⟨h.2.1, h.1, h.2.2⟩) ?_
        refine zcallBi (pc := 290) (st := []) C hKR (n_X7_run l D be dy tl (zAr be) (xs (6 * j + 1))) (cwV 1 C.2.2.2.2.1 gw_RL_47 rfl rfl rfl cd_X7_run ⟨Nat.le_of_ble_eq_true rfl, Nat.le_of_ble_eq_true rfl⟩) (zrec hKR (ci := 7) rfl 0 (fun _ => rfl)) har (kR tl) rfl rfl (Nat.le_of_ble_eq_true rfl) hcs2 dL_law_290 (fun r35 => ?_)
        refine g_istore (pc := 293) C ([(6, .int r35), (5, .int r33), (0, .ref b), (1, .ref (ad 0)), (2, .ref (be 0)), (3, .ref oa), (4, .int (nI (6 * j)))]) dL_law_293 (Nat.le_of_ble_eq_true rfl) rfl ?_
        refine g_goto (pc := 295) C 651 dL_law_295 (by decide) ?_
        refine g_weak (M2 := fun H => zMc D (zAc ad) ad cy tl H ∧ (zMr D (zAr be) be dy tl H ∧ zOut oa co H)) (fun H h => ⟨h.2.1, h.1, h.2.2⟩) ?_
        refine g_weak (M2 := zLL D ad be cy dy oa co) (fun H h => ⟨tl, htl, h⟩) ?_
        refine g_sub (lv' := [(0, .ref b), (1, .ref (ad 0)), (2, .ref (be 0)), (3, .ref oa), (4, .int (nI (6 * j)))]) [2, 3, 4, 5, 6] rfl ?_
        exact JE
      by_cases hg : 0 ≤ ((xs (6 * j + 1)) : Int32).toInt ∧ ((xs (6 * j + 1)) : Int32).toInt ≤ 2000
      · refine g_weak (M2 := fun H => (zMc D (zAc ad) ad cy tl H ∧ zOut oa co H) ∧ zMr D (zAr be) be dy tl H) (fun H h => ⟨⟨h.1, h.2.2⟩, h.2.1⟩) ?_
        refine zcallBT (pc := 278) (st := []) C hts hKO (l_run_ok l D ad cy tl oa co (zAc ad) hco (xs (6 * j + 1)) hg) (vx_cwSW 3 hts gq_L_run rfl rfl rfl cs_L_run ⟨Nat.le_of_ble_eq_true rfl, Nat.le_of_ble_eq_true rfl⟩) (fun q h => h.elim (hac q) (fun e9 => by rw [e9]; exact g3)) (kT tl) rfl rfl (Nat.le_of_ble_eq_true rfl) hcs dL_law_278 (fun r9 => ?_)
        refine g_weak (M2 := (fun H => zMc D (zAc ad) ad cy tl H ∧ (zMr D (zAr be) be dy tl H ∧ zOut oa co H))) (fun H h => ⟨h.1.1, h.2, h.1.2⟩) ?_
        exact g_widen (by omega) (by omega) (K278 r9)
      · intro H locs ls hl hMH hS
        obtain ⟨⟨x0, -, hP, hD⟩, hrest⟩ := id hMH
        have hPx := hP.sub (ws' := [(ad 0, .inr (6, [.ref (ad 1), .ref (ad 3), .ref (ad 7), .ref (ad 10), .ref (ad 12), .ref (ad 19), .int tl]))]) [0] rfl
        have hDx : va_D (fun _ => True) [(ad 0, .inr (6, [.ref (ad 1), .ref (ad 3), .ref (ad 7), .ref (ad 10), .ref (ad 12), .ref (ad 19), .int tl]))] := (hD.sub (ws' := [(ad 0, .inr (6, [.ref (ad 1), .ref (ad 3), .ref (ad 7), .ref (ad 10), .ref (ad 12), .ref (ad 19), .int tl]))]) [0] (by decide) rfl).weaken (fun _ _ _ _ => trivial)
        have hFc : ∀ q, va_A [] H.size q → s.heap.size ≤ q := fun q h => zaN h (fun q h9 => Nat.le_trans hS.1 h9)
        refine va_calli (vx_runSW (As := [.ref (ad 0), .int (xs (6 * j + 1)), .ref oa]) (rest := []) ⟨hx, hb, hml, hown, hts⟩ (l_run_thr l hl0 D.1 D.2 ad tl (xs (6 * j + 1)) sa97 oa H.size hg) (vx_cwSW 3 hts gq_L_runT rfl rfl rfl cs_L_run ⟨Nat.le_of_ble_eq_true rfl, Nat.le_of_ble_eq_true rfl⟩) ⟨fun a U g mk q => by obtain ⟨q0, q1, qP, qK, qD, q5, q6, n1, n2, n3, q7, q8⟩ := q; exact ⟨q0, q1, qP, va_K.moved (u := U) (U := U.calling g mk a) (Vm.Alike.refl U.vm) qK, qD, vk_R.same rfl q5, va_Nw.same rfl rfl q6, va_Nw.same rfl rfl n1, va_Nw.same rfl rfl n2, va_Nw.same rfl rfl n3, vx_Zq.moved (u := U) (U := U.calling g mk a) (Vm.Alike.refl U.vm) q7, vx_Zq.moved (u := U) (U := U.calling g mk a) (Vm.Alike.refl U.vm) q8⟩, fun U hU hW => ⟨rfl, by rw [hU], by rw [hU]; exact hPx, va_K.moved hW.alike hKO0, hDx, vk_R.warm hW hst97, va_Nw.warmC hW hca97, va_Nw.warmD hW hde0, va_Nw.warmD hW hde1, va_Nw.warmD hW hde2, by rw [hU]; exact vx_Zq.moved hW.alike (vx_Zq.narrow (vx_Zq.kept hZ1 (fun a ha hn9 => hS.2.1 a ha hn9)) hFc), by rw [hU]; exact vx_Zq.moved hW.alike (vx_Zq.narrow (vx_Zq.kept hZ2 (fun a ha hn9 => hS.2.1 a ha hn9)) hFc)⟩⟩ rfl rfl hl.1 rfl (lv_room (Nat.le_of_ble_eq_true rfl)) dL_law_278 ⟨by show _ ≤ 601024; omega, by show _ ≤ 7293034; omega⟩) hS (fun q _ h => hFc q h) hFc (fun r9 u t H1 locs1 ht hvm hw hB hz1 hk1 hS1 => ?_)
        have hkp : ∀ q : Nat, q < H.size → H1[q]? = H[q]? := fun q hq => hk1 q hq (fun h9 => by rcases h9 with ⟨k9, e9, h9⟩ | h9; simp at h9; omega)
        exact W.widen (by omega) (by omega) (K278 r9 H1 locs1 ls hl ⟨zM_kept hMH.1 (fun q hq _ => hkp q hq), zM_kept hMH.2.1 (fun q hq _ => hkp q hq), zOut_kept hMH.2.2 (fun q hq _ => hkp q hq)⟩ hS1)
    · refine g_aload_n (pc := 298) C dL_law_298 rfl 1 rfl ?_
      refine g_aload_n (pc := 299) C dL_law_299 rfl 0 rfl ?_
      refine g_iload (pc := 300) C dL_law_300 4 rfl ?_
      refine g_iconst (pc := 302) C 1 dL_law_302 (by decide) ?_
      refine g_iadd (pc := 303) C dL_law_303 (fun y36 ey36 => ?_)
      refine zsld (pc := 304) C (v := (xs (6 * j + 1))) hX hbl hbA (zix hL hlt (k := 1) (by decide) (by decide) ey36).1 (by rw [(zix hL hlt (k := 1) (by decide) (by decide) ey36).2]) dL_law_304 ?_
      refine zcallBi (pc := 305) (st := []) C hKC (n_X6_state l D ad cy tl (zAc ad) (xs (6 * j + 1))) (cwV 1 C.2.2.2.2.1 gw_RL_48 rfl rfl rfl cd_X6_state ⟨Nat.le_of_ble_eq_true rfl, Nat.le_of_ble_eq_true rfl⟩) (zrec hKC (ci := 6) rfl 0 (fun _ => rfl)) hac (kC tl) rfl rfl (Nat.le_of_ble_eq_true rfl) hcs dL_law_305 (fun r37 => ?_)
      refine g_pop (pc := 308) C dL_law_308 rfl ?_
      refine g_aload_n (pc := 309) C dL_law_309 rfl 2 rfl ?_
      refine g_aload_n (pc := 310) C dL_law_310 rfl 0 rfl ?_
      refine g_iload (pc := 311) C dL_law_311 4 rfl ?_
      refine g_iconst (pc := 313) C 1 dL_law_313 (by decide) ?_
      refine g_iadd (pc := 314) C dL_law_314 (fun y38 ey38 => ?_)
      refine zsld (pc := 315) C (v := (xs (6 * j + 1))) hX hbl hbA (zix hL hlt (k := 1) (by decide) (by decide) ey38).1 (by rw [(zix hL hlt (k := 1) (by decide) (by decide) ey38).2]) dL_law_315 ?_
      refine g_weak (M2 := fun H => zMr D (zAr be) be dy tl H ∧ (zMc D (zAc ad) ad cy tl H ∧ zOut oa co H)) (fun H h => ⟨h.2.1, h.1, h.2.2⟩) ?_
      refine zcallBi (pc := 316) (st := []) C hKR (n_X7_state l D be dy tl (zAr be) (xs (6 * j + 1))) (cwV 1 C.2.2.2.2.1 gw_RL_51 rfl rfl rfl cd_X7_state ⟨Nat.le_of_ble_eq_true rfl, Nat.le_of_ble_eq_true rfl⟩) (zrec hKR (ci := 7) rfl 0 (fun _ => rfl)) har (kR tl) rfl rfl (Nat.le_of_ble_eq_true rfl) hcs dL_law_316 (fun r39 => ?_)
      refine g_pop (pc := 319) C dL_law_319 rfl ?_
      refine g_goto (pc := 320) C 651 dL_law_320 (by decide) ?_
      refine g_weak (M2 := fun H => zMc D (zAc ad) ad cy tl H ∧ (zMr D (zAr be) be dy tl H ∧ zOut oa co H)) (fun H h => ⟨h.2.1, h.1, h.2.2⟩) ?_
      refine g_weak (M2 := zLL D ad be cy dy oa co) (fun H h => ⟨tl, htl, h⟩) ?_
      refine g_sub (lv' := [(0, .ref b), (1, .ref (ad 0)), (2, .ref (be 0)), (3, .ref oa), (4, .int (nI (6 * j)))]) [0, 1, 2, 3, 4] rfl ?_
      refine g_widen (k := 31 + (j + 1)) (q := 111979 + 6 * (j + 1)) (by omega) (by omega) ?_
      exact JE
    · refine g_aload_n (pc := 323) C dL_law_323 rfl 1 rfl ?_
      refine g_aload_n (pc := 324) C dL_law_324 rfl 0 rfl ?_
      refine g_iload (pc := 325) C dL_law_325 4 rfl ?_
      refine g_iconst (pc := 327) C 1 dL_law_327 (by decide) ?_
      refine g_iadd (pc := 328) C dL_law_328 (fun y40 ey40 => ?_)
      refine zsld (pc := 329) C (v := (xs (6 * j + 1))) hX hbl hbA (zix hL hlt (k := 1) (by decide) (by decide) ey40).1 (by rw [(zix hL hlt (k := 1) (by decide) (by decide) ey40).2]) dL_law_329 ?_
      refine zcallBi (pc := 330) (st := []) C hKC (n_X6_peek l D ad cy tl (zAc ad) (xs (6 * j + 1))) (cwV 1 C.2.2.2.2.1 gw_RL_52 rfl rfl rfl cd_X6_peek ⟨Nat.le_of_ble_eq_true rfl, Nat.le_of_ble_eq_true rfl⟩) (zrec hKC (ci := 6) rfl 0 (fun _ => rfl)) hac (kC tl) rfl rfl (Nat.le_of_ble_eq_true rfl) hcs dL_law_330 (fun r41 => ?_)
      refine g_pop (pc := 333) C dL_law_333 rfl ?_
      refine g_aload_n (pc := 334) C dL_law_334 rfl 2 rfl ?_
      refine g_aload_n (pc := 335) C dL_law_335 rfl 0 rfl ?_
      refine g_iload (pc := 336) C dL_law_336 4 rfl ?_
      refine g_iconst (pc := 338) C 1 dL_law_338 (by decide) ?_
      refine g_iadd (pc := 339) C dL_law_339 (fun y42 ey42 => ?_)
      refine zsld (pc := 340) C (v := (xs (6 * j + 1))) hX hbl hbA (zix hL hlt (k := 1) (by decide) (by decide) ey42).1 (by rw [(zix hL hlt (k := 1) (by decide) (by decide) ey42).2]) dL_law_340 ?_
      refine g_weak (M2 := fun H => zMr D (zAr be) be dy tl H ∧ (zMc D (zAc ad) ad cy tl H ∧ zOut oa co H)) (fun H h => ⟨h.2.1, h.1, h.2.2⟩) ?_
      refine zcallBi (pc := 341) (st := []) C hKR (n_X7_peek l D be dy tl (zAr be) (xs (6 * j + 1))) (cwV 1 C.2.2.2.2.1 gw_RL_55 rfl rfl rfl cd_X7_peek ⟨Nat.le_of_ble_eq_true rfl, Nat.le_of_ble_eq_true rfl⟩) (zrec hKR (ci := 7) rfl 0 (fun _ => rfl)) har (kR tl) rfl rfl (Nat.le_of_ble_eq_true rfl) hcs dL_law_341 (fun r43 => ?_)
      refine g_pop (pc := 344) C dL_law_344 rfl ?_
      refine g_goto (pc := 345) C 651 dL_law_345 (by decide) ?_
      refine g_weak (M2 := fun H => zMc D (zAc ad) ad cy tl H ∧ (zMr D (zAr be) be dy tl H ∧ zOut oa co H)) (fun H h => ⟨h.2.1, h.1, h.2.2⟩) ?_
      refine g_weak (M2 := zLL D ad be cy dy oa co) (fun H h => ⟨tl, htl, h⟩) ?_
      refine g_sub (lv' := [(0, .ref b), (1, .ref (ad 0)), (2, .ref (be 0)), (3, .ref oa), (4, .int (nI (6 * j)))]) [0, 1, 2, 3, 4] rfl ?_
      refine g_widen (k := 31 + (j + 1)) (q := 111979 + 6 * (j + 1)) (by omega) (by omega) ?_
      exact JE
    · refine g_aload_n (pc := 348) C dL_law_348 rfl 1 rfl ?_
      refine g_aload_n (pc := 349) C dL_law_349 rfl 0 rfl ?_
      refine g_iload (pc := 350) C dL_law_350 4 rfl ?_
      refine g_iconst (pc := 352) C 1 dL_law_352 (by decide) ?_
      refine g_iadd (pc := 353) C dL_law_353 (fun y44 ey44 => ?_)
      refine zsld (pc := 354) C (v := (xs (6 * j + 1))) hX hbl hbA (zix hL hlt (k := 1) (by decide) (by decide) ey44).1 (by rw [(zix hL hlt (k := 1) (by decide) (by decide) ey44).2]) dL_law_354 ?_
      refine g_aload_n (pc := 355) C dL_law_355 rfl 0 rfl ?_
      refine g_iload (pc := 356) C dL_law_356 4 rfl ?_
      refine g_iconst (pc := 358) C 2 dL_law_358 (by decide) ?_
      refine g_iadd (pc := 359) C dL_law_359 (fun y45 ey45 => ?_)
      refine zsld (pc := 360) C (v := (xs (6 * j + 2))) hX hbl hbA (zix hL hlt (k := 2) (by decide) (by decide) ey45).1 (by rw [(zix hL hlt (k := 2) (by decide) (by decide) ey45).2]) dL_law_360 ?_
      refine zcallBi (pc := 361) (st := []) C hKC (n_X6_set l D ad cy tl (zAc ad) (xs (6 * j + 1)) (xs (6 * j + 2))) (cwV 2 C.2.2.2.2.1 gw_RL_56 rfl rfl rfl cd_X6_set ⟨Nat.le_of_ble_eq_true rfl, Nat.le_of_ble_eq_true rfl⟩) (zrec hKC (ci := 6) rfl 0 (fun _ => rfl)) hac (kC tl) rfl rfl (Nat.le_of_ble_eq_true rfl) hcs dL_law_361 (fun r46 => ?_)
      refine g_prop (fun _ h => h.1.1) (fun hr46 => ?_)
      refine g_weak (M2 := fun H => zMc D (zAc ad) ad cy tl H ∧ (zMr D (zAr be) be dy tl H ∧ zOut oa co H)) (fun H h => ⟨h.1.2, h.2⟩) ?_
      refine g_pop (pc := 364) C dL_law_364 rfl ?_
      refine g_aload_n (pc := 365) C dL_law_365 rfl 2 rfl ?_
      refine g_aload_n (pc := 366) C dL_law_366 rfl 0 rfl ?_
      refine g_iload (pc := 367) C dL_law_367 4 rfl ?_
      refine g_iconst (pc := 369) C 1 dL_law_369 (by decide) ?_
      refine g_iadd (pc := 370) C dL_law_370 (fun y47 ey47 => ?_)
      refine zsld (pc := 371) C (v := (xs (6 * j + 1))) hX hbl hbA (zix hL hlt (k := 1) (by decide) (by decide) ey47).1 (by rw [(zix hL hlt (k := 1) (by decide) (by decide) ey47).2]) dL_law_371 ?_
      refine g_aload_n (pc := 372) C dL_law_372 rfl 0 rfl ?_
      refine g_iload (pc := 373) C dL_law_373 4 rfl ?_
      refine g_iconst (pc := 375) C 2 dL_law_375 (by decide) ?_
      refine g_iadd (pc := 376) C dL_law_376 (fun y48 ey48 => ?_)
      refine zsld (pc := 377) C (v := (xs (6 * j + 2))) hX hbl hbA (zix hL hlt (k := 2) (by decide) (by decide) ey48).1 (by rw [(zix hL hlt (k := 2) (by decide) (by decide) ey48).2]) dL_law_377 ?_
      refine g_weak (M2 := fun H => zMr D (zAr be) be dy tl H ∧ (zMc D (zAc ad) ad cy tl H ∧ zOut oa co H)) (fun H h => ⟨h.2.1, h.1, h.2.2⟩) ?_
      refine zcallBi (pc := 378) (st := []) C hKR (n_X7_set l D be dy tl (zAr be) (xs (6 * j + 1)) (xs (6 * j + 2))) (cwV 2 C.2.2.2.2.1 gw_RL_60 rfl rfl rfl cd_X7_set ⟨Nat.le_of_ble_eq_true rfl, Nat.le_of_ble_eq_true rfl⟩) (zrec hKR (ci := 7) rfl 0 (fun _ => rfl)) har (kR tl) rfl rfl (Nat.le_of_ble_eq_true rfl) hcs dL_law_378 (fun r49 => ?_)
      refine g_prop (fun _ h => h.1.1) (fun hr49 => ?_)
      refine g_weak (M2 := fun H => zMr D (zAr be) be dy tl H ∧ (zMc D (zAc ad) ad cy tl H ∧ zOut oa co H)) (fun H h => ⟨h.1.2, h.2⟩) ?_
      refine g_pop (pc := 381) C dL_law_381 rfl ?_
      refine g_goto (pc := 382) C 651 dL_law_382 (by decide) ?_
      refine g_weak (M2 := fun H => zMc D (zAc ad) ad cy tl H ∧ (zMr D (zAr be) be dy tl H ∧ zOut oa co H)) (fun H h => ⟨h.2.1, h.1, h.2.2⟩) ?_
      refine g_weak (M2 := zLL D ad be cy dy oa co) (fun H h => ⟨tl, htl, h⟩) ?_
      refine g_sub (lv' := [(0, .ref b), (1, .ref (ad 0)), (2, .ref (be 0)), (3, .ref oa), (4, .int (nI (6 * j)))]) [0, 1, 2, 3, 4] rfl ?_
      refine g_widen (k := 31 + (j + 1)) (q := 111979 + 6 * (j + 1)) (by omega) (by omega) ?_
      exact JE
    · refine g_aload_n (pc := 385) C dL_law_385 rfl 1 rfl ?_
      refine g_aload_n (pc := 386) C dL_law_386 rfl 0 rfl ?_
      refine g_iload (pc := 387) C dL_law_387 4 rfl ?_
      refine g_iconst (pc := 389) C 1 dL_law_389 (by decide) ?_
      refine g_iadd (pc := 390) C dL_law_390 (fun y50 ey50 => ?_)
      refine zsld (pc := 391) C (v := (xs (6 * j + 1))) hX hbl hbA (zix hL hlt (k := 1) (by decide) (by decide) ey50).1 (by rw [(zix hL hlt (k := 1) (by decide) (by decide) ey50).2]) dL_law_391 ?_
      refine zcallBi (pc := 392) (st := []) C hKC (n_X6_picture l D ad cy tl (zAc ad) (xs (6 * j + 1))) (cwV 1 C.2.2.2.2.1 gw_RL_61 rfl rfl rfl cd_X6_picture ⟨Nat.le_of_ble_eq_true rfl, Nat.le_of_ble_eq_true rfl⟩) (zrec hKC (ci := 6) rfl 0 (fun _ => rfl)) hac (kC tl) rfl rfl (Nat.le_of_ble_eq_true rfl) hcs dL_law_392 (fun r51 => ?_)
      refine g_pop (pc := 395) C dL_law_395 rfl ?_
      refine g_aload_n (pc := 396) C dL_law_396 rfl 2 rfl ?_
      refine g_aload_n (pc := 397) C dL_law_397 rfl 0 rfl ?_
      refine g_iload (pc := 398) C dL_law_398 4 rfl ?_
      refine g_iconst (pc := 400) C 1 dL_law_400 (by decide) ?_
      refine g_iadd (pc := 401) C dL_law_401 (fun y52 ey52 => ?_)
      refine zsld (pc := 402) C (v := (xs (6 * j + 1))) hX hbl hbA (zix hL hlt (k := 1) (by decide) (by decide) ey52).1 (by rw [(zix hL hlt (k := 1) (by decide) (by decide) ey52).2]) dL_law_402 ?_
      refine g_weak (M2 := fun H => zMr D (zAr be) be dy tl H ∧ (zMc D (zAc ad) ad cy tl H ∧ zOut oa co H)) (fun H h => ⟨h.2.1, h.1, h.2.2⟩) ?_
      refine zcallBi (pc := 403) (st := []) C hKR (n_X7_picture l D be dy tl (zAr be) (xs (6 * j + 1))) (cwV 1 C.2.2.2.2.1 gw_RL_64 rfl rfl rfl cd_X7_picture ⟨Nat.le_of_ble_eq_true rfl, Nat.le_of_ble_eq_true rfl⟩) (zrec hKR (ci := 7) rfl 0 (fun _ => rfl)) har (kR tl) rfl rfl (Nat.le_of_ble_eq_true rfl) hcs dL_law_403 (fun r53 => ?_)
      refine g_pop (pc := 406) C dL_law_406 rfl ?_
      refine g_goto (pc := 407) C 651 dL_law_407 (by decide) ?_
      refine g_weak (M2 := fun H => zMc D (zAc ad) ad cy tl H ∧ (zMr D (zAr be) be dy tl H ∧ zOut oa co H)) (fun H h => ⟨h.2.1, h.1, h.2.2⟩) ?_
      refine g_weak (M2 := zLL D ad be cy dy oa co) (fun H h => ⟨tl, htl, h⟩) ?_
      refine g_sub (lv' := [(0, .ref b), (1, .ref (ad 0)), (2, .ref (be 0)), (3, .ref oa), (4, .int (nI (6 * j)))]) [0, 1, 2, 3, 4] rfl ?_
      refine g_widen (k := 31 + (j + 1)) (q := 111979 + 6 * (j + 1)) (by omega) (by omega) ?_
      exact JE
    · refine g_aload_n (pc := 410) C dL_law_410 rfl 1 rfl ?_
      refine g_aload_n (pc := 411) C dL_law_411 rfl 0 rfl ?_
      refine g_iload (pc := 412) C dL_law_412 4 rfl ?_
      refine g_iconst (pc := 414) C 1 dL_law_414 (by decide) ?_
      refine g_iadd (pc := 415) C dL_law_415 (fun y54 ey54 => ?_)
      refine zsld (pc := 416) C (v := (xs (6 * j + 1))) hX hbl hbA (zix hL hlt (k := 1) (by decide) (by decide) ey54).1 (by rw [(zix hL hlt (k := 1) (by decide) (by decide) ey54).2]) dL_law_416 ?_
      refine g_aload_n (pc := 417) C dL_law_417 rfl 3 rfl ?_
      have K418 : ∀ r55 : Int32, zG p l e room_1 s m #[Value.ref b] below meth c 7 (31 + (j + 1)) (111979 + 6 * (j + 1)) (fun q => s.heap.size ≤ q) (lw_Z below #[Value.ref b] s) (fun H => zMc D (zAc ad) ad cy tl H ∧ (zMr D (zAr be) be dy tl H ∧ zOut oa co H)) 421 [(0, .ref b), (1, .ref (ad 0)), (2, .ref (be 0)), (3, .ref oa), (4, .int (nI (6 * j)))] [.int r55] := by
        intro r55
        refine g_istore (pc := 421) C ([(5, .int r55), (0, .ref b), (1, .ref (ad 0)), (2, .ref (be 0)), (3, .ref oa), (4, .int (nI (6 * j)))]) dL_law_421 (Nat.le_of_ble_eq_true rfl) rfl ?_
        refine g_aload_n (pc := 423) C dL_law_423 rfl 3 rfl ?_
        refine g_aload_n (pc := 424) C dL_law_424 rfl 1 rfl ?_
        refine g_iload (pc := 425) C dL_law_425 5 rfl ?_
        refine g_iconst (pc := 427) C 1 dL_law_427 (by decide) ?_
        refine g_iadd (pc := 428) C dL_law_428 (fun y56 ey56 => ?_)
        refine zsld (pc := 429) C (v := (xs (6 * j + 1))) hX hbl hbA (zix hL hlt (k := 1) (by decide) (by decide) ey56).1 (by rw [(zix hL hlt (k := 1) (by decide) (by decide) ey56).2]) dL_law_429 ?_
        refine g_weak (M2 := fun H => zMr D (zAr be) be dy tl H ∧ (zMc D (zAc ad) ad cy tl H ∧ zOut oa co H)) (fun H h => ⟨h.2.1, h.1, h.2.2⟩) ?_
        rcases ztri 0 16383 (xs (6 * j + 1)) with hv | hv | hv
        · refine zcallBi (pc := 430) (st := []) C hKR (n_X7_vramL l D be dy tl (zAr be) (xs (6 * j + 1)) hv) (cwV 1 C.2.2.2.2.1 gw_RL_67 rfl rfl rfl cd_X7_vram ⟨Nat.le_of_ble_eq_true rfl, Nat.le_of_ble_eq_true rfl⟩) (zrec hKR (ci := 7) rfl 0 (fun _ => rfl)) har (kR tl) rfl rfl (Nat.le_of_ble_eq_true rfl) hcs2 dL_law_430 (fun r57 => ?_)
          refine g_istore (pc := 433) C ([(6, .int r57), (5, .int r55), (0, .ref b), (1, .ref (ad 0)), (2, .ref (be 0)), (3, .ref oa), (4, .int (nI (6 * j)))]) dL_law_433 (Nat.le_of_ble_eq_true rfl) rfl ?_
          refine g_goto (pc := 435) C 651 dL_law_435 (by decide) ?_
          refine g_weak (M2 := fun H => zMc D (zAc ad) ad cy tl H ∧ (zMr D (zAr be) be dy tl H ∧ zOut oa co H)) (fun H h => ⟨h.2.1, h.1, h.2.2⟩) ?_
          refine g_weak (M2 := zLL D ad be cy dy oa co) (fun H h => ⟨tl, htl, h⟩) ?_
          refine g_sub (lv' := [(0, .ref b), (1, .ref (ad 0)), (2, .ref (be 0)), (3, .ref oa), (4, .int (nI (6 * j)))]) [2, 3, 4, 5, 6] rfl ?_
          exact JE
        · refine zcallBi (pc := 430) (st := []) C hKR (n_X7_vramM l D be dy tl (zAr be) (xs (6 * j + 1)) hv) (cwV 1 C.2.2.2.2.1 gw_RL_67 rfl rfl rfl cd_X7_vram ⟨Nat.le_of_ble_eq_true rfl, Nat.le_of_ble_eq_true rfl⟩) (zrec hKR (ci := 7) rfl 0 (fun _ => rfl)) har (kR tl) rfl rfl (Nat.le_of_ble_eq_true rfl) hcs2 dL_law_430 (fun r57 => ?_)
          refine g_istore (pc := 433) C ([(6, .int r57), (5, .int r55), (0, .ref b), (1, .ref (ad 0)), (2, .ref (be 0)), (3, .ref oa), (4, .int (nI (6 * j)))]) dL_law_433 (Nat.le_of_ble_eq_true rfl) rfl ?_
          refine g_goto (pc := 435) C 651 dL_law_435 (by decide) ?_
          refine g_weak (M2 := fun H => zMc D (zAc ad) ad cy tl H ∧ (zMr D (zAr be) be dy tl H ∧ zOut oa co H)) (fun H h => ⟨h.2.1, h.1, h.2.2⟩) ?_
          refine g_weak (M2 := zLL D ad be cy dy oa co) (fun H h => ⟨tl, htl, h⟩) ?_
          refine g_sub (lv' := [(0, .ref b), (1, .ref (ad 0)), (2, .ref (be 0)), (3, .ref oa), (4, .int (nI (6 * j)))]) [2, 3, 4, 5, 6] rfl ?_
          exact JE
        · refine zcallBi (pc := 430) (st := []) C hKR (n_X7_vramH l D be dy tl (zAr be) (xs (6 * j + 1)) hv) (cwV 1 C.2.2.2.2.1 gw_RL_67 rfl rfl rfl cd_X7_vram ⟨Nat.le_of_ble_eq_true rfl, Nat.le_of_ble_eq_true rfl⟩) (zrec hKR (ci := 7) rfl 0 (fun _ => rfl)) har (kR tl) rfl rfl (Nat.le_of_ble_eq_true rfl) hcs2 dL_law_430 (fun r57 => ?_)
          refine g_istore (pc := 433) C ([(6, .int r57), (5, .int r55), (0, .ref b), (1, .ref (ad 0)), (2, .ref (be 0)), (3, .ref oa), (4, .int (nI (6 * j)))]) dL_law_433 (Nat.le_of_ble_eq_true rfl) rfl ?_
          refine g_goto (pc := 435) C 651 dL_law_435 (by decide) ?_
          refine g_weak (M2 := fun H => zMc D (zAc ad) ad cy tl H ∧ (zMr D (zAr be) be dy tl H ∧ zOut oa co H)) (fun H h => ⟨h.2.1, h.1, h.2.2⟩) ?_
          refine g_weak (M2 := zLL D ad be cy dy oa co) (fun H h => ⟨tl, htl, h⟩) ?_
          refine g_sub (lv' := [(0, .ref b), (1, .ref (ad 0)), (2, .ref (be 0)), (3, .ref oa), (4, .int (nI (6 * j)))]) [2, 3, 4, 5, 6] rfl ?_
          exact JE
      by_cases hg : 0 ≤ ((xs (6 * j + 1)) : Int32).toInt ∧ ((xs (6 * j + 1)) : Int32).toInt ≤ 16383
      · refine g_weak (M2 := fun H => (zMc D (zAc ad) ad cy tl H ∧ zOut oa co H) ∧ zMr D (zAr be) be dy tl H) (fun H h => ⟨⟨h.1, h.2.2⟩, h.2.1⟩) ?_
        refine zcallBT (pc := 418) (st := []) C hts hKO (l_vram_ok l D ad cy tl oa co (zAc ad) hco (xs (6 * j + 1)) hg) (vx_cwSW 3 hts gq_L_vram rfl rfl rfl cs_L_vram ⟨Nat.le_of_ble_eq_true rfl, Nat.le_of_ble_eq_true rfl⟩) (fun q h => h.elim (hac q) (fun e9 => by rw [e9]; exact g3)) (kT tl) rfl rfl (Nat.le_of_ble_eq_true rfl) hcs dL_law_418 (fun r9 => ?_)
        refine g_weak (M2 := (fun H => zMc D (zAc ad) ad cy tl H ∧ (zMr D (zAr be) be dy tl H ∧ zOut oa co H))) (fun H h => ⟨h.1.1, h.2, h.1.2⟩) ?_
        exact g_widen (by omega) (by omega) (K418 r9)
      · intro H locs ls hl hMH hS
        obtain ⟨⟨x0, -, hP, hD⟩, hrest⟩ := id hMH
        have hPx := hP.sub (ws' := [(ad 0, .inr (6, [.ref (ad 1), .ref (ad 3), .ref (ad 7), .ref (ad 10), .ref (ad 12), .ref (ad 19), .int tl]))]) [0] rfl
        have hDx : va_D (fun _ => True) [(ad 0, .inr (6, [.ref (ad 1), .ref (ad 3), .ref (ad 7), .ref (ad 10), .ref (ad 12), .ref (ad 19), .int tl]))] := (hD.sub (ws' := [(ad 0, .inr (6, [.ref (ad 1), .ref (ad 3), .ref (ad 7), .ref (ad 10), .ref (ad 12), .ref (ad 19), .int tl]))]) [0] (by decide) rfl).weaken (fun _ _ _ _ => trivial)
        have hFc : ∀ q, va_A [] H.size q → s.heap.size ≤ q := fun q h => zaN h (fun q h9 => Nat.le_trans hS.1 h9)
        refine va_calli (vx_runSW (As := [.ref (ad 0), .int (xs (6 * j + 1)), .ref oa]) (rest := []) ⟨hx, hb, hml, hown, hts⟩ (l_vram_thr l hl0 D.1 D.2 ad tl (xs (6 * j + 1)) sa154 oa H.size hg) (vx_cwSW 3 hts gq_L_vramT rfl rfl rfl cs_L_vram ⟨Nat.le_of_ble_eq_true rfl, Nat.le_of_ble_eq_true rfl⟩) ⟨fun a U g mk q => by obtain ⟨q0, q1, qP, qK, qD, q5, q6, n1, n2, n3, q7, q8⟩ := q; exact ⟨q0, q1, qP, va_K.moved (u := U) (U := U.calling g mk a) (Vm.Alike.refl U.vm) qK, qD, vk_R.same rfl q5, va_Nw.same rfl rfl q6, va_Nw.same rfl rfl n1, va_Nw.same rfl rfl n2, va_Nw.same rfl rfl n3, vx_Zq.moved (u := U) (U := U.calling g mk a) (Vm.Alike.refl U.vm) q7, vx_Zq.moved (u := U) (U := U.calling g mk a) (Vm.Alike.refl U.vm) q8⟩, fun U hU hW => ⟨rfl, by rw [hU], by rw [hU]; exact hPx, va_K.moved hW.alike hKO0, hDx, vk_R.warm hW hst154, va_Nw.warmC hW hca154, va_Nw.warmD hW hde0, va_Nw.warmD hW hde1, va_Nw.warmD hW hde2, by rw [hU]; exact vx_Zq.moved hW.alike (vx_Zq.narrow (vx_Zq.kept hZ1 (fun a ha hn9 => hS.2.1 a ha hn9)) hFc), by rw [hU]; exact vx_Zq.moved hW.alike (vx_Zq.narrow (vx_Zq.kept hZ2 (fun a ha hn9 => hS.2.1 a ha hn9)) hFc)⟩⟩ rfl rfl hl.1 rfl (lv_room (Nat.le_of_ble_eq_true rfl)) dL_law_418 ⟨by show _ ≤ 601024; omega, by show _ ≤ 7293034; omega⟩) hS (fun q _ h => hFc q h) hFc (fun r9 u t H1 locs1 ht hvm hw hB hz1 hk1 hS1 => ?_)
        have hkp : ∀ q : Nat, q < H.size → H1[q]? = H[q]? := fun q hq => hk1 q hq (fun h9 => by rcases h9 with ⟨k9, e9, h9⟩ | h9; simp at h9; omega)
        exact W.widen (by omega) (by omega) (K418 r9 H1 locs1 ls hl ⟨zM_kept hMH.1 (fun q hq _ => hkp q hq), zM_kept hMH.2.1 (fun q hq _ => hkp q hq), zOut_kept hMH.2.2 (fun q hq _ => hkp q hq)⟩ hS1)
    · refine g_aload_n (pc := 438) C dL_law_438 rfl 1 rfl ?_
      refine g_aload_n (pc := 439) C dL_law_439 rfl 0 rfl ?_
      refine g_iload (pc := 440) C dL_law_440 4 rfl ?_
      refine g_iconst (pc := 442) C 1 dL_law_442 (by decide) ?_
      refine g_iadd (pc := 443) C dL_law_443 (fun y58 ey58 => ?_)
      refine zsld (pc := 444) C (v := (xs (6 * j + 1))) hX hbl hbA (zix hL hlt (k := 1) (by decide) (by decide) ey58).1 (by rw [(zix hL hlt (k := 1) (by decide) (by decide) ey58).2]) dL_law_444 ?_
      refine zcallBi (pc := 445) (st := []) C hKC (n_X6_grom l D ad cy tl (zAc ad) (xs (6 * j + 1))) (cwV 1 C.2.2.2.2.1 gw_RL_68 rfl rfl rfl cd_X6_grom ⟨Nat.le_of_ble_eq_true rfl, Nat.le_of_ble_eq_true rfl⟩) (zrec hKC (ci := 6) rfl 0 (fun _ => rfl)) hac (kC tl) rfl rfl (Nat.le_of_ble_eq_true rfl) hcs dL_law_445 (fun r59 => ?_)
      refine g_pop (pc := 448) C dL_law_448 rfl ?_
      refine g_aload_n (pc := 449) C dL_law_449 rfl 2 rfl ?_
      refine g_aload_n (pc := 450) C dL_law_450 rfl 0 rfl ?_
      refine g_iload (pc := 451) C dL_law_451 4 rfl ?_
      refine g_iconst (pc := 453) C 1 dL_law_453 (by decide) ?_
      refine g_iadd (pc := 454) C dL_law_454 (fun y60 ey60 => ?_)
      refine zsld (pc := 455) C (v := (xs (6 * j + 1))) hX hbl hbA (zix hL hlt (k := 1) (by decide) (by decide) ey60).1 (by rw [(zix hL hlt (k := 1) (by decide) (by decide) ey60).2]) dL_law_455 ?_
      refine g_weak (M2 := fun H => zMr D (zAr be) be dy tl H ∧ (zMc D (zAc ad) ad cy tl H ∧ zOut oa co H)) (fun H h => ⟨h.2.1, h.1, h.2.2⟩) ?_
      refine zcallBi (pc := 456) (st := []) C hKR (n_X7_grom l D be dy tl (zAr be) (xs (6 * j + 1))) (cwV 1 C.2.2.2.2.1 gw_RL_71 rfl rfl rfl cd_X7_grom ⟨Nat.le_of_ble_eq_true rfl, Nat.le_of_ble_eq_true rfl⟩) (zrec hKR (ci := 7) rfl 0 (fun _ => rfl)) har (kR tl) rfl rfl (Nat.le_of_ble_eq_true rfl) hcs dL_law_456 (fun r61 => ?_)
      refine g_pop (pc := 459) C dL_law_459 rfl ?_
      refine g_goto (pc := 460) C 651 dL_law_460 (by decide) ?_
      refine g_weak (M2 := fun H => zMc D (zAc ad) ad cy tl H ∧ (zMr D (zAr be) be dy tl H ∧ zOut oa co H)) (fun H h => ⟨h.2.1, h.1, h.2.2⟩) ?_
      refine g_weak (M2 := zLL D ad be cy dy oa co) (fun H h => ⟨tl, htl, h⟩) ?_
      refine g_sub (lv' := [(0, .ref b), (1, .ref (ad 0)), (2, .ref (be 0)), (3, .ref oa), (4, .int (nI (6 * j)))]) [0, 1, 2, 3, 4] rfl ?_
      refine g_widen (k := 31 + (j + 1)) (q := 111979 + 6 * (j + 1)) (by omega) (by omega) ?_
      exact JE
    · refine g_aload_n (pc := 463) C dL_law_463 rfl 1 rfl ?_
      refine zcallBv (pc := 464) (st := []) C hKC (n_X6_frame l D ad cy tl (zAc ad) ) (cwV 0 C.2.2.2.2.1 gw_RL_72 rfl rfl rfl cd_X6_frame ⟨Nat.le_of_ble_eq_true rfl, Nat.le_of_ble_eq_true rfl⟩) (zrec hKC (ci := 6) rfl 0 (fun _ => rfl)) hac (kC tl) rfl rfl (Nat.le_of_ble_eq_true rfl) hcs dL_law_464 ?_
      refine g_aload_n (pc := 467) C dL_law_467 rfl 2 rfl ?_
      refine g_weak (M2 := fun H => zMr D (zAr be) be dy tl H ∧ (zMc D (zAc ad) ad cy tl H ∧ zOut oa co H)) (fun H h => ⟨h.2.1, h.1, h.2.2⟩) ?_
      refine zcallBv (pc := 468) (st := []) C hKR (n_X7_frame l D be dy tl (zAr be) ) (cwV 0 C.2.2.2.2.1 gw_RL_75 rfl rfl rfl cd_X7_frame ⟨Nat.le_of_ble_eq_true rfl, Nat.le_of_ble_eq_true rfl⟩) (zrec hKR (ci := 7) rfl 0 (fun _ => rfl)) har (kR tl) rfl rfl (Nat.le_of_ble_eq_true rfl) hcs dL_law_468 ?_
      refine g_goto (pc := 471) C 651 dL_law_471 (by decide) ?_
      refine g_weak (M2 := fun H => zMc D (zAc ad) ad cy tl H ∧ (zMr D (zAr be) be dy tl H ∧ zOut oa co H)) (fun H h => ⟨h.2.1, h.1, h.2.2⟩) ?_
      refine g_weak (M2 := zLL D ad be cy dy oa co) (fun H h => ⟨tl, htl, h⟩) ?_
      refine g_sub (lv' := [(0, .ref b), (1, .ref (ad 0)), (2, .ref (be 0)), (3, .ref oa), (4, .int (nI (6 * j)))]) [0, 1, 2, 3, 4] rfl ?_
      refine g_widen (k := 31 + (j + 1)) (q := 111979 + 6 * (j + 1)) (by omega) (by omega) ?_
      exact JE
    · refine g_aload_n (pc := 474) C dL_law_474 rfl 1 rfl ?_
      refine g_aload_n (pc := 475) C dL_law_475 rfl 0 rfl ?_
      refine g_iload (pc := 476) C dL_law_476 4 rfl ?_
      refine g_iconst (pc := 478) C 1 dL_law_478 (by decide) ?_
      refine g_iadd (pc := 479) C dL_law_479 (fun y62 ey62 => ?_)
      refine zsld (pc := 480) C (v := (xs (6 * j + 1))) hX hbl hbA (zix hL hlt (k := 1) (by decide) (by decide) ey62).1 (by rw [(zix hL hlt (k := 1) (by decide) (by decide) ey62).2]) dL_law_480 ?_
      refine zcallBi (pc := 481) (st := []) C hKC (n_X6_interrupt l D ad cy tl (zAc ad) (xs (6 * j + 1))) (cwV 1 C.2.2.2.2.1 gw_RL_76 rfl rfl rfl cd_X6_interrupt ⟨Nat.le_of_ble_eq_true rfl, Nat.le_of_ble_eq_true rfl⟩) (zrec hKC (ci := 6) rfl 0 (fun _ => rfl)) hac (kC tl) rfl rfl (Nat.le_of_ble_eq_true rfl) hcs dL_law_481 (fun r63 => ?_)
      refine g_prop (fun _ h => h.1.1) (fun hr63 => ?_)
      refine g_weak (M2 := fun H => zMc D (zAc ad) ad cy tl H ∧ (zMr D (zAr be) be dy tl H ∧ zOut oa co H)) (fun H h => ⟨h.1.2, h.2⟩) ?_
      refine g_pop (pc := 484) C dL_law_484 rfl ?_
      refine g_aload_n (pc := 485) C dL_law_485 rfl 2 rfl ?_
      refine g_aload_n (pc := 486) C dL_law_486 rfl 0 rfl ?_
      refine g_iload (pc := 487) C dL_law_487 4 rfl ?_
      refine g_iconst (pc := 489) C 1 dL_law_489 (by decide) ?_
      refine g_iadd (pc := 490) C dL_law_490 (fun y64 ey64 => ?_)
      refine zsld (pc := 491) C (v := (xs (6 * j + 1))) hX hbl hbA (zix hL hlt (k := 1) (by decide) (by decide) ey64).1 (by rw [(zix hL hlt (k := 1) (by decide) (by decide) ey64).2]) dL_law_491 ?_
      refine g_weak (M2 := fun H => zMr D (zAr be) be dy tl H ∧ (zMc D (zAc ad) ad cy tl H ∧ zOut oa co H)) (fun H h => ⟨h.2.1, h.1, h.2.2⟩) ?_
      refine zcallBi (pc := 492) (st := []) C hKR (n_X7_interrupt l D be dy tl (zAr be) (xs (6 * j + 1))) (cwV 1 C.2.2.2.2.1 gw_RL_80 rfl rfl rfl cd_X7_interrupt ⟨Nat.le_of_ble_eq_true rfl, Nat.le_of_ble_eq_true rfl⟩) (zrec hKR (ci := 7) rfl 0 (fun _ => rfl)) har (kR tl) rfl rfl (Nat.le_of_ble_eq_true rfl) hcs dL_law_492 (fun r65 => ?_)
      refine g_prop (fun _ h => h.1.1) (fun hr65 => ?_)
      refine g_weak (M2 := fun H => zMr D (zAr be) be dy tl H ∧ (zMc D (zAc ad) ad cy tl H ∧ zOut oa co H)) (fun H h => ⟨h.1.2, h.2⟩) ?_
      refine g_pop (pc := 495) C dL_law_495 rfl ?_
      refine g_goto (pc := 496) C 651 dL_law_496 (by decide) ?_
      refine g_weak (M2 := fun H => zMc D (zAc ad) ad cy tl H ∧ (zMr D (zAr be) be dy tl H ∧ zOut oa co H)) (fun H h => ⟨h.2.1, h.1, h.2.2⟩) ?_
      refine g_weak (M2 := zLL D ad be cy dy oa co) (fun H h => ⟨tl, htl, h⟩) ?_
      refine g_sub (lv' := [(0, .ref b), (1, .ref (ad 0)), (2, .ref (be 0)), (3, .ref oa), (4, .int (nI (6 * j)))]) [0, 1, 2, 3, 4] rfl ?_
      refine g_widen (k := 31 + (j + 1)) (q := 111979 + 6 * (j + 1)) (by omega) (by omega) ?_
      exact JE
    · refine g_aload_n (pc := 499) C dL_law_499 rfl 1 rfl ?_
      refine g_aload_n (pc := 500) C dL_law_500 rfl 0 rfl ?_
      refine g_iload (pc := 501) C dL_law_501 4 rfl ?_
      refine g_iconst (pc := 503) C 1 dL_law_503 (by decide) ?_
      refine g_iadd (pc := 504) C dL_law_504 (fun y66 ey66 => ?_)
      refine zsld (pc := 505) C (v := (xs (6 * j + 1))) hX hbl hbA (zix hL hlt (k := 1) (by decide) (by decide) ey66).1 (by rw [(zix hL hlt (k := 1) (by decide) (by decide) ey66).2]) dL_law_505 ?_
      refine g_aload_n (pc := 506) C dL_law_506 rfl 0 rfl ?_
      refine g_iload (pc := 507) C dL_law_507 4 rfl ?_
      refine g_iconst (pc := 509) C 2 dL_law_509 (by decide) ?_
      refine g_iadd (pc := 510) C dL_law_510 (fun y67 ey67 => ?_)
      refine zsld (pc := 511) C (v := (xs (6 * j + 2))) hX hbl hbA (zix hL hlt (k := 2) (by decide) (by decide) ey67).1 (by rw [(zix hL hlt (k := 2) (by decide) (by decide) ey67).2]) dL_law_511 ?_
      refine g_aload_n (pc := 512) C dL_law_512 rfl 0 rfl ?_
      refine g_iload (pc := 513) C dL_law_513 4 rfl ?_
      refine g_iconst (pc := 515) C 3 dL_law_515 (by decide) ?_
      refine g_iadd (pc := 516) C dL_law_516 (fun y68 ey68 => ?_)
      refine zsld (pc := 517) C (v := (xs (6 * j + 3))) hX hbl hbA (zix hL hlt (k := 3) (by decide) (by decide) ey68).1 (by rw [(zix hL hlt (k := 3) (by decide) (by decide) ey68).2]) dL_law_517 ?_
      refine g_if_eq (pc := 518) C 525 dL_law_518 (by decide) (fun c69 => ?_) (fun c69 => ?_)
      · refine g_iconst (pc := 525) C 0 dL_law_525 (by decide) ?_
        refine zcallBi (pc := 526) (st := []) C hKC (n_X6_key l D ad cy tl (zAc ad) (xs (6 * j + 1)) (xs (6 * j + 2)) 0) (cwV 3 C.2.2.2.2.1 gw_RL_81 rfl rfl rfl cd_X6_key ⟨Nat.le_of_ble_eq_true rfl, Nat.le_of_ble_eq_true rfl⟩) (zrec hKC (ci := 6) rfl 0 (fun _ => rfl)) hac (kC tl) rfl rfl (Nat.le_of_ble_eq_true rfl) hcs dL_law_526 (fun r70 => ?_)
        refine g_prop (fun _ h => h.1.1) (fun hr70 => ?_)
        refine g_weak (M2 := fun H => zMc D (zAc ad) ad cy tl H ∧ (zMr D (zAr be) be dy tl H ∧ zOut oa co H)) (fun H h => ⟨h.1.2, h.2⟩) ?_
        refine g_pop (pc := 529) C dL_law_529 rfl ?_
        refine g_aload_n (pc := 530) C dL_law_530 rfl 2 rfl ?_
        refine g_aload_n (pc := 531) C dL_law_531 rfl 0 rfl ?_
        refine g_iload (pc := 532) C dL_law_532 4 rfl ?_
        refine g_iconst (pc := 534) C 1 dL_law_534 (by decide) ?_
        refine g_iadd (pc := 535) C dL_law_535 (fun y71 ey71 => ?_)
        refine zsld (pc := 536) C (v := (xs (6 * j + 1))) hX hbl hbA (zix hL hlt (k := 1) (by decide) (by decide) ey71).1 (by rw [(zix hL hlt (k := 1) (by decide) (by decide) ey71).2]) dL_law_536 ?_
        refine g_aload_n (pc := 537) C dL_law_537 rfl 0 rfl ?_
        refine g_iload (pc := 538) C dL_law_538 4 rfl ?_
        refine g_iconst (pc := 540) C 2 dL_law_540 (by decide) ?_
        refine g_iadd (pc := 541) C dL_law_541 (fun y72 ey72 => ?_)
        refine zsld (pc := 542) C (v := (xs (6 * j + 2))) hX hbl hbA (zix hL hlt (k := 2) (by decide) (by decide) ey72).1 (by rw [(zix hL hlt (k := 2) (by decide) (by decide) ey72).2]) dL_law_542 ?_
        refine g_aload_n (pc := 543) C dL_law_543 rfl 0 rfl ?_
        refine g_iload (pc := 544) C dL_law_544 4 rfl ?_
        refine g_iconst (pc := 546) C 3 dL_law_546 (by decide) ?_
        refine g_iadd (pc := 547) C dL_law_547 (fun y73 ey73 => ?_)
        refine zsld (pc := 548) C (v := (xs (6 * j + 3))) hX hbl hbA (zix hL hlt (k := 3) (by decide) (by decide) ey73).1 (by rw [(zix hL hlt (k := 3) (by decide) (by decide) ey73).2]) dL_law_548 ?_
        refine g_if_eq (pc := 549) C 556 dL_law_549 (by decide) (fun _ => ?_) (fun h => absurd c69 h)
        refine g_iconst (pc := 556) C 0 dL_law_556 (by decide) ?_
        refine g_weak (M2 := fun H => zMr D (zAr be) be dy tl H ∧ (zMc D (zAc ad) ad cy tl H ∧ zOut oa co H)) (fun H h => ⟨h.2.1, h.1, h.2.2⟩) ?_
        refine zcallBi (pc := 557) (st := []) C hKR (n_X7_key l D be dy tl (zAr be) (xs (6 * j + 1)) (xs (6 * j + 2)) 0) (cwV 3 C.2.2.2.2.1 gw_RL_85 rfl rfl rfl cd_X7_key ⟨Nat.le_of_ble_eq_true rfl, Nat.le_of_ble_eq_true rfl⟩) (zrec hKR (ci := 7) rfl 0 (fun _ => rfl)) har (kR tl) rfl rfl (Nat.le_of_ble_eq_true rfl) hcs dL_law_557 (fun r75 => ?_)
        refine g_prop (fun _ h => h.1.1) (fun hr75 => ?_)
        refine g_weak (M2 := fun H => zMr D (zAr be) be dy tl H ∧ (zMc D (zAc ad) ad cy tl H ∧ zOut oa co H)) (fun H h => ⟨h.1.2, h.2⟩) ?_
        refine g_pop (pc := 560) C dL_law_560 rfl ?_
        refine g_goto (pc := 561) C 651 dL_law_561 (by decide) ?_
        refine g_weak (M2 := fun H => zMc D (zAc ad) ad cy tl H ∧ (zMr D (zAr be) be dy tl H ∧ zOut oa co H)) (fun H h => ⟨h.2.1, h.1, h.2.2⟩) ?_
        refine g_weak (M2 := zLL D ad be cy dy oa co) (fun H h => ⟨tl, htl, h⟩) ?_
        refine g_sub (lv' := [(0, .ref b), (1, .ref (ad 0)), (2, .ref (be 0)), (3, .ref oa), (4, .int (nI (6 * j)))]) [0, 1, 2, 3, 4] rfl ?_
        refine g_widen (k := 31 + (j + 1)) (q := 111979 + 6 * (j + 1)) (by omega) (by omega) ?_
        exact JE
      · refine g_iconst (pc := 521) C 1 dL_law_521 (by decide) ?_
        refine g_goto (pc := 522) C 526 dL_law_522 (by decide) ?_
        refine zcallBi (pc := 526) (st := []) C hKC (n_X6_key l D ad cy tl (zAc ad) (xs (6 * j + 1)) (xs (6 * j + 2)) 1) (cwV 3 C.2.2.2.2.1 gw_RL_81 rfl rfl rfl cd_X6_key ⟨Nat.le_of_ble_eq_true rfl, Nat.le_of_ble_eq_true rfl⟩) (zrec hKC (ci := 6) rfl 0 (fun _ => rfl)) hac (kC tl) rfl rfl (Nat.le_of_ble_eq_true rfl) hcs dL_law_526 (fun r76 => ?_)
        refine g_prop (fun _ h => h.1.1) (fun hr76 => ?_)
        refine g_weak (M2 := fun H => zMc D (zAc ad) ad cy tl H ∧ (zMr D (zAr be) be dy tl H ∧ zOut oa co H)) (fun H h => ⟨h.1.2, h.2⟩) ?_
        refine g_pop (pc := 529) C dL_law_529 rfl ?_
        refine g_aload_n (pc := 530) C dL_law_530 rfl 2 rfl ?_
        refine g_aload_n (pc := 531) C dL_law_531 rfl 0 rfl ?_
        refine g_iload (pc := 532) C dL_law_532 4 rfl ?_
        refine g_iconst (pc := 534) C 1 dL_law_534 (by decide) ?_
        refine g_iadd (pc := 535) C dL_law_535 (fun y77 ey77 => ?_)
        refine zsld (pc := 536) C (v := (xs (6 * j + 1))) hX hbl hbA (zix hL hlt (k := 1) (by decide) (by decide) ey77).1 (by rw [(zix hL hlt (k := 1) (by decide) (by decide) ey77).2]) dL_law_536 ?_
        refine g_aload_n (pc := 537) C dL_law_537 rfl 0 rfl ?_
        refine g_iload (pc := 538) C dL_law_538 4 rfl ?_
        refine g_iconst (pc := 540) C 2 dL_law_540 (by decide) ?_
        refine g_iadd (pc := 541) C dL_law_541 (fun y78 ey78 => ?_)
        refine zsld (pc := 542) C (v := (xs (6 * j + 2))) hX hbl hbA (zix hL hlt (k := 2) (by decide) (by decide) ey78).1 (by rw [(zix hL hlt (k := 2) (by decide) (by decide) ey78).2]) dL_law_542 ?_
        refine g_aload_n (pc := 543) C dL_law_543 rfl 0 rfl ?_
        refine g_iload (pc := 544) C dL_law_544 4 rfl ?_
        refine g_iconst (pc := 546) C 3 dL_law_546 (by decide) ?_
        refine g_iadd (pc := 547) C dL_law_547 (fun y79 ey79 => ?_)
        refine zsld (pc := 548) C (v := (xs (6 * j + 3))) hX hbl hbA (zix hL hlt (k := 3) (by decide) (by decide) ey79).1 (by rw [(zix hL hlt (k := 3) (by decide) (by decide) ey79).2]) dL_law_548 ?_
        refine g_if_eq (pc := 549) C 556 dL_law_549 (by decide) (fun h => absurd h c69) (fun _ => ?_)
        refine g_iconst (pc := 552) C 1 dL_law_552 (by decide) ?_
        refine g_goto (pc := 553) C 557 dL_law_553 (by decide) ?_
        refine g_weak (M2 := fun H => zMr D (zAr be) be dy tl H ∧ (zMc D (zAc ad) ad cy tl H ∧ zOut oa co H)) (fun H h => ⟨h.2.1, h.1, h.2.2⟩) ?_
        refine zcallBi (pc := 557) (st := []) C hKR (n_X7_key l D be dy tl (zAr be) (xs (6 * j + 1)) (xs (6 * j + 2)) 1) (cwV 3 C.2.2.2.2.1 gw_RL_85 rfl rfl rfl cd_X7_key ⟨Nat.le_of_ble_eq_true rfl, Nat.le_of_ble_eq_true rfl⟩) (zrec hKR (ci := 7) rfl 0 (fun _ => rfl)) har (kR tl) rfl rfl (Nat.le_of_ble_eq_true rfl) hcs dL_law_557 (fun r81 => ?_)
        refine g_prop (fun _ h => h.1.1) (fun hr81 => ?_)
        refine g_weak (M2 := fun H => zMr D (zAr be) be dy tl H ∧ (zMc D (zAc ad) ad cy tl H ∧ zOut oa co H)) (fun H h => ⟨h.1.2, h.2⟩) ?_
        refine g_pop (pc := 560) C dL_law_560 rfl ?_
        refine g_goto (pc := 561) C 651 dL_law_561 (by decide) ?_
        refine g_weak (M2 := fun H => zMc D (zAc ad) ad cy tl H ∧ (zMr D (zAr be) be dy tl H ∧ zOut oa co H)) (fun H h => ⟨h.2.1, h.1, h.2.2⟩) ?_
        refine g_weak (M2 := zLL D ad be cy dy oa co) (fun H h => ⟨tl, htl, h⟩) ?_
        refine g_sub (lv' := [(0, .ref b), (1, .ref (ad 0)), (2, .ref (be 0)), (3, .ref oa), (4, .int (nI (6 * j)))]) [0, 1, 2, 3, 4] rfl ?_
        refine g_widen (k := 31 + (j + 1)) (q := 111979 + 6 * (j + 1)) (by omega) (by omega) ?_
        exact JE
    · refine g_aload_n (pc := 564) C dL_law_564 rfl 1 rfl ?_
      refine g_aload_n (pc := 565) C dL_law_565 rfl 0 rfl ?_
      refine g_iload (pc := 566) C dL_law_566 4 rfl ?_
      refine g_iconst (pc := 568) C 1 dL_law_568 (by decide) ?_
      refine g_iadd (pc := 569) C dL_law_569 (fun y82 ey82 => ?_)
      refine zsld (pc := 570) C (v := (xs (6 * j + 1))) hX hbl hbA (zix hL hlt (k := 1) (by decide) (by decide) ey82).1 (by rw [(zix hL hlt (k := 1) (by decide) (by decide) ey82).2]) dL_law_570 ?_
      refine zcallBi (pc := 571) (st := []) C hKC (n_X6_out l D ad cy tl (zAc ad) (xs (6 * j + 1))) (cwV 1 C.2.2.2.2.1 gw_RL_86 rfl rfl rfl cd_X6_out ⟨Nat.le_of_ble_eq_true rfl, Nat.le_of_ble_eq_true rfl⟩) (zrec hKC (ci := 6) rfl 0 (fun _ => rfl)) hac (kC tl) rfl rfl (Nat.le_of_ble_eq_true rfl) hcs dL_law_571 (fun r83 => ?_)
      refine g_pop (pc := 574) C dL_law_574 rfl ?_
      refine g_aload_n (pc := 575) C dL_law_575 rfl 2 rfl ?_
      refine g_aload_n (pc := 576) C dL_law_576 rfl 0 rfl ?_
      refine g_iload (pc := 577) C dL_law_577 4 rfl ?_
      refine g_iconst (pc := 579) C 1 dL_law_579 (by decide) ?_
      refine g_iadd (pc := 580) C dL_law_580 (fun y84 ey84 => ?_)
      refine zsld (pc := 581) C (v := (xs (6 * j + 1))) hX hbl hbA (zix hL hlt (k := 1) (by decide) (by decide) ey84).1 (by rw [(zix hL hlt (k := 1) (by decide) (by decide) ey84).2]) dL_law_581 ?_
      refine g_weak (M2 := fun H => zMr D (zAr be) be dy tl H ∧ (zMc D (zAc ad) ad cy tl H ∧ zOut oa co H)) (fun H h => ⟨h.2.1, h.1, h.2.2⟩) ?_
      refine zcallBi (pc := 582) (st := []) C hKR (n_X7_out l D be dy tl (zAr be) (xs (6 * j + 1))) (cwV 1 C.2.2.2.2.1 gw_RL_89 rfl rfl rfl cd_X7_out ⟨Nat.le_of_ble_eq_true rfl, Nat.le_of_ble_eq_true rfl⟩) (zrec hKR (ci := 7) rfl 0 (fun _ => rfl)) har (kR tl) rfl rfl (Nat.le_of_ble_eq_true rfl) hcs dL_law_582 (fun r85 => ?_)
      refine g_pop (pc := 585) C dL_law_585 rfl ?_
      refine g_goto (pc := 586) C 651 dL_law_586 (by decide) ?_
      refine g_weak (M2 := fun H => zMc D (zAc ad) ad cy tl H ∧ (zMr D (zAr be) be dy tl H ∧ zOut oa co H)) (fun H h => ⟨h.2.1, h.1, h.2.2⟩) ?_
      refine g_weak (M2 := zLL D ad be cy dy oa co) (fun H h => ⟨tl, htl, h⟩) ?_
      refine g_sub (lv' := [(0, .ref b), (1, .ref (ad 0)), (2, .ref (be 0)), (3, .ref oa), (4, .int (nI (6 * j)))]) [0, 1, 2, 3, 4] rfl ?_
      refine g_widen (k := 31 + (j + 1)) (q := 111979 + 6 * (j + 1)) (by omega) (by omega) ?_
      exact JE
    · refine g_aload_n (pc := 589) C dL_law_589 rfl 1 rfl ?_
      refine g_aload_n (pc := 590) C dL_law_590 rfl 0 rfl ?_
      refine g_iload (pc := 591) C dL_law_591 4 rfl ?_
      refine g_iconst (pc := 593) C 1 dL_law_593 (by decide) ?_
      refine g_iadd (pc := 594) C dL_law_594 (fun y86 ey86 => ?_)
      refine zsld (pc := 595) C (v := (xs (6 * j + 1))) hX hbl hbA (zix hL hlt (k := 1) (by decide) (by decide) ey86).1 (by rw [(zix hL hlt (k := 1) (by decide) (by decide) ey86).2]) dL_law_595 ?_
      refine zcallBi (pc := 596) (st := []) C hKC (n_X6_in l D ad cy tl (zAc ad) (xs (6 * j + 1))) (cwV 1 C.2.2.2.2.1 gw_RL_90 rfl rfl rfl cd_X6_in ⟨Nat.le_of_ble_eq_true rfl, Nat.le_of_ble_eq_true rfl⟩) (zrec hKC (ci := 6) rfl 0 (fun _ => rfl)) hac (kC tl) rfl rfl (Nat.le_of_ble_eq_true rfl) hcs dL_law_596 (fun r87 => ?_)
      refine g_pop (pc := 599) C dL_law_599 rfl ?_
      refine g_aload_n (pc := 600) C dL_law_600 rfl 2 rfl ?_
      refine g_aload_n (pc := 601) C dL_law_601 rfl 0 rfl ?_
      refine g_iload (pc := 602) C dL_law_602 4 rfl ?_
      refine g_iconst (pc := 604) C 1 dL_law_604 (by decide) ?_
      refine g_iadd (pc := 605) C dL_law_605 (fun y88 ey88 => ?_)
      refine zsld (pc := 606) C (v := (xs (6 * j + 1))) hX hbl hbA (zix hL hlt (k := 1) (by decide) (by decide) ey88).1 (by rw [(zix hL hlt (k := 1) (by decide) (by decide) ey88).2]) dL_law_606 ?_
      refine g_weak (M2 := fun H => zMr D (zAr be) be dy tl H ∧ (zMc D (zAc ad) ad cy tl H ∧ zOut oa co H)) (fun H h => ⟨h.2.1, h.1, h.2.2⟩) ?_
      refine zcallBi (pc := 607) (st := []) C hKR (n_X7_in_ l D be dy tl (zAr be) (xs (6 * j + 1))) (cwV 1 C.2.2.2.2.1 gw_RL_93 rfl rfl rfl cd_X7_in_ ⟨Nat.le_of_ble_eq_true rfl, Nat.le_of_ble_eq_true rfl⟩) (zrec hKR (ci := 7) rfl 0 (fun _ => rfl)) har (kR tl) rfl rfl (Nat.le_of_ble_eq_true rfl) hcs dL_law_607 (fun r89 => ?_)
      refine g_pop (pc := 610) C dL_law_610 rfl ?_
      refine g_goto (pc := 611) C 651 dL_law_611 (by decide) ?_
      refine g_weak (M2 := fun H => zMc D (zAc ad) ad cy tl H ∧ (zMr D (zAr be) be dy tl H ∧ zOut oa co H)) (fun H h => ⟨h.2.1, h.1, h.2.2⟩) ?_
      refine g_weak (M2 := zLL D ad be cy dy oa co) (fun H h => ⟨tl, htl, h⟩) ?_
      refine g_sub (lv' := [(0, .ref b), (1, .ref (ad 0)), (2, .ref (be 0)), (3, .ref oa), (4, .int (nI (6 * j)))]) [0, 1, 2, 3, 4] rfl ?_
      refine g_widen (k := 31 + (j + 1)) (q := 111979 + 6 * (j + 1)) (by omega) (by omega) ?_
      exact JE
    · refine g_aload_n (pc := 614) C dL_law_614 rfl 1 rfl ?_
      refine g_aload_n (pc := 615) C dL_law_615 rfl 0 rfl ?_
      refine g_iload (pc := 616) C dL_law_616 4 rfl ?_
      refine g_iconst (pc := 618) C 1 dL_law_618 (by decide) ?_
      refine g_iadd (pc := 619) C dL_law_619 (fun y90 ey90 => ?_)
      refine zsld (pc := 620) C (v := (xs (6 * j + 1))) hX hbl hbA (zix hL hlt (k := 1) (by decide) (by decide) ey90).1 (by rw [(zix hL hlt (k := 1) (by decide) (by decide) ey90).2]) dL_law_620 ?_
      refine g_aload_n (pc := 621) C dL_law_621 rfl 0 rfl ?_
      refine g_iload (pc := 622) C dL_law_622 4 rfl ?_
      refine g_iconst (pc := 624) C 2 dL_law_624 (by decide) ?_
      refine g_iadd (pc := 625) C dL_law_625 (fun y91 ey91 => ?_)
      refine zsld (pc := 626) C (v := (xs (6 * j + 2))) hX hbl hbA (zix hL hlt (k := 2) (by decide) (by decide) ey91).1 (by rw [(zix hL hlt (k := 2) (by decide) (by decide) ey91).2]) dL_law_626 ?_
      refine zcallBi (pc := 627) (st := []) C hKC (n_X6_pixel l D ad cy tl (zAc ad) (xs (6 * j + 1)) (xs (6 * j + 2))) (cwV 2 C.2.2.2.2.1 gw_RL_94 rfl rfl rfl cd_X6_pixel ⟨Nat.le_of_ble_eq_true rfl, Nat.le_of_ble_eq_true rfl⟩) (zrec hKC (ci := 6) rfl 0 (fun _ => rfl)) hac (kC tl) rfl rfl (Nat.le_of_ble_eq_true rfl) hcs dL_law_627 (fun r92 => ?_)
      refine g_pop (pc := 630) C dL_law_630 rfl ?_
      refine g_aload_n (pc := 631) C dL_law_631 rfl 2 rfl ?_
      refine g_aload_n (pc := 632) C dL_law_632 rfl 0 rfl ?_
      refine g_iload (pc := 633) C dL_law_633 4 rfl ?_
      refine g_iconst (pc := 635) C 1 dL_law_635 (by decide) ?_
      refine g_iadd (pc := 636) C dL_law_636 (fun y93 ey93 => ?_)
      refine zsld (pc := 637) C (v := (xs (6 * j + 1))) hX hbl hbA (zix hL hlt (k := 1) (by decide) (by decide) ey93).1 (by rw [(zix hL hlt (k := 1) (by decide) (by decide) ey93).2]) dL_law_637 ?_
      refine g_aload_n (pc := 638) C dL_law_638 rfl 0 rfl ?_
      refine g_iload (pc := 639) C dL_law_639 4 rfl ?_
      refine g_iconst (pc := 641) C 2 dL_law_641 (by decide) ?_
      refine g_iadd (pc := 642) C dL_law_642 (fun y94 ey94 => ?_)
      refine zsld (pc := 643) C (v := (xs (6 * j + 2))) hX hbl hbA (zix hL hlt (k := 2) (by decide) (by decide) ey94).1 (by rw [(zix hL hlt (k := 2) (by decide) (by decide) ey94).2]) dL_law_643 ?_
      refine g_weak (M2 := fun H => zMr D (zAr be) be dy tl H ∧ (zMc D (zAc ad) ad cy tl H ∧ zOut oa co H)) (fun H h => ⟨h.2.1, h.1, h.2.2⟩) ?_
      refine zcallBi (pc := 644) (st := []) C hKR (n_X7_pixel l D be dy tl (zAr be) (xs (6 * j + 1)) (xs (6 * j + 2))) (cwV 2 C.2.2.2.2.1 gw_RL_97 rfl rfl rfl cd_X7_pixel ⟨Nat.le_of_ble_eq_true rfl, Nat.le_of_ble_eq_true rfl⟩) (zrec hKR (ci := 7) rfl 0 (fun _ => rfl)) har (kR tl) rfl rfl (Nat.le_of_ble_eq_true rfl) hcs dL_law_644 (fun r95 => ?_)
      refine g_pop (pc := 647) C dL_law_647 rfl ?_
      refine g_goto (pc := 648) C 651 dL_law_648 (by decide) ?_
      refine g_weak (M2 := fun H => zMc D (zAc ad) ad cy tl H ∧ (zMr D (zAr be) be dy tl H ∧ zOut oa co H)) (fun H h => ⟨h.2.1, h.1, h.2.2⟩) ?_
      refine g_weak (M2 := zLL D ad be cy dy oa co) (fun H h => ⟨tl, htl, h⟩) ?_
      refine g_sub (lv' := [(0, .ref b), (1, .ref (ad 0)), (2, .ref (be 0)), (3, .ref oa), (4, .int (nI (6 * j)))]) [0, 1, 2, 3, 4] rfl ?_
      refine g_widen (k := 31 + (j + 1)) (q := 111979 + 6 * (j + 1)) (by omega) (by omega) ?_
      exact JE

