theorem zM_kept {X : Type} {w : X → va_W} {I : X → Prop} {D : va_G} {A : Nat → Prop} {H H1 : Heap} (h : zM w I D A H) (hq : ∀ q : Nat, q < H.size → A q → H1[q]? = H[q]?) : zM w I D A H1 := by
  obtain ⟨x, hI, hP, hD⟩ := h
  exact ⟨x, hI, hP.kept (fun k q hk => hq q.1 (hP k q hk).lt (hD.2 k q hk)), hD⟩
def zOut (oa : Nat) (co : ClassId) (H : Heap) : Prop := ∃ f : Nat → Int64, H[oa]? = some (vp_cell co (1, .inr (.inl f)))
theorem zOut_kept {oa : Nat} {co : ClassId} {H H1 : Heap} (h : zOut oa co H) (hq : ∀ q : Nat, q < H.size → q = oa → H1[q]? = H[q]?) : zOut oa co H1 := by
  obtain ⟨f, hf⟩ := h
  exact ⟨f, by rw [hq oa (Array.getElem?_eq_some_iff.mp hf).1 rfl]; exact hf⟩
section ZL
variable {p : Program} {l : Launch} {e : Env} {R : Room} {s : State} {m : MethodId} {args : Array Value} {below : List Frame} {meth : Method} {c : Code} {Q : State → Prop}
variable {cc : ByteArray} {nL cells slots : Nat} {own : String} {Ts : List Cond} {D : va_G} {tys tys' : List (ClassId × FieldType)} {A A1 : Nat → Prop} {M M1 Rest : Heap → Prop} {pc : Nat} {lv lv' : List (Nat × Value)} {st : List Value}
variable {y : MethodName} {bytes : ByteArray} {maxL n index : Nat} {ret : Option FieldType} {ws : List Cond} {rm : Room} {Cn : String} {b : Nat}
theorem g_widen {k q : Nat} (h1 : cells ≤ k) (h2 : slots ≤ q) (kk : zG p l e R s m args below meth c nL k q A Q M pc lv st) : zG p l e R s m args below meth c nL cells slots A Q M pc lv st := fun H locs ls hl hM hS => W.widen h1 h2 (kk H locs ls hl hM hS)
theorem g_ex {T : Type} {M2 : T → Heap → Prop} (k : ∀ t, zG p l e R s m args below meth c nL cells slots A Q (M2 t) pc lv st) : zG p l e R s m args below meth c nL cells slots A Q (fun H => ∃ t, M2 t H) pc lv st := fun H locs ls hl hM hS => by
  obtain ⟨t, ht⟩ := hM
  exact k t H locs ls hl ht hS
theorem zcallBi (C : zC p s m args c cc nL own Ts D tys) {As : List Value} {stk : List Value} {post : Int32 → Heap → Prop} (hK : va_K D vwCl tys' s) (hM : zMi l y ws rm (.ref b :: As) D tys' A1 M1 post) (cw : CallW R s args own Cn index y bytes maxL ret ws rm 0 0 n) (hr : zRec s M1 Cn b) (hA : ∀ q, A1 q → A q) (hkeep : ∀ H H1 : Heap, Rest H → (∀ q : Nat, q < H.size → ¬ A1 q → H1[q]? = H[q]?) → Rest H1) (hn : As.length = n) (hst : stk = As.reverse ++ .ref b :: st) (hW : (st.map fun v => v.category).sum ≤ 8) (hf : cells + 0 ≤ R.cells ∧ slots + 0 ≤ R.slots) (hd : decode cc pc = .ok (.invokevirtual index, 3)) (k : ∀ r : Int32, zG p l e R s m args below meth c nL cells slots A Q (fun H => post r H ∧ Rest H) (pc + 3) lv (.int r :: st)) : zG p l e R s m args below meth c nL cells slots A Q (fun H => M1 H ∧ Rest H) pc lv stk := fun H locs ls hl hMH hS => by
  subst hst
  exact va_calli (va_runV (As := As) (rest := st) ⟨C.1, C.2.1, C.2.2.1, C.2.2.2.1, C.2.2.2.2.1⟩ hM cw ⟨zblind, hr H hMH.1, fun U hU hWm => ⟨rfl, va_K.moved hWm.alike hK, by rw [hU]; exact hMH.1⟩⟩ rfl hn hl.1 rfl (lv_room hW) hd hf) hS (fun q _ h => hA q h) (fun q h => hA q h) (fun r u t H1 locs1 ht hvm hru hB _ hk1 hS1 => k r H1 locs1 ls hl ⟨by subst hru; rw [← ht]; exact hB, hkeep H H1 hMH.2 hk1⟩ hS1)
theorem zcallBv (C : zC p s m args c cc nL own Ts D tys) {As : List Value} {stk : List Value} {post : Heap → Prop} (hK : va_K D vwCl tys' s) (hM : zMv l y ws rm (.ref b :: As) D tys' A1 M1 post) (cw : CallW R s args own Cn index y bytes maxL ret ws rm 0 0 n) (hr : zRec s M1 Cn b) (hA : ∀ q, A1 q → A q) (hkeep : ∀ H H1 : Heap, Rest H → (∀ q : Nat, q < H.size → ¬ A1 q → H1[q]? = H[q]?) → Rest H1) (hn : As.length = n) (hst : stk = As.reverse ++ .ref b :: st) (hW : (st.map fun v => v.category).sum ≤ 8) (hf : cells + 0 ≤ R.cells ∧ slots + 0 ≤ R.slots) (hd : decode cc pc = .ok (.invokevirtual index, 3)) (k : zG p l e R s m args below meth c nL cells slots A Q (fun H => post H ∧ Rest H) (pc + 3) lv st) : zG p l e R s m args below meth c nL cells slots A Q (fun H => M1 H ∧ Rest H) pc lv stk := fun H locs ls hl hMH hS => by
  subst hst
  exact va_callv (va_runV (As := As) (rest := st) ⟨C.1, C.2.1, C.2.2.1, C.2.2.2.1, C.2.2.2.2.1⟩ hM cw ⟨zblind, hr H hMH.1, fun U hU hWm => ⟨rfl, va_K.moved hWm.alike hK, by rw [hU]; exact hMH.1⟩⟩ rfl hn hl.1 rfl (lv_room hW) hd hf) hS (fun q _ h => hA q h) (fun q h => hA q h) (fun u t H1 locs1 ht hvm hru hB _ hk1 hS1 => k H1 locs1 ls hl ⟨by rw [← ht]; exact hB, hkeep H H1 hMH.2 hk1⟩ hS1)
/-- a static method of the law's with a table, that returns: its own part M1 moves, the rest stays -/
theorem zcallBT (C : zC p s m args c cc nL own Ts D tys) {hh : List (Nat × Nat × Nat × Nat)} {Tl : List Cond} (htl : ∀ w ∈ Tl, w.before args s = true) {As : List Value} {stk : List Value} {post : Int32 → Heap → Prop} (hK : va_K D vwCl tys' s) (hM : zMi l y ws rm As D tys' A1 M1 post) (cw : vx_CSW R s args own index y bytes maxL ret hh ws rm 0 0 n) (hA : ∀ q, A1 q → A q) (hkeep : ∀ H H1 : Heap, Rest H → (∀ q : Nat, q < H.size → ¬ A1 q → H1[q]? = H[q]?) → Rest H1) (hn : As.length = n) (hst : stk = As.reverse ++ st) (hW : (st.map fun v => v.category).sum ≤ 8) (hf : cells + 0 ≤ R.cells ∧ slots + 0 ≤ R.slots) (hd : decode cc pc = .ok (.invokestatic index, 3)) (k : ∀ r : Int32, zG p l e R s m args below meth c nL cells slots A Q (fun H => post r H ∧ Rest H) (pc + 3) lv (.int r :: st)) : zG p l e R s m args below meth c nL cells slots A Q (fun H => M1 H ∧ Rest H) pc lv stk := fun H locs ls hl hMH hS => by
  subst hst
  exact va_calli (vx_runSW (As := As) (rest := st) ⟨C.1, C.2.1, C.2.2.1, C.2.2.2.1, htl⟩ hM cw ⟨zblind, fun U hU hWm => ⟨rfl, va_K.moved hWm.alike hK, by rw [hU]; exact hMH.1⟩⟩ rfl hn hl.1 rfl (lv_room hW) hd hf) hS (fun q _ h => hA q h) (fun q h => hA q h) (fun r u t H1 locs1 ht hvm hru hB _ hk1 hS1 => k r H1 locs1 ls hl ⟨by subst hru; rw [← ht]; exact hB, hkeep H H1 hMH.2 hk1⟩ hS1)
theorem zstartW_i {ws' : List Cond} {av : List Value} {hh : List (Nat × Nat × Nat × Nat)} {ty : FieldType} {post : Int32 → Heap → Prop} (hy : plainName y.cls = true) (hw : ws = Cond.codeWith y cc maxL (some ty) hh :: ws') (ho : y.cls = own) (hlen : (lg_sl av).length ≤ maxL)
    (body : ∀ (p : Program) (e : Env) (s : State) (m : MethodId) (args : Array Value) (below : List Frame) (meth : Method) (c : Code) (Q : State → Prop), zC p s m args c cc maxL own ws D tys → zRi p l e rm s m args below meth c cc A Q ty post → zG p l e rm s m args below meth c maxL 0 0 A Q M 0 (lv_args 0 av) []) : zMi l y ws rm av D tys A M post := by
  refine va_MetW hy hw ?_
  intro p e s m args below meth c s₁ B hml hv
  obtain ⟨rfl, hK, hM⟩ := hv
  rw [lg_entry_eq]
  have hl := lv_entry av (n := maxL) hlen
  subst ho
  exact body p e s m _ below meth c _ ⟨B.exec, B.bytes, hml, findClass_of_methodNamed B.named, atoms_spec (ws := ws) B.pre, hK⟩ (fun H locs ls pc v hd hn hp hS => W.zret B.exec B.bytes B.returns hn (fun t ht hW => ⟨⟨v, v, rfl, rfl, by show post v t.heap; rw [ht]; exact hp⟩, hS.F ht⟩) hS.2.2 hd) s.heap [] _ hl hM va_S.rf
theorem z_out (C : zC p s m args c cc nL own Ts D tys) {oa : Nat} {co : ClassId} (t0 : Nat) (ht : tys[t0]? = some (co, .long)) (hA : A oa) (hkeep : ∀ H H1 : Heap, M H → (∀ q : Nat, q ≠ oa → H1[q]? = H[q]?) → M H1) {i : Int32} {z : Int64} (hin : vp_in i 1) (hd : decode cc pc = .ok (.lastore, 1)) (k : zG p l e R s m args below meth c nL cells slots A Q (fun H => M H ∧ zOut oa co H) (pc + 1) lv st) : zG p l e R s m args below meth c nL cells slots A Q (fun H => M H ∧ zOut oa co H) pc lv (.long z :: .int i :: .ref oa :: st) := fun H locs ls hl hMH hS => by
  obtain ⟨hM, f, hf⟩ := hMH
  refine W.last C.1 C.2.1 hf ((C.2.2.2.2.2.2 t0 _ ht).1 1 (fun j => .long (f j))) (fun q => by cases q) (by show ¬ (i < 0 ∨ (arrV _ _ _).slots.size ≤ _); rw [arrV_size]; exact hin) rfl rfl hd fun H1 e9 zz oq => ?_
  refine k H1 _ ls hl ⟨hkeep H H1 hM oq, vp_updL f i.toNatClampNeg z, ?_⟩ (hS.put zz oq hA)
  rw [e9]
  rw [vp_cell_l, vp_cell_l, arrV_store]
  congr 2
  funext q
  by_cases hq : q = i.toNatClampNeg
  · subst hq
    simp [updV, vp_updL]
  · simp [updV, vp_updL, hq]
theorem zsld (C : zC p s m args c cc nL own Ts D tys) {b9 L : Nat} {xs : Nat → Int32} (hX : va_X b9 L xs s s.heap) (hbl : b9 < s.heap.size) (hbA : ¬ A b9) {i v : Int32} (hin : vp_in i L) (hv : xs i.toNatClampNeg = v) (hd : decode cc pc = .ok (.iaload, 1)) (k : zG p l e R s m args below meth c nL cells slots A Q M (pc + 1) lv (.int v :: st)) : zG p l e R s m args below meth c nL cells slots A Q M pc lv (.int i :: .ref b9 :: st) := fun H locs ls hl hM hS => va_sld C.1 C.2.1 hX hbl hbA hS hin hd (by rw [hv]; exact k H locs ls hl hM hS)
theorem zslen (C : zC p s m args c cc nL own Ts D tys) {b9 L : Nat} {xs : Nat → Int32} (hX : va_X b9 L xs s s.heap) (hbl : b9 < s.heap.size) (hbA : ¬ A b9) (hd : decode cc pc = .ok (.arraylength, 1)) (k : zG p l e R s m args below meth c nL cells slots A Q M (pc + 1) lv (.int (Int32.ofNat L) :: st)) : zG p l e R s m args below meth c nL cells slots A Q M pc lv (.ref b9 :: st) := fun H locs ls hl hM hS => va_slen C.1 C.2.1 hX hbl hbA hS hd (k H locs ls hl hM hS)
end ZL
