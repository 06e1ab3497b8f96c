theorem zI0 {b : Int} (h : decide (0 ≤ b) = true) : zI 0 b 0 := ⟨by decide, of_decide_eq_true h⟩
theorem zIr_0 : zIr ((fun i => match i with | 19 => 2 | _ => 0), (fun _ _ => 0)) := ⟨zI0 (by decide), zI0 (by decide), zI0 (by decide), zI0 (by decide), zI0 (by decide), (rfl : zEv 0), fun _ => zI0 (by decide), fun _ => zI0 (by decide), fun _ => zI0 (by decide)⟩
theorem law_fin {p : Program} {e : Env} {s : State} {m : MethodId} {below : List Frame} {meth : Method} {c : Code} (l : Launch) (hl0 : l.stackTraces = false) {b L : Nat} {xs : Nat → Int32} (hL : L ≤ 3072) (C0 : lw_At p s m meth c b L xs) (D : va_G) (hKc : ∀ (k : Nat) (q : vw_C), vwCl[k]? = some q → u_Kn s q.1 q.2.1 q.2.2 (D.1 k) (D.2 k)) (ad be : Nat → Nat) (cy dy : Nat → ClassId) (oa : Nat) (co : ClassId) (x : zXc) (y : zXr) {f : Nat → Int64} {H : Heap} (hKC : va_K D vwCl (zTc cy) s) (hKR : va_K D vwCl (zTr dy) s) (hKO : va_K D vwCl ((co, .long) :: zTc cy) s) (hP : va_P D vwCl (zWc ad cy 0 x ++ (zWr be dy 0 y ++ [(oa, .inl (co, 1, .inr (.inl f)))])) H) (hD : va_D (fun q : Nat => s.heap.size ≤ q) (zWc ad cy 0 x ++ (zWr be dy 0 y ++ [(oa, .inl (co, 1, .inr (.inl f)))]))) (hI : zIr y) (H' : Heap) (locs : List Loc) (ls : Array Slot) (hl : lv_has ls 7 [(0, .ref b), (1, .ref (ad 0)), (2, .ref (be 0)), (3, .ref oa), (4, .int 0)]) (hS : va_S (fun q : Nat => s.heap.size ≤ q) s.heap H' locs) (hH : H' = H := by rfl) : W p l e room_1 s m #[Value.ref b] below meth c H' locs 31 111979 (lw_Z below #[Value.ref b] s) (F0 m 23 ls []) := by
  subst hH
  have h1 := fun i hi => zWc_at ad cy 0 x i hi
  have h2 := fun i hi => zWr_at be dy 0 y i hi
  have h3 : ([(oa, .inl (co, 1, .inr (.inl f)))] : va_W)[0]? = some (oa, .inl (co, 1, .inr (.inl f))) := rfl
  refine law_loop l hl0 hL C0 D hKc ad be cy dy oa co hKC hKR hKO (fun i hi => ?_) (fun i hi => ?_) ?_ (fun i j hi hj => ?_) (fun i hi => ?_) (fun i hi => ?_) L 0 rfl (Nat.zero_le _) H' locs ls hl ⟨0, ⟨by decide, by decide⟩, zMc_of (zP_l hP) (zD_l hD), zMr_of hI (zP_l (zP_r hP)) (zD_l (zD_r hD)), f, zP_r (zP_r hP) 0 _ h3⟩ hS
  · obtain ⟨e1, he⟩ := h1 i hi
    exact (zD_l hD).2 i _ he
  · obtain ⟨e1, he⟩ := h2 i hi
    exact (zD_l (zD_r hD)).2 i _ he
  · exact (zD_r (zD_r hD)).2 0 _ h3
  · obtain ⟨e1, he⟩ := h1 i hi
    obtain ⟨e2, he2⟩ := h2 j hj
    exact zD_x hD he (zap_l he2)
  · obtain ⟨e1, he⟩ := h1 i hi
    exact zD_x hD he (zap_r h3)
  · obtain ⟨e1, he⟩ := h2 i hi
    exact zD_x (zD_r hD) he h3

