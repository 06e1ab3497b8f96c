def zAc (ad : Nat → Nat) : Nat → Prop := fun q => ∃ i, i < 20 ∧ q = ad i
def zAr (be : Nat → Nat) : Nat → Prop := fun q => ∃ i, i < 10 ∧ q = be i
theorem zWc_at (ad : Nat → Nat) (cy : Nat → ClassId) (tl : Int32) (x : zXc) : ∀ i, i < 20 → ∃ e, (zWc ad cy tl x)[i]? = some (ad i, e) := fun i hi => match i, hi with | 0, _ => ⟨_, rfl⟩ | 1, _ => ⟨_, rfl⟩ | 2, _ => ⟨_, rfl⟩ | 3, _ => ⟨_, rfl⟩ | 4, _ => ⟨_, rfl⟩ | 5, _ => ⟨_, rfl⟩ | 6, _ => ⟨_, rfl⟩ | 7, _ => ⟨_, rfl⟩ | 8, _ => ⟨_, rfl⟩ | 9, _ => ⟨_, rfl⟩ | 10, _ => ⟨_, rfl⟩ | 11, _ => ⟨_, rfl⟩ | 12, _ => ⟨_, rfl⟩ | 13, _ => ⟨_, rfl⟩ | 14, _ => ⟨_, rfl⟩ | 15, _ => ⟨_, rfl⟩ | 16, _ => ⟨_, rfl⟩ | 17, _ => ⟨_, rfl⟩ | 18, _ => ⟨_, rfl⟩ | 19, _ => ⟨_, rfl⟩ | n + 20, h => absurd h (by omega)
theorem zWr_at (ad : Nat → Nat) (cy : Nat → ClassId) (tl : Int32) (x : zXr) : ∀ i, i < 10 → ∃ e, (zWr ad cy tl x)[i]? = some (ad i, e) := fun i hi => match i, hi with | 0, _ => ⟨_, rfl⟩ | 1, _ => ⟨_, rfl⟩ | 2, _ => ⟨_, rfl⟩ | 3, _ => ⟨_, rfl⟩ | 4, _ => ⟨_, rfl⟩ | 5, _ => ⟨_, rfl⟩ | 6, _ => ⟨_, rfl⟩ | 7, _ => ⟨_, rfl⟩ | 8, _ => ⟨_, rfl⟩ | 9, _ => ⟨_, rfl⟩ | n + 10, h => absurd h (by omega)
theorem zWc_A {ad : Nat → Nat} {cy : Nat → ClassId} {tl : Int32} {x : zXc} {k : Nat} {q : Nat × va_E} (h : (zWc ad cy tl x)[k]? = some q) : zAc ad q.1 := by
  have hk : k < 20 := (List.getElem?_eq_some_iff.mp h).1
  obtain ⟨e, he⟩ := zWc_at ad cy tl x k hk
  rw [he] at h
  cases h
  exact ⟨k, hk, rfl⟩
theorem zWr_A {ad : Nat → Nat} {cy : Nat → ClassId} {tl : Int32} {x : zXr} {k : Nat} {q : Nat × va_E} (h : (zWr ad cy tl x)[k]? = some q) : zAr ad q.1 := by
  have hk : k < 10 := (List.getElem?_eq_some_iff.mp h).1
  obtain ⟨e, he⟩ := zWr_at ad cy tl x k hk
  rw [he] at h
  cases h
  exact ⟨k, hk, rfl⟩
theorem zap_l {w1 w2 : va_W} {k : Nat} {q : Nat × va_E} (h : w1[k]? = some q) : (w1 ++ w2)[k]? = some q := by
  rw [List.getElem?_append_left (List.getElem?_eq_some_iff.mp h).1]; exact h
theorem zap_r {w1 w2 : va_W} {k : Nat} {q : Nat × va_E} (h : w2[k]? = some q) : (w1 ++ w2)[w1.length + k]? = some q := by
  rw [List.getElem?_append_right (by omega), Nat.add_sub_cancel_left]; exact h
theorem zP_l {D : va_G} {cl : List vw_C} {w1 w2 : va_W} {H : Heap} (h : va_P D cl (w1 ++ w2) H) : va_P D cl w1 H := fun k q hk => h k q (zap_l hk)
theorem zP_r {D : va_G} {cl : List vw_C} {w1 w2 : va_W} {H : Heap} (h : va_P D cl (w1 ++ w2) H) : va_P D cl w2 H := fun k q hk => h _ q (zap_r hk)
theorem zD_l {A : Nat → Prop} {w1 w2 : va_W} (h : va_D A (w1 ++ w2)) : va_D A w1 := ⟨fun i j p q hi hj e => h.1 i j p q (zap_l hi) (zap_l hj) e, fun k q hk => h.2 k q (zap_l hk)⟩
theorem zD_r {A : Nat → Prop} {w1 w2 : va_W} (h : va_D A (w1 ++ w2)) : va_D A w2 := ⟨fun i j p q hi hj e => by have := h.1 _ _ p q (zap_r hi) (zap_r hj) e; omega, fun k q hk => h.2 _ q (zap_r hk)⟩
theorem zD_x {A : Nat → Prop} {w1 w2 : va_W} (h : va_D A (w1 ++ w2)) {i j : Nat} {p q : Nat × va_E} (hi : w1[i]? = some p) (hj : w2[j]? = some q) : p.1 ≠ q.1 := fun e => by
  have h1 := h.1 _ _ p q (zap_l hi) (zap_r hj) e
  have h2 := (List.getElem?_eq_some_iff.mp hi).1
  omega
theorem zMc_of {D : va_G} {A : Nat → Prop} {ad : Nat → Nat} {cy : Nat → ClassId} {tl : Int32} {x : zXc} {H : Heap} (hP : va_P D vwCl (zWc ad cy tl x) H) (hD : va_D A (zWc ad cy tl x)) : zMc D (zAc ad) ad cy tl H := ⟨x, trivial, hP, ⟨hD.1, fun _ _ hk => zWc_A hk⟩⟩
theorem zMr_of {D : va_G} {A : Nat → Prop} {ad : Nat → Nat} {cy : Nat → ClassId} {tl : Int32} {x : zXr} {H : Heap} (hI : zIr x) (hP : va_P D vwCl (zWr ad cy tl x) H) (hD : va_D A (zWr ad cy tl x)) : zMr D (zAr ad) ad cy tl H := ⟨x, hI, hP, ⟨hD.1, fun _ _ hk => zWr_A hk⟩⟩
theorem zix {L j k : Nat} {y K : Int32} (hL : L ≤ 3072) (h : 6 * j + 6 ≤ L) (hk : k < 6) (hK : K = nI k) (e : y = nI (6 * j) + K) : vp_in y L ∧ y.toNatClampNeg = 6 * j + k := by
  subst hK
  rw [nI_add] at e
  subst e
  exact ⟨vp_in_nI (by omega) (by omega), pk_cl (6 * j + k) rfl (by omega)⟩
theorem zix0 {L j : Nat} (hL : L ≤ 3072) (h : 6 * j + 6 ≤ L) : vp_in (nI (6 * j)) L ∧ (nI (6 * j)).toNatClampNeg = 6 * j := ⟨vp_in_nI (by omega) (by omega), pk_cl (6 * j) rfl (by omega)⟩
theorem zsl {L j : Nat} {z : Int32} (hL : L ≤ 3072) (hj : 6 * j ≤ L) (e : z = Int32.ofNat L - 6) (hc : ¬ z < nI (6 * j)) : 6 * j + 6 ≤ L := by
  have h1 := zc_nlt hc
  have h2 : (nI (6 * j)).toInt = ((6 * j : Nat) : Int) := nI_toInt (by omega)
  have h3 : (Int32.ofNat L).toInt = (L : Int) := nI_toInt (n := L) (by omega)
  have h4 : (6 : Int32).toInt = 6 := rfl
  have h5 : z.toInt = (L : Int) - 6 := by rw [e, Int32.toInt_sub, h3, h4, zbm (by omega) (by omega)]
  omega
def zLL (D : va_G) (ad be : Nat → Nat) (cy dy : Nat → ClassId) (oa : Nat) (co : ClassId) (H : Heap) : Prop := ∃ tl : Int32, zI 0 1000 tl ∧ (zMc D (zAc ad) ad cy tl H ∧ (zMr D (zAr be) be dy tl H ∧ zOut oa co H))
theorem zaN {n : Nat} {A : Nat → Prop} {q : Nat} (h : va_A [] n q) (hA : ∀ q, n ≤ q → A q) : A q := by
  rcases h with ⟨k, e, h⟩ | h
  · simp at h
  · exact hA q h
section ZN
variable {p : Program} {l : Launch} {e : Env} {R : Room} {s : State} {m : MethodId} {args : Array Value} {below : List Frame} {meth : Method} {c : Code} {Q : State → Prop}
variable {nL cells slots : Nat} {A : Nat → Prop} {M : Heap → Prop} {pc : Nat} {lv : List (Nat × Value)} {st : List Value}
theorem g_prop {P : Prop} (h : ∀ H, M H → P) (k : P → zG p l e R s m args below meth c nL cells slots A Q M pc lv st) : zG p l e R s m args below meth c nL cells slots A Q M pc lv st := fun H locs ls hl hM hS => k (h H hM) H locs ls hl hM hS
theorem g_exl {T : Type} {P : T → Prop} {M2 : T → Heap → Prop} {Rest : Heap → Prop} (k : ∀ t, P t → zG p l e R s m args below meth c nL cells slots A Q (fun H => M2 t H ∧ Rest H) pc lv st) : zG p l e R s m args below meth c nL cells slots A Q (fun H => (∃ t, P t ∧ M2 t H) ∧ Rest H) pc lv st := fun H locs ls hl hM hS => by
  obtain ⟨⟨t, hP, h2⟩, hR⟩ := hM
  exact k t hP H locs ls hl ⟨h2, hR⟩ hS
end ZN
