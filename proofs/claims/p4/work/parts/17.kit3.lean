theorem zev_and {x z : Int32} (e : z = x &&& 65534) : zEv z := by
  unfold zEv
  rw [e, Int32.and_assoc]
  rw [show (65534 : Int32) &&& 1 = 0 from by decide, Int32.and_zero]
theorem zev_andx {x y z : Int32} (h : zEv x) (e : z = x &&& y) : zEv z := by
  unfold zEv at *
  rw [e, Int32.and_assoc, Int32.and_comm y 1, ← Int32.and_assoc, h, Int32.zero_and]
theorem zev_mod {x : Int32} : zEv x ↔ x.toBitVec.toNat % 2 = 0 := by
  unfold zEv
  have h := pk_and x (m := 1) 1 (by decide)
  rw [h]
  constructor
  · intro q
    have hq := congrArg (fun y : Int32 => y.toBitVec.toNat) q
    have h2 : (nI (x.toBitVec.toNat % 2 ^ 1)).toBitVec.toNat = x.toBitVec.toNat % 2 ^ 1 := pk_tn (by omega)
    have h3 : (0 : Int32).toBitVec.toNat = 0 := rfl
    simp only [h2, h3] at hq
    omega
  · intro q
    rw [show x.toBitVec.toNat % 2 ^ 1 = 0 by omega]
    rfl
theorem zev_mul {x z : Int32} (e : z = 2 * x) : zEv z := by
  rw [zev_mod, e, Int32.toBitVec_mul, BitVec.toNat_mul]
  have : (2 : Int32).toBitVec.toNat = 2 := rfl
  rw [this]
  omega
theorem zev_add {x y z : Int32} (h1 : zEv x) (h2 : zEv y) (e : z = x + y) : zEv z := by
  rw [zev_mod] at *
  rw [e, Int32.toBitVec_add, BitVec.toNat_add]
  omega
theorem zev_hi {z : Int32} (h : zI 0 65535 z) (hv : zEv z) : zI 0 65534 z := by
  rw [zev_mod] at hv
  obtain ⟨h1, h2⟩ := h
  have := ztn h1
  exact ⟨h1, by omega⟩
theorem zin_0 {a b : Int} {x r : Int32} (h : zin a b x r) (hr : r = 0) : ¬ zI a b x := by
  rcases h with ⟨-, rfl⟩ | ⟨h, -⟩
  · exact absurd hr (by decide)
  · exact h
theorem zi_dis {a b a' b' : Int} {x : Int32} {P : Prop} (h : zI a b x) (h' : zI a' b' x) (ok : (decide (b < a') || decide (b' < a)) = true) : P := by
  obtain ⟨h1, h2⟩ := h
  obtain ⟨h3, h4⟩ := h'
  rcases Bool.or_eq_true_iff.mp ok with o | o <;> have o := of_decide_eq_true o <;> omega
theorem zM_mono {X : Type} {w : X → va_W} {I I' : X → Prop} {D : va_G} {A : Nat → Prop} {H : Heap} (h : ∀ x, I x → I' x) (hM : zM w I D A H) : zM w I' D A H := by
  obtain ⟨x, a, b⟩ := hM
  exact ⟨x, h x a, b⟩
theorem zlix {S : Int} {tl q k z : Int32} {a b : Int} (e : z = q + k) (hok : zI 0 (S - tl.toInt) q) (hk : zI a b k) (hl : k.toInt < tl.toInt) (ok : (decide (0 ≤ a) && decide (S ≤ 65536)) = true) : zI 0 (S - 1) z := by
  obtain ⟨o1, o2⟩ := zand ok
  have o1 := of_decide_eq_true o1
  have o2 := of_decide_eq_true o2
  obtain ⟨p1, p2⟩ := hok
  obtain ⟨q1, q2⟩ := hk
  have e1 : z.toInt = q.toInt + k.toInt := by rw [e, Int32.toInt_add, zbm (by omega) (by omega)]
  exact ⟨by omega, by omega⟩
