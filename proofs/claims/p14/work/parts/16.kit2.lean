theorem zdec {a b a' N : Int} {x z : Int32} (e : z = x + 1) (hx : zI a b x) (ok : decide (b ≤ 2147483646) = true) (hz : zI a' N z) : (N - z.toInt).toNat < (N - x.toInt).toNat := by
  have o := of_decide_eq_true ok
  obtain ⟨p1, p2⟩ := hx
  obtain ⟨q1, q2⟩ := hz
  have l1 := (zi_full x).1
  have e1 : z.toInt = x.toInt + 1 := by rw [e, Int32.toInt_add, show (1 : Int32).toInt = 1 from rfl, zbm (by omega) (by omega)]
  omega
