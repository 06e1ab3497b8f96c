abbrev zI (a b : Int) (x : Int32) : Prop := a ≤ x.toInt ∧ x.toInt ≤ b
theorem zand {p q : Bool} (h : (p && q) = true) : p = true ∧ q = true := by cases p <;> cases q <;> first | exact ⟨rfl, rfl⟩ | cases h
theorem zi_full (x : Int32) : zI (-2147483648) 2147483647 x := ⟨Int32.le_toInt x, by have := Int32.toInt_lt x; omega⟩
theorem zi_w {a b a' b' : Int} {x : Int32} (h : zI a b x) (ok : (decide (a' ≤ a) && decide (b ≤ b')) = true) : zI a' b' x := by
  obtain ⟨o1, o2⟩ := zand ok
  have o1 := of_decide_eq_true o1
  have o2 := of_decide_eq_true o2
  exact ⟨Int.le_trans o1 h.1, Int.le_trans h.2 o2⟩
theorem zi_c (c : Int32) {a b : Int} (ok : (decide (a ≤ c.toInt) && decide (c.toInt ≤ b)) = true) : zI a b c := by
  obtain ⟨o1, o2⟩ := zand ok
  exact ⟨of_decide_eq_true o1, of_decide_eq_true o2⟩
theorem zbm {x : Int} (h1 : -2147483648 ≤ x) (h2 : x ≤ 2147483647) : x.bmod (2 ^ 32) = x := by
  apply Int.bmod_eq_of_le <;> omega
theorem zi_add {a b a' b' lo hi : Int} {x y z : Int32} (h1 : zI a b x) (h2 : zI a' b' y) (e : z = x + y) (ok : ((decide (-2147483648 ≤ lo) && decide (hi ≤ 2147483647)) && (decide (lo ≤ a + a') && decide (b + b' ≤ hi))) = true) : zI lo hi z := by
  obtain ⟨o1, o2⟩ := zand ok
  obtain ⟨o1, o3⟩ := zand o1
  obtain ⟨o2, o4⟩ := zand o2
  have o1 := of_decide_eq_true o1
  have o2 := of_decide_eq_true o2
  have o3 := of_decide_eq_true o3
  have o4 := of_decide_eq_true o4
  obtain ⟨p1, p2⟩ := h1
  obtain ⟨q1, q2⟩ := h2
  subst e
  have e : (x + y).toInt = x.toInt + y.toInt := by rw [Int32.toInt_add, zbm (by omega) (by omega)]
  exact ⟨by rw [e]; omega, by rw [e]; omega⟩
theorem zi_sub {a b a' b' lo hi : Int} {x y z : Int32} (h1 : zI a b x) (h2 : zI a' b' y) (e : z = x - y) (ok : ((decide (-2147483648 ≤ lo) && decide (hi ≤ 2147483647)) && (decide (lo ≤ a - b') && decide (b - a' ≤ hi))) = true) : zI lo hi z := by
  obtain ⟨o1, o2⟩ := zand ok
  obtain ⟨o1, o3⟩ := zand o1
  obtain ⟨o2, o4⟩ := zand o2
  have o1 := of_decide_eq_true o1
  have o2 := of_decide_eq_true o2
  have o3 := of_decide_eq_true o3
  have o4 := of_decide_eq_true o4
  obtain ⟨p1, p2⟩ := h1
  obtain ⟨q1, q2⟩ := h2
  subst e
  have e : (x - y).toInt = x.toInt - y.toInt := by rw [Int32.toInt_sub, zbm (by omega) (by omega)]
  exact ⟨by rw [e]; omega, by rw [e]; omega⟩
theorem zi_mul {a b a' b' lo hi : Int} {x y z : Int32} (h1 : zI a b x) (h2 : zI a' b' y) (e : z = x * y) (ok : ((decide (0 ≤ a) && decide (0 ≤ a')) && (decide (lo ≤ a * a') && (decide (b * b' ≤ hi) && decide (hi ≤ 2147483647)))) = true) : zI lo hi z := by
  obtain ⟨o1, o2⟩ := zand ok
  obtain ⟨o1, o3⟩ := zand o1
  obtain ⟨o2, o4⟩ := zand o2
  obtain ⟨o4, o5⟩ := zand o4
  have o1 := of_decide_eq_true o1
  have o2 := of_decide_eq_true o2
  have o3 := of_decide_eq_true o3
  have o4 := of_decide_eq_true o4
  have o5 := of_decide_eq_true o5
  obtain ⟨p1, p2⟩ := h1
  obtain ⟨q1, q2⟩ := h2
  subst e
  have m1 : a * a' ≤ x.toInt * y.toInt := Int.mul_le_mul p1 q1 o3 (by omega)
  have m2 : x.toInt * y.toInt ≤ b * b' := Int.mul_le_mul p2 q2 (by omega) (by omega)
  have m3 : 0 ≤ a * a' := Int.mul_nonneg o1 o3
  have e : (x * y).toInt = x.toInt * y.toInt := by rw [Int32.toInt_mul, zbm (by omega) (by omega)]
  exact ⟨by rw [e]; omega, by rw [e]; omega⟩
theorem ztn {x : Int32} (h : 0 ≤ x.toInt) : (x.toBitVec.toNat : Int) = x.toInt := by
  have h1 : x.toInt = x.toBitVec.toInt := rfl
  rw [h1] at h ⊢
  rw [BitVec.toInt_eq_toNat_cond] at h ⊢
  have := x.toBitVec.isLt
  split at h <;> split <;> omega
theorem zlt {x : Int32} (h : x.toBitVec.toNat < 2147483648) : x.toInt = (x.toBitVec.toNat : Int) := by
  have h1 : x.toInt = x.toBitVec.toInt := rfl
  rw [h1, BitVec.toInt_eq_toNat_cond]
  split <;> omega
theorem zi_and1 {b : Int} {x y z : Int32} (h : zI 0 b y) (e : z = x &&& y) : zI 0 b z := by
  obtain ⟨q1, q2⟩ := h
  have hy := ztn q1
  have hz : z.toBitVec.toNat ≤ y.toBitVec.toNat := by
    rw [e, Int32.toBitVec_and, BitVec.toNat_and]; exact Nat.and_le_right
  have hb : y.toInt ≤ 2147483647 := (zi_full y).2
  have := zlt (x := z) (by omega)
  exact ⟨by omega, by omega⟩
theorem zi_and2 {b : Int} {x y z : Int32} (h : zI 0 b x) (e : z = x &&& y) : zI 0 b z := by
  obtain ⟨q1, q2⟩ := h
  have hy := ztn q1
  have hz : z.toBitVec.toNat ≤ x.toBitVec.toNat := by
    rw [e, Int32.toBitVec_and, BitVec.toNat_and]; exact Nat.and_le_left
  have hb : x.toInt ≤ 2147483647 := (zi_full x).2
  have := zlt (x := z) (by omega)
  exact ⟨by omega, by omega⟩
theorem zi_and15 {a b lo hi : Int} {x z : Int32} (h : zI a b x) (e : z = x &&& 15) (q : Int) (ok : ((decide (0 ≤ a) && decide (16 * q ≤ a)) && (decide (b < 16 * q + 16) && (decide (lo ≤ a - 16 * q) && decide (b - 16 * q ≤ hi)))) = true) : zI lo hi z := by
  obtain ⟨o1, o2⟩ := zand ok
  obtain ⟨o1, o3⟩ := zand o1
  obtain ⟨o2, o4⟩ := zand o2
  obtain ⟨o4, o5⟩ := zand o4
  have o1 := of_decide_eq_true o1
  have o2 := of_decide_eq_true o2
  have o3 := of_decide_eq_true o3
  have o4 := of_decide_eq_true o4
  have o5 := of_decide_eq_true o5
  obtain ⟨p1, p2⟩ := h
  have hx := ztn (x := x) (by omega)
  rw [pk_and x 4 (by decide)] at e
  have hz : z.toInt = ((x.toBitVec.toNat % 2 ^ 4 : Nat) : Int) := by rw [e]; exact nI_toInt (by omega)
  exact ⟨by omega, by omega⟩
theorem zi_div {a b d lo hi : Int} {x y z : Int32} (h : zI a b x) (hy : zI d d y) (e : z = x / y) (ok : ((decide (0 ≤ a) && decide (0 < d)) && (decide (lo ≤ a / d) && decide (b / d ≤ hi))) = true) : zI lo hi z := by
  obtain ⟨o1, o2⟩ := zand ok
  obtain ⟨o1, o3⟩ := zand o1
  obtain ⟨o2, o4⟩ := zand o2
  have o1 := of_decide_eq_true o1
  have o2 := of_decide_eq_true o2
  have o3 := of_decide_eq_true o3
  have o4 := of_decide_eq_true o4
  obtain ⟨p1, p2⟩ := h
  have hd : y.toInt = d := by obtain ⟨r1, r2⟩ := hy; omega
  have hx := (zi_full x).2
  subst e
  have e1 : x.toInt.tdiv y.toInt = x.toInt / d := by rw [hd, Int.tdiv_eq_ediv_of_nonneg (by omega)]
  have d1 : a / d ≤ x.toInt / d := Int.ediv_le_ediv o3 p1
  have d2 : x.toInt / d ≤ b / d := Int.ediv_le_ediv o3 p2
  have d3 : 0 ≤ a / d := Int.ediv_nonneg o1 (by omega)
  have d4 : x.toInt / d ≤ x.toInt := Int.ediv_le_self _ (by omega)
  have e : (x / y).toInt = x.toInt / d := by rw [Int32.toInt_div, e1, zbm (by omega) (by omega)]
  exact ⟨by rw [e]; omega, by rw [e]; omega⟩
theorem zi_rem {a b d lo hi : Int} {x y z : Int32} (h : zI a b x) (hy : zI d d y) (e : z = x - x / y * y) (ok : ((decide (0 ≤ a) && decide (0 < d)) && (decide (lo ≤ 0) && decide (d - 1 ≤ hi))) = true) : zI lo hi z := by
  obtain ⟨o1, o2⟩ := zand ok
  obtain ⟨o1, o3⟩ := zand o1
  obtain ⟨o2, o4⟩ := zand o2
  have o1 := of_decide_eq_true o1
  have o2 := of_decide_eq_true o2
  have o3 := of_decide_eq_true o3
  have o4 := of_decide_eq_true o4
  obtain ⟨p1, p2⟩ := h
  have hd : y.toInt = d := by obtain ⟨r1, r2⟩ := hy; omega
  have hx := (zi_full x).2
  have hy2 := (zi_full y).2
  subst e
  have e1 : x.toInt.tdiv y.toInt = x.toInt / d := by rw [hd, Int.tdiv_eq_ediv_of_nonneg (by omega)]
  have d3 : 0 ≤ x.toInt / d := Int.ediv_nonneg (by omega) (by omega)
  have d4 : x.toInt / d ≤ x.toInt := Int.ediv_le_self _ (by omega)
  have eq : (x / y).toInt = x.toInt / d := by rw [Int32.toInt_div, e1, zbm (by omega) (by omega)]
  have m0 := Int.emod_add_mul_ediv x.toInt d
  have m1 := Int.emod_nonneg x.toInt (show d ≠ 0 by omega)
  have m2 := Int.emod_lt_of_pos x.toInt o3
  have m3 : 0 ≤ d * (x.toInt / d) := Int.mul_nonneg (by omega) d3
  have em : (x / y * y).toInt = d * (x.toInt / d) := by rw [Int32.toInt_mul, eq, hd, Int.mul_comm, zbm (by omega) (by omega)]
  have es : (x - x / y * y).toInt = x.toInt % d := by rw [Int32.toInt_sub, em, zbm (by omega) (by omega)]; omega
  exact ⟨by rw [es]; omega, by rw [es]; omega⟩
theorem zi_shr {a b lo hi : Int} {x y z : Int32} (k : Nat) (h : zI a b x) (hk : ((y &&& 31).toBitVec.smod 32).toNat = k) (e : z = x >>> (y &&& 31)) (ok : (decide (0 ≤ a) && (decide (lo ≤ a / (2 ^ k : Nat)) && decide (b / (2 ^ k : Nat) ≤ hi))) = true) : zI lo hi z := by
  obtain ⟨o1, o2⟩ := zand ok
  obtain ⟨o2, o3⟩ := zand o2
  have o1 := of_decide_eq_true o1
  have o2 := of_decide_eq_true o2
  have o3 := of_decide_eq_true o3
  obtain ⟨p1, p2⟩ := h
  have e1 : z.toInt = x.toInt / (2 ^ k : Nat) := by rw [e, pk_shr _ _ k hk, Int.shiftRight_eq_div_pow]
  have hp : (0 : Int) < ((2 ^ k : Nat) : Int) := by have := Nat.two_pow_pos k; omega
  have d1 : a / (2 ^ k : Nat) ≤ x.toInt / (2 ^ k : Nat) := Int.ediv_le_ediv hp p1
  have d2 : x.toInt / (2 ^ k : Nat) ≤ b / (2 ^ k : Nat) := Int.ediv_le_ediv hp p2
  exact ⟨by rw [e1]; exact Int.le_trans o2 d1, by rw [e1]; exact Int.le_trans d2 o3⟩
theorem zi_i2b {x z : Int32} (e : z = x.toInt8.toInt32) : zI (-128) 127 z := by
  rw [e]
  have h : (x.toInt8.toInt32).toInt = x.toInt8.toInt := Int8.toInt_toInt32 _
  have h1 := Int8.le_toInt x.toInt8
  have h2 := Int8.toInt_lt x.toInt8
  exact ⟨by rw [h]; omega, by rw [h]; omega⟩
theorem zn_bool {v : Int32} (h : zI 0 1 v) : narrow .boolean (.int v) = .int v := by
  obtain ⟨h1, h2⟩ := h
  have h3 : v.toInt = 0 ∨ v.toInt = 1 := by omega
  rcases h3 with h3 | h3
  · have e : v = 0 := Int32.toInt_inj.mp (by rw [h3]; rfl)
    rw [e]; rfl
  · have e : v = 1 := Int32.toInt_inj.mp (by rw [h3]; rfl)
    rw [e]; rfl
theorem zf_bool {v : Int32} (h : zI 0 1 v) : fits .boolean (.int v) = true := by
  obtain ⟨h1, h2⟩ := h
  have h3 : v.toInt = 0 ∨ v.toInt = 1 := by omega
  rcases h3 with h3 | h3
  · have e : v = 0 := Int32.toInt_inj.mp (by rw [h3]; rfl)
    rw [e]; rfl
  · have e : v = 1 := Int32.toInt_inj.mp (by rw [h3]; rfl)
    rw [e]; rfl
theorem zi_in {a b : Int} {n : Nat} {i : Int32} (h : zI a b i) (ok : (decide (0 ≤ a) && decide (b < n)) = true) : vp_in i n := by
  obtain ⟨o1, o2⟩ := zand ok
  have o1 := of_decide_eq_true o1
  have o2 := of_decide_eq_true o2
  obtain ⟨p1, p2⟩ := h
  exact vp_in_iff.mpr ⟨by omega, by omega⟩
theorem zi_no {a b : Int} {x : Int32} {P : Prop} (h : zI a b x) (ok : decide (b < a) = true) : P := by
  have o1 := of_decide_eq_true ok
  obtain ⟨p1, p2⟩ := h
  exact absurd o1 (by omega)
theorem zc_lt {x y : Int32} (h : x < y) : x.toInt < y.toInt := Int32.lt_iff_toInt_lt.mp h
theorem zc_nlt {x y : Int32} (h : ¬ x < y) : y.toInt ≤ x.toInt := Int.not_lt.mp (fun q => h (Int32.lt_iff_toInt_lt.mpr q))
theorem zc_le {x y : Int32} (h : x ≤ y) : x.toInt ≤ y.toInt := Int32.le_iff_toInt_le.mp h
theorem zc_nle {x y : Int32} (h : ¬ x ≤ y) : y.toInt < x.toInt := Int.not_le.mp (fun q => h (Int32.le_iff_toInt_le.mpr q))
theorem zr_lt1 {a b a' b' hi : Int} {x y : Int32} (c : x.toInt < y.toInt) (hx : zI a b x) (hy : zI a' b' y) (ok : decide (b' - 1 ≤ hi) = true) : zI a hi x := by
  have o1 := of_decide_eq_true ok
  obtain ⟨p1, p2⟩ := hx
  obtain ⟨q1, q2⟩ := hy
  exact ⟨p1, by omega⟩
theorem zr_lt2 {a b a' b' lo : Int} {x y : Int32} (c : x.toInt < y.toInt) (hx : zI a b x) (hy : zI a' b' y) (ok : decide (lo ≤ a + 1) = true) : zI lo b' y := by
  have o1 := of_decide_eq_true ok
  obtain ⟨p1, p2⟩ := hx
  obtain ⟨q1, q2⟩ := hy
  exact ⟨by omega, q2⟩
theorem zr_le1 {a b a' b' hi : Int} {x y : Int32} (c : x.toInt ≤ y.toInt) (hx : zI a b x) (hy : zI a' b' y) (ok : decide (b' ≤ hi) = true) : zI a hi x := by
  have o1 := of_decide_eq_true ok
  obtain ⟨p1, p2⟩ := hx
  obtain ⟨q1, q2⟩ := hy
  exact ⟨p1, by omega⟩
theorem zr_le2 {a b a' b' lo : Int} {x y : Int32} (c : x.toInt ≤ y.toInt) (hx : zI a b x) (hy : zI a' b' y) (ok : decide (lo ≤ a) = true) : zI lo b' y := by
  have o1 := of_decide_eq_true ok
  obtain ⟨p1, p2⟩ := hx
  obtain ⟨q1, q2⟩ := hy
  exact ⟨by omega, q2⟩
theorem zr_eq {a b a' b' lo hi : Int} {x y : Int32} (c : x = y) (hx : zI a b x) (hy : zI a' b' y) (ok : ((decide (lo ≤ a) || decide (lo ≤ a')) && (decide (b ≤ hi) || decide (b' ≤ hi))) = true) : zI lo hi x := by
  obtain ⟨o1, o2⟩ := zand ok
  subst c
  obtain ⟨p1, p2⟩ := hx
  obtain ⟨q1, q2⟩ := hy
  constructor
  · rcases Bool.or_eq_true_iff.mp o1 with o | o <;> have o := of_decide_eq_true o <;> omega
  · rcases Bool.or_eq_true_iff.mp o2 with o | o <;> have o := of_decide_eq_true o <;> omega
theorem zr_neL {a b d lo : Int} {x y : Int32} (c : ¬ x = y) (hx : zI a b x) (hy : zI d d y) (ok : (decide (a = d) && decide (lo = d + 1)) = true) : zI lo b x := by
  obtain ⟨o1, o2⟩ := zand ok
  have o1 := of_decide_eq_true o1
  have o2 := of_decide_eq_true o2
  obtain ⟨p1, p2⟩ := hx
  obtain ⟨q1, q2⟩ := hy
  have : x.toInt ≠ y.toInt := fun q => c (Int32.toInt_inj.mp q)
  exact ⟨by omega, p2⟩
theorem zr_neH {a b d hi : Int} {x y : Int32} (c : ¬ x = y) (hx : zI a b x) (hy : zI d d y) (ok : (decide (b = d) && decide (hi = d - 1)) = true) : zI a hi x := by
  obtain ⟨o1, o2⟩ := zand ok
  have o1 := of_decide_eq_true o1
  have o2 := of_decide_eq_true o2
  obtain ⟨p1, p2⟩ := hx
  obtain ⟨q1, q2⟩ := hy
  have : x.toInt ≠ y.toInt := fun q => c (Int32.toInt_inj.mp q)
  exact ⟨p1, by omega⟩
theorem zi_eq {d : Int} {x c : Int32} (h : zI d d x) (ok : decide (c.toInt = d) = true) : x = c := Int32.toInt_inj.mp (by have := of_decide_eq_true ok; obtain ⟨p1, p2⟩ := h; omega)
theorem z_ne64 {x : Int32} {z : Int64} (h : ¬ x = 0) (e : z = x.toInt64) : ¬ z = 0 := by
  intro q
  rw [q] at e
  have h1 : (x.toInt64).toInt = x.toInt := Int32.toInt_toInt64 x
  rw [← e] at h1
  exact h (Int32.toInt_inj.mp (by rw [← h1]; rfl))
def zin (a b : Int) (x r : Int32) : Prop := (zI a b x ∧ r = 1) ∨ (¬ zI a b x ∧ r = 0)
theorem zin_01 {a b : Int} {x r : Int32} (h : zin a b x r) : zI 0 1 r := by
  rcases h with ⟨-, rfl⟩ | ⟨-, rfl⟩ <;> exact ⟨by decide, by decide⟩
theorem zin_1 {a b : Int} {x r : Int32} (h : zin a b x r) (hr : ¬ r = 0) : zI a b x := by
  rcases h with ⟨h, -⟩ | ⟨-, rfl⟩
  · exact h
  · exact absurd rfl hr
theorem zin_eq {a b : Int} {x r r' : Int32} (h : zin a b x r) (h' : zin a b x r') : r = r' := by
  rcases h with ⟨h, rfl⟩ | ⟨h, rfl⟩ <;> rcases h' with ⟨h', rfl⟩ | ⟨h', rfl⟩
  · rfl
  · exact absurd h h'
  · exact absurd h' h
  · rfl
