theorem zdec {a b a' N : Int} {x z : Int32} (e : z = x + 1) (hx : zI a b x) (ok : decide (b ≤ 2147483646) = true) (hz : zI a' N z) : (N - z.toInt).toNat < (N - x.toInt).toNat := by
  have o := of_decide_eq_true ok
  obtain ⟨p1, p2⟩ := hx
  obtain ⟨q1, q2⟩ := hz
  have l1 := (zi_full x).1
  have e1 : z.toInt = x.toInt + 1 := by rw [e, Int32.toInt_add, show (1 : Int32).toInt = 1 from rfl, zbm (by omega) (by omega)]
  omega
theorem zsubE {a b a' b' : Int} {x y z : Int32} (h1 : zI a b x) (h2 : zI a' b' y) (e : z = x - y) (ok : (decide (-2147483648 ≤ a - b') && decide (b - a' ≤ 2147483647)) = true) : z.toInt = x.toInt - y.toInt := by
  obtain ⟨o1, o2⟩ := zand ok
  have o1 := of_decide_eq_true o1
  have o2 := of_decide_eq_true o2
  obtain ⟨p1, p2⟩ := h1
  obtain ⟨q1, q2⟩ := h2
  rw [e, Int32.toInt_sub, zbm (by omega) (by omega)]
theorem zaddE {a b a' b' : Int} {x y z : Int32} (h1 : zI a b x) (h2 : zI a' b' y) (e : z = x + y) (ok : (decide (-2147483648 ≤ a + a') && decide (b + b' ≤ 2147483647)) = true) : z.toInt = x.toInt + y.toInt := by
  obtain ⟨o1, o2⟩ := zand ok
  have o1 := of_decide_eq_true o1
  have o2 := of_decide_eq_true o2
  obtain ⟨p1, p2⟩ := h1
  obtain ⟨q1, q2⟩ := h2
  rw [e, Int32.toInt_add, zbm (by omega) (by omega)]
def zp4 (x : Int32) : Int32 := x + 1 + 1 + 1 + 1
def zp20 (x : Int32) : Int32 := zp4 (zp4 (zp4 (zp4 (zp4 x))))
def zfeed (tl r t : Int32) : Prop := (980 < tl.toInt ∧ r = -1 ∧ t = tl) ∨ (tl.toInt ≤ 980 ∧ r = t ∧ t = zp20 tl)
def zend (tl n r t : Int32) : Prop := (zI 0 tl.toInt n ∧ r = n ∧ t = n) ∨ (¬ zI 0 tl.toInt n ∧ r = -1 ∧ t = tl)
def zlok (tl a d : Int32) : Prop := (a = 0 ∧ zI 0 (8192 - tl.toInt) d) ∨ (a = 1 ∧ zI 0 (65536 - tl.toInt) d) ∨ (a = 2 ∧ zI 0 (16384 - tl.toInt) d) ∨ (a = 3 ∧ zI 0 (8192 - tl.toInt) d)
def zload (tl a d r t : Int32) : Prop := (zlok tl a d ∧ r = tl ∧ t = 0) ∨ (¬ zlok tl a d ∧ r = -1 ∧ t = tl)
def zkey (c w r : Int32) : Prop := ((zI 0 7 c ∧ zI 0 7 w) ∧ r = 1) ∨ (¬ (zI 0 7 c ∧ zI 0 7 w) ∧ r = 0)
theorem zlok0 {tl d : Int32} : zlok tl 0 d ↔ zI 0 (8192 - tl.toInt) d := by simp [zlok]
theorem zlok1 {tl d : Int32} : zlok tl 1 d ↔ zI 0 (65536 - tl.toInt) d := by simp [zlok]
theorem zlok2 {tl d : Int32} : zlok tl 2 d ↔ zI 0 (16384 - tl.toInt) d := by simp [zlok]
theorem zlok3 {tl d : Int32} : zlok tl 3 d ↔ zI 0 (8192 - tl.toInt) d := by simp [zlok]
theorem zlokL {tl a d : Int32} (h : a.toInt ≤ -1) : ¬ zlok tl a d := by
  rintro (⟨rfl, -⟩ | ⟨rfl, -⟩ | ⟨rfl, -⟩ | ⟨rfl, -⟩) <;> exact absurd h (by decide)
theorem zlokH {tl a d : Int32} (h : 4 ≤ a.toInt) : ¬ zlok tl a d := by
  rintro (⟨rfl, -⟩ | ⟨rfl, -⟩ | ⟨rfl, -⟩ | ⟨rfl, -⟩) <;> exact absurd h (by decide)
theorem zarea (a : Int32) : zI (-2147483648) (-1) a ∨ a = 0 ∨ a = 1 ∨ a = 2 ∨ a = 3 ∨ zI 4 2147483647 a := by
  obtain ⟨h1, h2⟩ := zi_full a
  have h : a.toInt ≤ -1 ∨ a.toInt = 0 ∨ a.toInt = 1 ∨ a.toInt = 2 ∨ a.toInt = 3 ∨ 4 ≤ a.toInt := by omega
  rcases h with h | h | h | h | h | h
  · exact Or.inl ⟨h1, h⟩
  · exact Or.inr (Or.inl (Int32.toInt_inj.mp (by rw [h]; rfl)))
  · exact Or.inr (Or.inr (Or.inl (Int32.toInt_inj.mp (by rw [h]; rfl))))
  · exact Or.inr (Or.inr (Or.inr (Or.inl (Int32.toInt_inj.mp (by rw [h]; rfl)))))
  · exact Or.inr (Or.inr (Or.inr (Or.inr (Or.inl (Int32.toInt_inj.mp (by rw [h]; rfl))))))
  · exact Or.inr (Or.inr (Or.inr (Or.inr (Or.inr ⟨h, h2⟩))))
theorem ztri (a b : Int) (x : Int32) : zI (-2147483648) (a - 1) x ∨ zI a b x ∨ zI (b + 1) 2147483647 x := by
  obtain ⟨h1, h2⟩ := zi_full x
  by_cases h : x.toInt ≤ a - 1
  · exact Or.inl ⟨h1, h⟩
  · by_cases h' : x.toInt ≤ b
    · exact Or.inr (Or.inl ⟨by omega, h'⟩)
    · exact Or.inr (Or.inr ⟨by omega, h2⟩)
theorem zfeed_fun {tl r r' t t' : Int32} (h : zfeed tl r t) (h' : zfeed tl r' t') : r = r' ∧ t = t' := by
  rcases h with ⟨h, rfl, rfl⟩ | ⟨h, rfl, rfl⟩ <;> rcases h' with ⟨h', rfl, rfl⟩ | ⟨h', rfl, rfl⟩
  · exact ⟨rfl, rfl⟩
  · omega
  · omega
  · exact ⟨rfl, rfl⟩
theorem zend_fun {tl n r r' t t' : Int32} (h : zend tl n r t) (h' : zend tl n r' t') : r = r' ∧ t = t' := by
  rcases h with ⟨h, rfl, rfl⟩ | ⟨h, rfl, rfl⟩ <;> rcases h' with ⟨h', rfl, rfl⟩ | ⟨h', rfl, rfl⟩
  · exact ⟨rfl, rfl⟩
  · exact absurd h h'
  · exact absurd h' h
  · exact ⟨rfl, rfl⟩
theorem zload_fun {tl a d r r' t t' : Int32} (h : zload tl a d r t) (h' : zload tl a d r' t') : r = r' ∧ t = t' := by
  rcases h with ⟨h, rfl, rfl⟩ | ⟨h, rfl, rfl⟩ <;> rcases h' with ⟨h', rfl, rfl⟩ | ⟨h', rfl, rfl⟩
  · exact ⟨rfl, rfl⟩
  · exact absurd h h'
  · exact absurd h' h
  · exact ⟨rfl, rfl⟩
theorem zkey_fun {c w r r' : Int32} (h : zkey c w r) (h' : zkey c w r') : r = r' := by
  rcases h with ⟨h, rfl⟩ | ⟨h, rfl⟩ <;> rcases h' with ⟨h', rfl⟩ | ⟨h', rfl⟩
  · rfl
  · exact absurd h h'
  · exact absurd h' h
  · rfl
theorem zp4_toInt {x : Int32} (h : zI 0 1000 x) : (zp4 x).toInt = x.toInt + 4 := by
  obtain ⟨h1, h2⟩ := h
  have e1 : (x + 1).toInt = x.toInt + 1 := by rw [Int32.toInt_add, show (1 : Int32).toInt = 1 from rfl, zbm (by omega) (by omega)]
  have e2 : (x + 1 + 1).toInt = x.toInt + 2 := by rw [Int32.toInt_add, show (1 : Int32).toInt = 1 from rfl, e1, zbm (by omega) (by omega)]; omega
  have e3 : (x + 1 + 1 + 1).toInt = x.toInt + 3 := by rw [Int32.toInt_add, show (1 : Int32).toInt = 1 from rfl, e2, zbm (by omega) (by omega)]; omega
  unfold zp4
  rw [Int32.toInt_add, show (1 : Int32).toInt = 1 from rfl, e3, zbm (by omega) (by omega)]
  omega
theorem zp20_toInt {x : Int32} (h : zI 0 980 x) : (zp20 x).toInt = x.toInt + 20 := by
  obtain ⟨h1, h2⟩ := h
  have e1 := zp4_toInt (x := x) ⟨h1, by omega⟩
  have e2 := zp4_toInt (x := zp4 x) ⟨by omega, by omega⟩
  have e3 := zp4_toInt (x := zp4 (zp4 x)) ⟨by omega, by omega⟩
  have e4 := zp4_toInt (x := zp4 (zp4 (zp4 x))) ⟨by omega, by omega⟩
  have e5 := zp4_toInt (x := zp4 (zp4 (zp4 (zp4 x)))) ⟨by omega, by omega⟩
  unfold zp20
  omega
theorem zfeed_in {tl r t : Int32} (h : zI 0 1000 tl) (hf : zfeed tl r t) : zI 0 1000 t := by
  rcases hf with ⟨-, -, rfl⟩ | ⟨h', -, rfl⟩
  · exact h
  · have := zp20_toInt (x := tl) ⟨h.1, h'⟩
    obtain ⟨h1, h2⟩ := h
    exact ⟨by omega, by omega⟩
theorem zend_in {tl n r t : Int32} (h : zI 0 1000 tl) (hf : zend tl n r t) : zI 0 1000 t := by
  rcases hf with ⟨h', -, rfl⟩ | ⟨h', -, rfl⟩
  · obtain ⟨h1, h2⟩ := h
    obtain ⟨h3, h4⟩ := h'
    exact ⟨by omega, by omega⟩
  · exact h
theorem zload_in {tl a d r t : Int32} (h : zI 0 1000 tl) (hf : zload tl a d r t) : zI 0 1000 t := by
  rcases hf with ⟨h', -, rfl⟩ | ⟨h', -, rfl⟩
  · exact ⟨by decide, by decide⟩
  · exact h
section ZO
variable {p : Program} {l : Launch} {e : Env} {R : Room} {s : State} {m : MethodId} {args : Array Value} {below : List Frame} {meth : Method} {c : Code} {Q : State → Prop}
variable {cc : ByteArray} {nL cells slots : Nat} {own : String} {Ts : List Cond} {D : va_G} {tys : List (ClassId × FieldType)} {A : Nat → Prop} {M : Heap → Prop} {pc : Nat} {lv lv' : List (Nat × Value)} {st : List Value}
theorem g_tableO (C : zC p s m args c cc nL own Ts D tys) {dflt lo hi : Int} {offs : Array Int} {len : Nat} {x : Int32} {a b : Int} (hx : zI a b x) (ok : (decide (b < lo) || decide (hi < a)) = true) (tgt : Nat) (hd : decode cc pc = .ok (.tableswitch dflt lo hi offs, len)) (ht : (pc : Int) + dflt = (tgt : Int)) (k : zG p l e R s m args below meth c nL cells slots A Q M tgt lv st) : zG p l e R s m args below meth c nL cells slots A Q M pc lv (.int x :: st) := fun H locs ls hl hM hS => by
  have h : x.toInt < lo ∨ hi < x.toInt := by
    obtain ⟨h1, h2⟩ := hx
    rcases Bool.or_eq_true_iff.mp ok with o | o <;> have o := of_decide_eq_true o
    · exact Or.inl (by omega)
    · exact Or.inr (by omega)
  exact lv_tableOut C.1 C.2.1 hd h ht (k H locs ls hl hM hS)
end ZO
