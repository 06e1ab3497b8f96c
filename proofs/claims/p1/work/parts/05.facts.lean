theorem in_of {x : Int32} {n : Nat} (hn : n < 2 ^ 31) (h0 : ¬ x < 0) (h1 : x < nI n) : vp_in x n := by
  rcases pk_ix x hn with h | h | ⟨j, hj, rfl⟩
  · exact absurd h h0
  · exact absurd h1 (Int32.not_lt.mpr h)
  · exact vp_in_nI hj hn

theorem fa_lt (a b : Int32) : a < b ↔ a.toInt < b.toInt := Int32.lt_iff_toInt_lt

theorem fa_le (a b : Int32) : a ≤ b ↔ a.toInt ≤ b.toInt := Int32.le_iff_toInt_le

theorem fa_eq (a b : Int32) : a = b ↔ a.toInt = b.toInt := Int32.toInt_inj.symm

theorem tI_m1 : ((-1) : Int32).toInt = -1 := by decide
theorem tI_0 : (0 : Int32).toInt = 0 := by decide
theorem tI_1 : (1 : Int32).toInt = 1 := by decide
theorem tI_2 : (2 : Int32).toInt = 2 := by decide
theorem tI_3 : (3 : Int32).toInt = 3 := by decide
theorem tI_4 : (4 : Int32).toInt = 4 := by decide
theorem tI_5 : (5 : Int32).toInt = 5 := by decide
theorem tI_7 : (7 : Int32).toInt = 7 := by decide
theorem tI_8 : (8 : Int32).toInt = 8 := by decide
theorem tI_10 : (10 : Int32).toInt = 10 := by decide
theorem tI_15 : (15 : Int32).toInt = 15 := by decide
theorem tI_16 : (16 : Int32).toInt = 16 := by decide
theorem tI_20 : (20 : Int32).toInt = 20 := by decide
theorem tI_31 : (31 : Int32).toInt = 31 := by decide
theorem tI_125 : (125 : Int32).toInt = 125 := by decide
theorem tI_191 : (191 : Int32).toInt = 191 := by decide
theorem tI_255 : (255 : Int32).toInt = 255 := by decide
theorem tI_256 : (256 : Int32).toInt = 256 := by decide
theorem tI_980 : (980 : Int32).toInt = 980 := by decide
theorem tI_1000 : (1000 : Int32).toInt = 1000 := by decide
theorem tI_2000 : (2000 : Int32).toInt = 2000 := by decide
theorem tI_4095 : (4095 : Int32).toInt = 4095 := by decide
theorem tI_4096 : (4096 : Int32).toInt = 4096 := by decide
theorem tI_8191 : (8191 : Int32).toInt = 8191 := by decide
theorem tI_8192 : (8192 : Int32).toInt = 8192 := by decide
theorem tI_16383 : (16383 : Int32).toInt = 16383 := by decide
theorem tI_16384 : (16384 : Int32).toInt = 16384 := by decide
theorem tI_32767 : (32767 : Int32).toInt = 32767 := by decide
theorem tI_32768 : (32768 : Int32).toInt = 32768 := by decide
theorem tI_33791 : (33791 : Int32).toInt = 33791 := by decide
theorem tI_33792 : (33792 : Int32).toInt = 33792 := by decide
theorem tI_40959 : (40959 : Int32).toInt = 40959 := by decide
theorem tI_40960 : (40960 : Int32).toInt = 40960 := by decide
theorem tI_65535 : (65535 : Int32).toInt = 65535 := by decide
theorem tI_65536 : (65536 : Int32).toInt = 65536 := by decide
theorem sw_0_2 (x : Int32) : (x.toInt < 0 ∨ 2 < x.toInt) ∨ x = 0 ∨ x = 1 ∨ x = 2 := by
  by_cases h1 : x.toInt < 0
  · exact Or.inl (Or.inl h1)
  by_cases h2 : 2 < x.toInt
  · exact Or.inl (Or.inr h2)
  right
  have h3 : x.toInt = 0 ∨ x.toInt = 1 ∨ x.toInt = 2 := by omega
  rcases h3 with h | h | h
  · have e : x = 0 := Int32.toInt_inj.mp (by rw [h]; rfl)
    simp [e]
  · have e : x = 1 := Int32.toInt_inj.mp (by rw [h]; rfl)
    simp [e]
  · have e : x = 2 := Int32.toInt_inj.mp (by rw [h]; rfl)
    simp [e]

theorem sw_0_3 (x : Int32) : (x.toInt < 0 ∨ 3 < x.toInt) ∨ x = 0 ∨ x = 1 ∨ x = 2 ∨ x = 3 := by
  by_cases h1 : x.toInt < 0
  · exact Or.inl (Or.inl h1)
  by_cases h2 : 3 < x.toInt
  · exact Or.inl (Or.inr h2)
  right
  have h3 : x.toInt = 0 ∨ x.toInt = 1 ∨ x.toInt = 2 ∨ x.toInt = 3 := by omega
  rcases h3 with h | h | h | h
  · have e : x = 0 := Int32.toInt_inj.mp (by rw [h]; rfl)
    simp [e]
  · have e : x = 1 := Int32.toInt_inj.mp (by rw [h]; rfl)
    simp [e]
  · have e : x = 2 := Int32.toInt_inj.mp (by rw [h]; rfl)
    simp [e]
  · have e : x = 3 := Int32.toInt_inj.mp (by rw [h]; rfl)
    simp [e]

theorem sw_0_5 (x : Int32) : (x.toInt < 0 ∨ 5 < x.toInt) ∨ x = 0 ∨ x = 1 ∨ x = 2 ∨ x = 3 ∨ x = 4 ∨ x = 5 := by
  by_cases h1 : x.toInt < 0
  · exact Or.inl (Or.inl h1)
  by_cases h2 : 5 < x.toInt
  · exact Or.inl (Or.inr h2)
  right
  have h3 : x.toInt = 0 ∨ x.toInt = 1 ∨ x.toInt = 2 ∨ x.toInt = 3 ∨ x.toInt = 4 ∨ x.toInt = 5 := by omega
  rcases h3 with h | h | h | h | h | h
  · have e : x = 0 := Int32.toInt_inj.mp (by rw [h]; rfl)
    simp [e]
  · have e : x = 1 := Int32.toInt_inj.mp (by rw [h]; rfl)
    simp [e]
  · have e : x = 2 := Int32.toInt_inj.mp (by rw [h]; rfl)
    simp [e]
  · have e : x = 3 := Int32.toInt_inj.mp (by rw [h]; rfl)
    simp [e]
  · have e : x = 4 := Int32.toInt_inj.mp (by rw [h]; rfl)
    simp [e]
  · have e : x = 5 := Int32.toInt_inj.mp (by rw [h]; rfl)
    simp [e]

theorem sw_0_16 (x : Int32) : (x.toInt < 0 ∨ 16 < x.toInt) ∨ x = 0 ∨ x = 1 ∨ x = 2 ∨ x = 3 ∨ x = 4 ∨ x = 5 ∨ x = 6 ∨ x = 7 ∨ x = 8 ∨ x = 9 ∨ x = 10 ∨ x = 11 ∨ x = 12 ∨ x = 13 ∨ x = 14 ∨ x = 15 ∨ x = 16 := by
  by_cases h1 : x.toInt < 0
  · exact Or.inl (Or.inl h1)
  by_cases h2 : 16 < x.toInt
  · exact Or.inl (Or.inr h2)
  right
  have h3 : x.toInt = 0 ∨ x.toInt = 1 ∨ x.toInt = 2 ∨ x.toInt = 3 ∨ x.toInt = 4 ∨ x.toInt = 5 ∨ x.toInt = 6 ∨ x.toInt = 7 ∨ x.toInt = 8 ∨ x.toInt = 9 ∨ x.toInt = 10 ∨ x.toInt = 11 ∨ x.toInt = 12 ∨ x.toInt = 13 ∨ x.toInt = 14 ∨ x.toInt = 15 ∨ x.toInt = 16 := by omega
  rcases h3 with h | h | h | h | h | h | h | h | h | h | h | h | h | h | h | h | h
  · have e : x = 0 := Int32.toInt_inj.mp (by rw [h]; rfl)
    simp [e]
  · have e : x = 1 := Int32.toInt_inj.mp (by rw [h]; rfl)
    simp [e]
  · have e : x = 2 := Int32.toInt_inj.mp (by rw [h]; rfl)
    simp [e]
  · have e : x = 3 := Int32.toInt_inj.mp (by rw [h]; rfl)
    simp [e]
  · have e : x = 4 := Int32.toInt_inj.mp (by rw [h]; rfl)
    simp [e]
  · have e : x = 5 := Int32.toInt_inj.mp (by rw [h]; rfl)
    simp [e]
  · have e : x = 6 := Int32.toInt_inj.mp (by rw [h]; rfl)
    simp [e]
  · have e : x = 7 := Int32.toInt_inj.mp (by rw [h]; rfl)
    simp [e]
  · have e : x = 8 := Int32.toInt_inj.mp (by rw [h]; rfl)
    simp [e]
  · have e : x = 9 := Int32.toInt_inj.mp (by rw [h]; rfl)
    simp [e]
  · have e : x = 10 := Int32.toInt_inj.mp (by rw [h]; rfl)
    simp [e]
  · have e : x = 11 := Int32.toInt_inj.mp (by rw [h]; rfl)
    simp [e]
  · have e : x = 12 := Int32.toInt_inj.mp (by rw [h]; rfl)
    simp [e]
  · have e : x = 13 := Int32.toInt_inj.mp (by rw [h]; rfl)
    simp [e]
  · have e : x = 14 := Int32.toInt_inj.mp (by rw [h]; rfl)
    simp [e]
  · have e : x = 15 := Int32.toInt_inj.mp (by rw [h]; rfl)
    simp [e]
  · have e : x = 16 := Int32.toInt_inj.mp (by rw [h]; rfl)
    simp [e]

theorem sw_16_31 (x : Int32) : (x.toInt < 16 ∨ 31 < x.toInt) ∨ x = 16 ∨ x = 17 ∨ x = 18 ∨ x = 19 ∨ x = 20 ∨ x = 21 ∨ x = 22 ∨ x = 23 ∨ x = 24 ∨ x = 25 ∨ x = 26 ∨ x = 27 ∨ x = 28 ∨ x = 29 ∨ x = 30 ∨ x = 31 := by
  by_cases h1 : x.toInt < 16
  · exact Or.inl (Or.inl h1)
  by_cases h2 : 31 < x.toInt
  · exact Or.inl (Or.inr h2)
  right
  have h3 : x.toInt = 16 ∨ x.toInt = 17 ∨ x.toInt = 18 ∨ x.toInt = 19 ∨ x.toInt = 20 ∨ x.toInt = 21 ∨ x.toInt = 22 ∨ x.toInt = 23 ∨ x.toInt = 24 ∨ x.toInt = 25 ∨ x.toInt = 26 ∨ x.toInt = 27 ∨ x.toInt = 28 ∨ x.toInt = 29 ∨ x.toInt = 30 ∨ x.toInt = 31 := by omega
  rcases h3 with h | h | h | h | h | h | h | h | h | h | h | h | h | h | h | h
  · have e : x = 16 := Int32.toInt_inj.mp (by rw [h]; rfl)
    simp [e]
  · have e : x = 17 := Int32.toInt_inj.mp (by rw [h]; rfl)
    simp [e]
  · have e : x = 18 := Int32.toInt_inj.mp (by rw [h]; rfl)
    simp [e]
  · have e : x = 19 := Int32.toInt_inj.mp (by rw [h]; rfl)
    simp [e]
  · have e : x = 20 := Int32.toInt_inj.mp (by rw [h]; rfl)
    simp [e]
  · have e : x = 21 := Int32.toInt_inj.mp (by rw [h]; rfl)
    simp [e]
  · have e : x = 22 := Int32.toInt_inj.mp (by rw [h]; rfl)
    simp [e]
  · have e : x = 23 := Int32.toInt_inj.mp (by rw [h]; rfl)
    simp [e]
  · have e : x = 24 := Int32.toInt_inj.mp (by rw [h]; rfl)
    simp [e]
  · have e : x = 25 := Int32.toInt_inj.mp (by rw [h]; rfl)
    simp [e]
  · have e : x = 26 := Int32.toInt_inj.mp (by rw [h]; rfl)
    simp [e]
  · have e : x = 27 := Int32.toInt_inj.mp (by rw [h]; rfl)
    simp [e]
  · have e : x = 28 := Int32.toInt_inj.mp (by rw [h]; rfl)
    simp [e]
  · have e : x = 29 := Int32.toInt_inj.mp (by rw [h]; rfl)
    simp [e]
  · have e : x = 30 := Int32.toInt_inj.mp (by rw [h]; rfl)
    simp [e]
  · have e : x = 31 := Int32.toInt_inj.mp (by rw [h]; rfl)
    simp [e]

theorem sh0 (k : UInt64) : ((Int64.toUInt64 0 >>> k).toInt64.toInt32 &&& 255 : Int32) = 0 := by
  have h : Int64.toUInt64 0 >>> k = 0 := UInt64.zero_shiftRight
  rw [h]; rfl
theorem sh1 (k : UInt64) : ((Int64.toUInt64 0 >>> k).toInt64.toInt32 &&& 1 : Int32) = 0 := by
  have h : Int64.toUInt64 0 >>> k = 0 := UInt64.zero_shiftRight
  rw [h]; rfl
theorem sh2 (k : UInt64) : ((Int64.toUInt64 0 >>> k).toInt64 &&& 1 : Int64) = 0 := by
  have h : Int64.toUInt64 0 >>> k = 0 := UInt64.zero_shiftRight
  rw [h]; rfl
def romA : List Int32 := [0, 1, 2, 3, 4, 5, 6, 7, 8, 9, 10, 11, 12, 13, 14, 15, 16, 17, 18, 19, 20, 21, 22, 23, 24, 25, 26, 27, 28, 29, 30, 31]
theorem romA_1 : ∀ a ∈ romA, a &&& 65535 = a := by decide +kernel
theorem romA_2 : ∀ a ∈ romA, Op.lookupswitch.offset (#[(34816, 27), (38912, 49)] : Array (Int × Int)).toList 71 (a &&& 64513).toInt = 71 := by decide +kernel
theorem romA_3 : ∀ a ∈ romA, a &&& 65534 ∈ romA ∧ a ||| 1 ∈ romA := by decide +kernel
theorem in_sent (b : Int32) : vp_in ((b &&& 4095) >>> ((6 : Int32) &&& 31)) 64 := by
  rw [pk_and b 12 (by decide), pk_shrN (by have := Nat.mod_lt b.toBitVec.toNat (show 0 < 2 ^ 12 by decide); omega) _ 6 (by decide)]
  exact vp_in_nI (by have := Nat.mod_lt b.toBitVec.toNat (show 0 < 2 ^ 12 by decide); omega) (by decide)
theorem in_pic {w : Int32} (h1 : ¬ w < 8) (h2 : w ≤ 15) : vp_in (w - 8) 8 := by
  have h3 : w.toInt = 8 ∨ w.toInt = 9 ∨ w.toInt = 10 ∨ w.toInt = 11 ∨ w.toInt = 12 ∨ w.toInt = 13 ∨ w.toInt = 14 ∨ w.toInt = 15 := by
    simp only [fa_lt, fa_le, tI_8, tI_15] at h1 h2; omega
  rcases h3 with h | h | h | h | h | h | h | h <;> (have e := Int32.ofInt_toInt w; rw [h] at e; rw [← e]; unfold vp_in; decide)
def sp_end (n : Int32) : Int32 := if n.toInt = 0 then 0 else -1
def sp_load (a b : Int32) : Int32 := if a.toInt = 1 then (if 0 ≤ b.toInt ∧ b.toInt ≤ 65536 then 0 else -1) else if a.toInt = 2 then (if 0 ≤ b.toInt ∧ b.toInt ≤ 16384 then 0 else -1) else if a.toInt = 0 ∨ a.toInt = 3 then (if 0 ≤ b.toInt ∧ b.toInt ≤ 8192 then 0 else -1) else -1
def sp_state (w : Int32) : Int32 := if w.toInt = 3 then 2 else if 0 ≤ w.toInt ∧ w.toInt ≤ 5 then 0 else if 16 ≤ w.toInt ∧ w.toInt ≤ 31 then 0 else -1
def sp_peek (a : Int32) : Int32 := if 0 ≤ a.toInt ∧ a.toInt ≤ 65535 then 0 else -1
def sp_set (w : Int32) : Int32 := if 0 ≤ w.toInt ∧ w.toInt ≤ 2 then 1 else 0
def sp_picture (w : Int32) : Int32 := if (0 ≤ w.toInt ∧ w.toInt ≤ 3) ∨ (8 ≤ w.toInt ∧ w.toInt ≤ 15) then 0 else -1
def sp_grom (w : Int32) : Int32 := if 0 ≤ w.toInt ∧ w.toInt ≤ 2 then 0 else -1
def sp_interrupt (w : Int32) : Int32 := if 2 ≤ w.toInt ∧ w.toInt ≤ 15 then 1 else 0
def sp_key (c r : Int32) : Int32 := if (0 ≤ c.toInt ∧ c.toInt ≤ 7) ∧ (0 ≤ r.toInt ∧ r.toInt ≤ 7) then 1 else 0
def sp_out (b : Int32) : Int32 := if 0 ≤ b.toInt ∧ b.toInt ≤ 4095 then 0 else -1
def sp_inn (b : Int32) : Int32 := if 2 ≤ b.toInt ∧ b.toInt ≤ 10 then 1 else if 0 ≤ b.toInt ∧ b.toInt ≤ 4095 then 0 else -1
def sp_pixel (x y : Int32) : Int32 := if (0 ≤ x.toInt ∧ x.toInt ≤ 255) ∧ (0 ≤ y.toInt ∧ y.toInt ≤ 191) then 0 else -1

def sp_coming (p0 : Int32) : Int32 := if 2 ≤ p0.toInt ∧ p0.toInt ≤ 10 then 1 else 0
theorem romA_4 : ∀ a ∈ romA, ¬ a < 0 ∧ a < 34816 ∧ ¬ 65535 < a ∧ ¬ a + 1 < 0 ∧ ¬ 65535 < a + 1 := by decide +kernel
theorem tI_34816 : (34816 : Int32).toInt = 34816 := by decide
theorem in_pad {a : Int32} (h0 : ¬ a < 0) : vp_in (32768 + (a - a / 256 * 256)) 65536 := by
  obtain ⟨j, hj, rfl⟩ := nI_of h0
  have e : nI j - nI j / 256 * 256 = nI (j % 256) := pk_rem (d := 256) hj (by decide) (by decide)
  rw [e, show (32768 : Int32) = nI 32768 from rfl, nI_add]
  exact vp_in_nI (by have := Nat.mod_lt j (show 0 < 256 by decide); omega) (by decide)
theorem in_key {c r : Int32} (h1 : ¬ c < 0) (h2 : ¬ 7 < c) (h3 : ¬ r < 0) (h4 : ¬ 7 < r) : vp_in (8 * c + r) 64 := by
  obtain ⟨j, hj, rfl⟩ := nI_of h1
  obtain ⟨k, hk, rfl⟩ := nI_of h3
  have a : j < 8 := by rw [fa_lt, nI_toInt hj, tI_7] at h2; omega
  have b : k < 8 := by rw [fa_lt, nI_toInt hk, tI_7] at h4; omega
  rw [show (8 : Int32) = nI 8 from rfl, pk_mul, nI_add]
  exact vp_in_nI (by omega) (by decide)
theorem in_key3 {b : Int32} (h1 : ¬ b < 3) (h2 : ¬ 10 < b) : vp_in (0 + b - 3) 64 := by
  have h3 : b.toInt = 3 ∨ b.toInt = 4 ∨ b.toInt = 5 ∨ b.toInt = 6 ∨ b.toInt = 7 ∨ b.toInt = 8 ∨ b.toInt = 9 ∨ b.toInt = 10 := by
    simp only [fa_lt, tI_3, tI_10] at h1 h2; omega
  rcases h3 with h | h | h | h | h | h | h | h <;> (have e := Int32.ofInt_toInt b; rw [h] at e; rw [← e]; unfold vp_in; decide)

def sp_thr (n : Int) (p0 : Int32) : Int32 := if 0 ≤ p0.toInt ∧ p0.toInt ≤ n then 0 else 1
