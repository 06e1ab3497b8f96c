theorem in_of {x : Int32} {n : Nat} (hn : n < 2 ^ 31) (h0 : ¬ x < 0) (h1 : x < nI n) : vp_in x n := by
  rcases pk_ix x hn with h | h | ⟨j, hj, rfl⟩
  · exact absurd h h0
  · exact absurd h1 (Int32.not_lt.mpr h)
  · exact vp_in_nI hj hn
theorem and255 (x : Int32) : 0 ≤ (x &&& 255).toInt ∧ (x &&& 255).toInt ≤ 255 := by
  obtain ⟨j, hj, e⟩ := pk_andE x (m := 255) 8 (by decide)
  rw [e, nI_toInt (by omega)]
  omega

theorem lk_2 {a p b q d k : Int} (h1 : ¬ k = a) (h2 : ¬ k = b) : Op.lookupswitch.offset [(a, p), (b, q)] d k = d := by
  simp [Op.lookupswitch.offset, h1, h2, Ne.symm h1, Ne.symm h2]
theorem in_7 (x : Int32) : vp_in (x &&& 7) 8 := pk_andIn x 3 (by decide) (by decide)
theorem in_sent (b : Int32) : vp_in ((b &&& 4095) >>> ((6 : Int32) &&& 31)) 64 := by
  rw [pk_and b 12 (by decide), pk_shrN (by have := Nat.mod_lt b.toBitVec.toNat (show 0 < 2 ^ 12 by decide); omega) _ 6 (by decide)]
  exact vp_in_nI (by have := Nat.mod_lt b.toBitVec.toNat (show 0 < 2 ^ 12 by decide); omega) (by decide)

