/-! shifts of 1, products of two ranges -/
theorem q_shlt : ∀ n : Fin 31, ((1 : Int32) <<< (Int32.ofNat n.val &&& 31)).toInt = 2 ^ n.val := by decide
theorem q_shl1 {v y : Int32} {k : Nat} (e : v = 1 <<< (y &&& 31)) (h1 : 0 ≤ y.toInt) (h2 : y.toInt ≤ k) (hk : k ≤ 30) : 1 ≤ v.toInt ∧ v.toInt ≤ 2 ^ k := by
  obtain ⟨n, hn⟩ : ∃ n : Nat, y.toInt = n := ⟨y.toInt.toNat, by omega⟩
  have hy : y = Int32.ofNat n := by
    refine Int32.toInt_inj.mp ?_
    rw [hn, Int32.toInt_ofNat_of_lt (by omega)]
  have := q_shlt ⟨n, by omega⟩
  rw [e, hy, this]
  have h3 : 2 ^ n ≤ 2 ^ k := Nat.pow_le_pow_right (by decide) (by omega)
  have h4 : 0 < 2 ^ n := Nat.pow_pos (by decide)
  show (1 : Int) ≤ 2 ^ n ∧ (2 : Int) ^ n ≤ 2 ^ k
  have h5 : ((2 ^ n : Nat) : Int) ≤ ((2 ^ k : Nat) : Int) := Int.ofNat_le.mpr h3
  have h6 : (0 : Int) < ((2 ^ n : Nat) : Int) := Int.ofNat_lt.mpr h4
  rw [Int.natCast_pow, Int.natCast_pow] at h5
  rw [Int.natCast_pow] at h6
  have h7 : (0 : Int) < 2 ^ n := by simpa using h6
  exact ⟨by omega, by simpa using h5⟩
theorem q_mulr {v x y : Int32} {a b : Int} (e : v = x * y) (hx : 0 ≤ x.toInt ∧ x.toInt ≤ a) (hy : 0 ≤ y.toInt ∧ y.toInt ≤ b) (hab : a * b < 2147483648) : 0 ≤ v.toInt ∧ v.toInt ≤ a * b ∧ v.toInt = x.toInt * y.toInt := by
  have h1 : 0 ≤ x.toInt * y.toInt := Int.mul_nonneg hx.1 hy.1
  have h2 : x.toInt * y.toInt ≤ a * b := Int.mul_le_mul hx.2 hy.2 hy.1 (by omega)
  have h3 := q_mul e (by omega) (by omega)
  exact ⟨by omega, by omega, h3⟩
