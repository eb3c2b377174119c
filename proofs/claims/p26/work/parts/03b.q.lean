/-! ints by their toInt, rows by what holds of every entry -/
theorem q_rng (x : Int32) : -2147483648 ≤ x.toInt ∧ x.toInt < 2147483648 := by
  have h1 := Int32.le_toInt x
  have h2 := Int32.toInt_lt x
  omega
theorem q_bmod {z : Int} (h1 : -2147483648 ≤ z) (h2 : z < 2147483648) : z.bmod (2 ^ 32) = z := by
  rw [Int.bmod_eq_of_le (by omega) (by omega)]
theorem q_add {x y v : Int32} (e : v = x + y) (h1 : -2147483648 ≤ x.toInt + y.toInt) (h2 : x.toInt + y.toInt < 2147483648) : v.toInt = x.toInt + y.toInt := by
  rw [e, Int32.toInt_add, q_bmod h1 h2]
theorem q_sub {x y v : Int32} (e : v = x - y) (h1 : -2147483648 ≤ x.toInt - y.toInt) (h2 : x.toInt - y.toInt < 2147483648) : v.toInt = x.toInt - y.toInt := by
  rw [e, Int32.toInt_sub, q_bmod h1 h2]
theorem q_mul {x y v : Int32} (e : v = x * y) (h1 : -2147483648 ≤ x.toInt * y.toInt) (h2 : x.toInt * y.toInt < 2147483648) : v.toInt = x.toInt * y.toInt := by
  rw [e, Int32.toInt_mul, q_bmod h1 h2]
theorem q_and {x m v : Int32} {k : Nat} (e : v = x &&& m) (hm : m.toBitVec.toNat = 2 ^ k - 1) (hk : k ≤ 30) : 0 ≤ v.toInt ∧ v.toInt < 2 ^ k := by
  obtain ⟨j, hj, ej⟩ := pk_andE x k hm
  have h30 : 2 ^ k ≤ 2 ^ 30 := Nat.pow_le_pow_right (by decide) hk
  rw [e, ej, nI_toInt (by omega)]
  refine ⟨Int.natCast_nonneg j, ?_⟩
  have : ((j : Nat) : Int) < ((2 ^ k : Nat) : Int) := Int.ofNat_lt.mpr hj
  rw [Int.natCast_pow] at this
  exact this
theorem q_in {i : Int32} {n : Nat} (h1 : 0 ≤ i.toInt) (h2 : i.toInt < n) : vp_in i n := vp_in_iff.mpr ⟨h1, h2⟩
theorem q_cl {i : Int32} {n : Nat} (h : vp_in i n) : i.toNatClampNeg < n := Nat.lt_of_not_le (fun q => h (Or.inr q))
theorem q_rd {P : Int32 → Prop} {f : Nat → Int32} {n : Nat} {i v : Int32} (h : ∀ k, k < n → P (f k)) (hi : vp_in i n) (e : v = f i.toNatClampNeg) : P v := by
  rw [e]; exact h _ (q_cl hi)
theorem q_up {P : Int32 → Prop} {f : Nat → Int32} {n j : Nat} {x : Int32} (h : ∀ k, k < n → P (f k)) (hx : P x) : ∀ k, k < n → P (upd f j x k) := by
  intro k hk
  by_cases e : k = j
  · rw [e, pk_us]; exact hx
  · rw [pk_un e]; exact h k hk
theorem q_eq {x y : Int32} (c : x = y) : x.toInt = y.toInt := by rw [c]
theorem q_ne {x y : Int32} (c : ¬ x = y) : x.toInt ≠ y.toInt := fun h => c (Int32.toInt_inj.mp h)
theorem q_eqN {x y : Int32} (c : x = y) : x.toInt = y.toInt := by rw [c]
theorem q_neN {x y : Int32} (c : ¬ x = y) : x.toInt ≠ y.toInt := fun h => c (Int32.toInt_inj.mp h)
theorem q_lt {x y : Int32} (c : x < y) : x.toInt < y.toInt := Int32.lt_iff_toInt_lt.mp c
theorem q_ge {x y : Int32} (c : y ≤ x) : y.toInt ≤ x.toInt := Int32.le_iff_toInt_le.mp c
theorem q_gt {x y : Int32} (c : y < x) : y.toInt < x.toInt := Int32.lt_iff_toInt_lt.mp c
theorem q_le {x y : Int32} (c : x ≤ y) : x.toInt ≤ y.toInt := Int32.le_iff_toInt_le.mp c
theorem q_ltN {x y : Int32} (c : ¬ y ≤ x) : x.toInt < y.toInt := Int32.lt_iff_toInt_lt.mp (Int32.not_le.mp c)
theorem q_geN {x y : Int32} (c : ¬ x < y) : y.toInt ≤ x.toInt := Int32.le_iff_toInt_le.mp (Int32.not_lt.mp c)
theorem q_gtN {x y : Int32} (c : ¬ x ≤ y) : y.toInt < x.toInt := Int32.lt_iff_toInt_lt.mp (Int32.not_le.mp c)
theorem q_leN {x y : Int32} (c : ¬ y < x) : x.toInt ≤ y.toInt := Int32.le_iff_toInt_le.mp (Int32.not_lt.mp c)
theorem q_n0 {y : Int32} (h : y.toInt ≠ 0) : ¬ y = 0 := fun e => h (by rw [e]; decide)
theorem q_mm {x y v : Int32} {c : Prop} [Decidable c] (e : v = if c then x else y) : v = x ∨ v = y := by
  by_cases h : c
  · rw [if_pos h] at e; exact Or.inl e
  · rw [if_neg h] at e; exact Or.inr e
theorem q_max {x y v : Int32} (e : v = if x < y then y else x) : v.toInt = if x.toInt < y.toInt then y.toInt else x.toInt := by
  rw [e]
  by_cases h : x < y
  · rw [if_pos h, if_pos (Int32.lt_iff_toInt_lt.mp h)]
  · rw [if_neg h, if_neg (fun q => h (Int32.lt_iff_toInt_lt.mpr q))]
theorem q_min {x y v : Int32} (e : v = if y < x then y else x) : v.toInt = if y.toInt < x.toInt then y.toInt else x.toInt := by
  rw [e]
  by_cases h : y < x
  · rw [if_pos h, if_pos (Int32.lt_iff_toInt_lt.mp h)]
  · rw [if_neg h, if_neg (fun q => h (Int32.lt_iff_toInt_lt.mpr q))]
