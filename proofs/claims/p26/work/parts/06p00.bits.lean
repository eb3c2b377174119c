/-! ===== Int32 by its bits: bt x i ===== -/
def bt (x : Int32) (i : Nat) : Bool := x.toBitVec.getLsbD i
theorem b_ext {x y : Int32} (h : ∀ i, i < 32 → bt x i = bt y i) : x = y := Int32.toBitVec_inj.mp (BitVec.eq_of_getLsbD_eq (fun i hi => h i hi))
theorem b_or (x y : Int32) (i : Nat) : bt (x ||| y) i = (bt x i || bt y i) := by unfold bt; rw [Int32.toBitVec_or, BitVec.getLsbD_or]
theorem b_and (x y : Int32) (i : Nat) : bt (x &&& y) i = (bt x i && bt y i) := by unfold bt; rw [Int32.toBitVec_and, BitVec.getLsbD_and]
theorem b_xor (x y : Int32) (i : Nat) : bt (x ^^^ y) i = (bt x i ^^ bt y i) := by unfold bt; rw [Int32.toBitVec_xor, BitVec.getLsbD_xor]
theorem b_big {x : Int32} {i : Nat} (h : 32 ≤ i) : bt x i = false := BitVec.getLsbD_of_ge _ _ h
theorem b_255 (i : Nat) : bt 255 i = decide (i < 8) := by
  rcases Nat.lt_or_ge i 32 with h | h
  · exact (by decide +kernel : ∀ i, i < 32 → bt 255 i = decide (i < 8)) i h
  · rw [b_big h, decide_eq_false (by omega)]
theorem b_65535 (i : Nat) : bt 65535 i = decide (i < 16) := by
  rcases Nat.lt_or_ge i 32 with h | h
  · exact (by decide +kernel : ∀ i, i < 32 → bt 65535 i = decide (i < 16)) i h
  · rw [b_big h, decide_eq_false (by omega)]
theorem b_m1 : ∀ i, i < 32 → bt (-1) i = true := by decide +kernel
theorem b_0 (i : Nat) : bt 0 i = false := BitVec.getLsbD_zero
theorem s_l : ∀ n, n < 32 → ((nI n &&& 31).toBitVec.smod 32).toNat = n := by decide +kernel
theorem s_u : ∀ n, n < 32 → (((nI n).toUInt32 &&& Int32.toUInt32 31).toBitVec % 32).toNat = n := by decide +kernel
theorem b_shl (n : Nat) (hn : n < 32) (x : Int32) {i : Nat} (hi : i < 32) : bt (x <<< (nI n &&& 31)) i = (decide (n ≤ i) && bt x (i - n)) := by
  unfold bt
  rw [Int32.toBitVec_shiftLeft]
  show (x.toBitVec <<< ((nI n &&& 31).toBitVec.smod 32).toNat).getLsbD i = _
  rw [s_l n hn, BitVec.getLsbD_shiftLeft]
  rcases Nat.lt_or_ge i n with h | h
  · simp [h, Nat.not_le.mpr h]
  · simp [hi, h, Nat.not_lt.mpr h]
theorem b_ushr (n : Nat) (hn : n < 32) (x : Int32) (i : Nat) : bt ((x.toUInt32 >>> ((nI n).toUInt32 &&& Int32.toUInt32 31)).toInt32) i = bt x (n + i) := by
  show (x.toUInt32 >>> ((nI n).toUInt32 &&& Int32.toUInt32 31)).toBitVec.getLsbD i = x.toUInt32.toBitVec.getLsbD (n + i)
  rw [UInt32.toBitVec_shiftRight]
  show (x.toUInt32.toBitVec >>> (((nI n).toUInt32 &&& Int32.toUInt32 31).toBitVec % 32).toNat).getLsbD i = _
  rw [s_u n hn, BitVec.getLsbD_ushiftRight]
theorem b_sshr (n : Nat) (hn : n < 32) (x : Int32) {i : Nat} (hi : i < 32) : bt (x >>> (nI n &&& 31)) i = if n + i < 32 then bt x (n + i) else bt x 31 := by
  unfold bt
  rw [Int32.toBitVec_shiftRight]
  show (x.toBitVec.sshiftRight ((nI n &&& 31).toBitVec.smod 32).toNat).getLsbD i = _
  rw [s_l n hn, BitVec.getLsbD_sshiftRight, BitVec.msb_eq_getLsbD_last]
  simp [hi]
theorem b_shl8 (x : Int32) {i : Nat} (hi : i < 32) : bt (x <<< ((8 : Int32) &&& 31)) i = (decide (8 ≤ i) && bt x (i - 8)) := b_shl 8 (by omega) x hi
theorem b_shl16 (x : Int32) {i : Nat} (hi : i < 32) : bt (x <<< ((16 : Int32) &&& 31)) i = (decide (16 ≤ i) && bt x (i - 16)) := b_shl 16 (by omega) x hi
theorem b_shl24 (x : Int32) {i : Nat} (hi : i < 32) : bt (x <<< ((24 : Int32) &&& 31)) i = (decide (24 ≤ i) && bt x (i - 24)) := b_shl 24 (by omega) x hi
theorem b_sshr8 (x : Int32) {i : Nat} (hi : i < 32) : bt (x >>> ((8 : Int32) &&& 31)) i = if 8 + i < 32 then bt x (8 + i) else bt x 31 := b_sshr 8 (by omega) x hi
/-- the bits of a set of pairs: laws that are told -/
def q_sb (a bk : Int32) (lw : Nat → Int32) : Prop := ∀ n : Nat, n < 12 → bt a n = true → ((lw bk.toNatClampNeg).toInt = 0 ∨ ((n / 4 : Nat) : Int) < (lw bk.toNatClampNeg).toInt)
theorem q_nI {p : Int32} {n : Nat} (h : p.toInt = n) (hn : n < 2 ^ 31) : p = nI n := Int32.toInt_inj.mp (by rw [h, nI_toInt hn])
theorem q_bt1 : ∀ i, i < 32 → bt 1 i = decide (i = 0) := by decide +kernel
theorem q_sb.at {a bk p u v : Int32} {lw : Nat → Int32} (h : q_sb a bk lw) (h0 : 0 ≤ p.toInt) (h1 : p.toInt < 12) (eu : u = a >>> (p &&& 31)) (ev : v = u &&& 1) (hv : v.toInt ≠ 0) : (lw bk.toNatClampNeg).toInt = 0 ∨ p.toInt / 4 < (lw bk.toNatClampNeg).toInt := by
  obtain ⟨n, hn⟩ : ∃ n : Nat, p.toInt = n := ⟨p.toInt.toNat, by omega⟩
  have hp : p = nI n := q_nI hn (by omega)
  have hb : bt a n = true := by
    cases hbn : bt a n with
    | true => rfl
    | false =>
      exfalso
      apply hv
      have hz : v = 0 := by
        apply b_ext
        intro i hi
        rw [ev, b_and, q_bt1 i hi, b_0]
        by_cases q : i = 0
        · subst q
          rw [eu, hp, b_sshr n (by omega) a (by omega), if_pos (by omega)]
          show (bt a n && _) = false
          rw [hbn]; rfl
        · simp [q]
      rw [hz]; decide
  have := h n (by omega) hb
  omega
theorem q_sb.zero {bk : Int32} {lw : Nat → Int32} : q_sb 0 bk lw := fun n _ h => by rw [b_0] at h; cases h
theorem q_sb.or0 {a bk v : Int32} {lw : Nat → Int32} (h : q_sb a bk lw) (ev : v = a ||| 0) : q_sb v bk lw := by
  intro n hn hb
  rw [ev, b_or, b_0, Bool.or_false] at hb
  exact h n hn hb
theorem q_sb.or {a bk v x k : Int32} {lw : Nat → Int32} (h : q_sb a bk lw) (ex : x = 1 <<< (k &&& 31)) (ev : v = a ||| x) (h0 : 0 ≤ k.toInt) (h1 : k.toInt < 12) (hk : (lw bk.toNatClampNeg).toInt = 0 ∨ k.toInt / 4 < (lw bk.toNatClampNeg).toInt) : q_sb v bk lw := by
  intro n hn hb
  obtain ⟨m, hm⟩ : ∃ m : Nat, k.toInt = m := ⟨k.toInt.toNat, by omega⟩
  have hkm : k = nI m := q_nI hm (by omega)
  rw [ev, b_or] at hb
  cases ha : bt a n with
  | true => exact h n hn ha
  | false =>
    rw [ha, Bool.false_or, ex, hkm, b_shl m (by omega) 1 (by omega)] at hb
    have hmn : m = n := by
      by_cases q : m ≤ n
      · rw [q_bt1 (n - m) (by omega)] at hb
        simp [q] at hb
        omega
      · simp [q] at hb
    omega
