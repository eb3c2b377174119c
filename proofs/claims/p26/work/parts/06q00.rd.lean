/-! what the reference reads: a sign of the text, longs that are compared -/
def q_sgn (tx : Nat → Int32) (sz k : Int32) : Int32 := if k.toInt < sz.toInt then tx k.toNatClampNeg &&& 255 else 0
theorem q_sgn_lt {tx : Nat → Int32} {sz k : Int32} (h : k.toInt < sz.toInt) : q_sgn tx sz k = tx k.toNatClampNeg &&& 255 := if_pos h
theorem q_sgn_ge {tx : Nat → Int32} {sz k : Int32} (h : sz.toInt ≤ k.toInt) : q_sgn tx sz k = 0 := if_neg (by omega)
theorem q_lc {v : Int32} {x y : Int64} (e : v = lg_cmp x y) (h : v.toInt = 0) : x = y := by
  have hv : v = 0 := q_of (by rw [h]; decide)
  rw [hv] at e
  unfold lg_cmp at e
  by_cases h1 : x > y
  · rw [if_pos h1] at e; exact absurd e (by decide)
  · rw [if_neg h1] at e
    by_cases h2 : x = y
    · exact h2
    · rw [if_neg h2] at e; exact absurd e (by decide)
theorem q_lcn {v : Int32} {x y : Int64} (e : v = lg_cmp x y) (h : v.toInt ≠ 0) : ¬ x = y := by
  intro q
  apply h
  subst q
  have hn : ¬ x > x := Int64.lt_irrefl
  rw [e]
  unfold lg_cmp
  rw [if_neg hn, if_pos rfl]
  decide
/-- what is not full, by the word at hand -/
def q_nf (nm : Int64) (rb : Int32) (kn co wk lw wa : Nat → Int32) : Prop := (nm = 1802399604 → (kn rb.toNatClampNeg).toInt ≠ 6) ∧ (nm = 1668248164 → (co rb.toNatClampNeg).toInt ≠ 4) ∧ (nm = 2002873451 → (wk rb.toNatClampNeg).toInt ≠ 4) ∧ (nm = 7102839 → (lw rb.toNatClampNeg).toInt ≠ 3) ∧ (nm = 2002873972 → (wa rb.toNatClampNeg).toInt ≠ 4)
/-- the walks of a bank: another bank's are not touched -/
theorem q_WB.fr {bk : Int32} {wk st wk' st' : Nat → Int32} (h : q_WB bk wk st) (h1 : wk' bk.toNatClampNeg = wk bk.toNatClampNeg) (h2 : ∀ j : Nat, 4 * bk.toInt ≤ j → (j : Int) < 4 * bk.toInt + (wk bk.toNatClampNeg).toInt → st' j = st j) : q_WB bk wk' st' := by
  intro k hk j hj
  rw [h1] at hk
  rw [h2 j (by omega) (by omega)]
  exact h k hk j hj
theorem q_WB.z {bk : Int32} {wk st : Nat → Int32} (h : (wk bk.toNatClampNeg).toInt = 0) : q_WB bk wk st := by
  intro k hk
  omega
theorem q_WB.more {bk : Int32} {wk st wk' st' : Nat → Int32} (h : q_WB bk wk st) (h1 : (wk' bk.toNatClampNeg).toInt = (wk bk.toNatClampNeg).toInt + 1) (h2 : ∀ j : Nat, (j : Int) ≠ 4 * bk.toInt + (wk bk.toNatClampNeg).toInt → st' j = st j) (h3 : ∀ j : Nat, (j : Int) = 4 * bk.toInt + (wk bk.toNatClampNeg).toInt → 1 ≤ (st' j).toInt) : q_WB bk wk' st' := by
  intro k hk j hj
  by_cases q : (k : Int) = (wk bk.toNatClampNeg).toInt
  · exact h3 j (by omega)
  · rw [h2 j (by omega)]
    exact h k (by omega) j hj
theorem q_LB.z {bk : Int32} {lw fr to cd : Nat → Int32} (h : (lw bk.toNatClampNeg).toInt = 0) : q_LB bk lw fr to cd := by
  intro k hk
  omega
/-- rows of code: another bank's are not touched -/
theorem q_good.fr {j : Nat} {fr to cd fr' to' cd' : Nat → Int32} (h : q_good j fr to cd) (h1 : fr' j = fr j) (h2 : to' j = to j) (h3 : ∀ k : Nat, (fr j).toInt ≤ k → (k : Int) < (to j).toInt → cd' k = cd k) : q_good j fr' to' cd' := by
  obtain ⟨a1, a2, a3, a4⟩ := h
  refine ⟨by rw [h1]; exact a1, by rw [h1, h2]; exact a2, by rw [h2]; exact a3, ?_⟩
  rw [h1, h2, q_run_f _ (fun k hk => h3 _ (by omega) (by omega))]
  exact a4
/-- all places but one are as before -/
def q_offd (m : Int) (f g : Nat → Int32) : Prop := ∀ j : Nat, (j : Int) ≠ m → g j = f j
theorem q_offd.rf {m : Int} {f : Nat → Int32} : q_offd m f f := fun _ _ => rfl
theorem q_offd.up {m : Int} {f0 f g : Nat → Int32} {i x : Int32} (h : q_offd m f0 f) (e : g = upd f i.toNatClampNeg x) (h0 : 0 ≤ i.toInt) (hi : i.toInt = m) : q_offd m f0 g := by
  intro j hj
  have := q_nc h0
  rw [e, pk_un (by omega)]
  exact h j hj
/-- all places but two -/
def q_offb (m : Int) (f g : Nat → Int32) : Prop := ∀ j : Nat, ((j : Int) ≠ m ∧ (j : Int) ≠ m + 1) → g j = f j
theorem q_offb.rf {m : Int} {f : Nat → Int32} : q_offb m f f := fun _ _ => rfl
theorem q_offb.up {m : Int} {f0 f g : Nat → Int32} {i x : Int32} (h : q_offb m f0 f) (e : g = upd f i.toNatClampNeg x) (h0 : 0 ≤ i.toInt) (hi : i.toInt = m ∨ i.toInt = m + 1) : q_offb m f0 g := by
  intro j hj
  have := q_nc h0
  rw [e, pk_un (by omega)]
  exact h j hj
/-- what lies below lo, or in the next bank, is as before -/
def q_offc (lo : Int) (rb : Int32) (f g : Nat → Int32) : Prop := ∀ k : Nat, ((k : Int) < lo ∨ 900 * rb.toInt + 900 ≤ k) → g k = f k
theorem q_offc.rf {lo : Int} {rb : Int32} {f : Nat → Int32} : q_offc lo rb f f := fun _ _ => rfl
theorem q_offc.tr {lo lo' : Int} {rb : Int32} {f g h : Nat → Int32} (h1 : q_offc lo rb f g) (h2 : q_offc lo' rb g h) (hl : lo ≤ lo') : q_offc lo rb f h := by
  intro k hk
  rw [h2 k (by omega), h1 k hk]
theorem q_offc.up {lo : Int} {rb : Int32} {f0 f g : Nat → Int32} {j : Nat} {x : Int32} (h : q_offc lo rb f0 f) (e : g = upd f j x) (h1 : lo ≤ j) (h2 : (j : Int) < 900 * rb.toInt + 900) : q_offc lo rb f0 g := by
  intro k hk
  rw [e, pk_un (by omega)]
  exact h k hk
