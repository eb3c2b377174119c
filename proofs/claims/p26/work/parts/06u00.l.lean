/-! laws of a bank that is read -/
theorem q_narz (x : Int32) : 0 ≤ (vp_nar .boolean x).toInt ∧ (vp_nar .boolean x).toInt ≤ 1 := by
  have h := q_and (v := x &&& 1) (x := x) (m := 1) (k := 1) rfl (by decide) (by decide)
  have h1 : (x &&& 1).toInt < 2 := h.2
  exact ⟨h.1, by show (x &&& 1).toInt ≤ 1; omega⟩
theorem q_ixn {i : Int32} {n : Nat} (h0 : 0 ≤ i.toInt) (h : i.toInt = n) : i.toNatClampNeg = n := by
  have := q_nc h0
  omega
def q_LT (bk co : Int32) (lw to : Nat → Int32) : Prop := ∀ k : Nat, (k : Int) < (lw bk.toNatClampNeg).toInt → ∀ j : Nat, ((j : Int) = 2 * (3 * bk.toInt + k) ∨ (j : Int) = 2 * (3 * bk.toInt + k) + 1) → (to j).toInt ≤ co.toInt
theorem q_LT.z {bk co : Int32} {lw to : Nat → Int32} (h : (lw bk.toNatClampNeg).toInt = 0) : q_LT bk co lw to := by
  intro k hk
  omega
theorem q_LT.le {bk co co' : Int32} {lw to : Nat → Int32} (h : q_LT bk co lw to) (hc : co.toInt ≤ co'.toInt) : q_LT bk co' lw to := fun k hk j hj => by have := h k hk j hj; omega
/-- the other bank's laws stay -/
theorem q_LB.fr {bk rb : Int32} {m : Int} {lo : Int} {lw fr to cd lw' fr' to' cd' : Nat → Int32} (h : q_LB bk lw fr to cd) (h1 : lw' bk.toNatClampNeg = lw bk.toNatClampNeg) (h2 : q_offb m fr fr') (h3 : q_offb m to to') (h4 : q_offc lo rb cd cd') (hl : (lw bk.toNatClampNeg).toInt ≤ 3) (hb : bk.toInt = 0 ∨ bk.toInt = 1) (hr : rb.toInt = 1 - bk.toInt) (hm : 6 * rb.toInt ≤ m ∧ m + 1 < 6 * rb.toInt + 6) (hlo : 900 * rb.toInt ≤ lo) : q_LB bk lw' fr' to' cd' := by
  intro k hk j hj
  rw [h1] at hk
  obtain ⟨g1, g2, g3⟩ := h k hk j hj
  have a1 : fr' j = fr j := h2 j (by omega)
  have a2 : to' j = to j := h3 j (by omega)
  exact ⟨g1.fr a1 a2 (fun i q1 q2 => h4 i (by omega)), by rw [a1]; exact g2, by rw [a2]; exact g3⟩
/-- a law more -/
theorem q_LB.more {rb co co1 : Int32} {lw fr to cd lw' fr' to' cd' : Nat → Int32} (h : q_LB rb lw fr to cd) (ht : q_LT rb co lw to) (h1 : (lw' rb.toNatClampNeg).toInt = (lw rb.toNatClampNeg).toInt + 1) (h2 : q_offb (2 * (3 * rb.toInt + (lw rb.toNatClampNeg).toInt)) fr fr') (h3 : q_offb (2 * (3 * rb.toInt + (lw rb.toNatClampNeg).toInt)) to to') (h4 : q_offc co.toInt rb cd cd') (hc : co.toInt ≤ co1.toInt) (h0 : 900 * rb.toInt ≤ co.toInt) (h9 : co1.toInt ≤ 900 * rb.toInt + 900)
    (hn : ∀ j : Nat, ((j : Int) = 2 * (3 * rb.toInt + (lw rb.toNatClampNeg).toInt) ∨ (j : Int) = 2 * (3 * rb.toInt + (lw rb.toNatClampNeg).toInt) + 1) → q_good j fr' to' cd' ∧ co.toInt ≤ (fr' j).toInt ∧ (to' j).toInt ≤ co1.toInt) : q_LB rb lw' fr' to' cd' ∧ q_LT rb co1 lw' to' := by
  refine ⟨fun k hk j hj => ?_, fun k hk j hj => ?_⟩
  · by_cases q : (k : Int) = (lw rb.toNatClampNeg).toInt
    · obtain ⟨g1, g2, g3⟩ := hn j (by omega)
      exact ⟨g1, by omega, by omega⟩
    · obtain ⟨g1, g2, g3⟩ := h k (by omega) j hj
      have g4 := ht k (by omega) j hj
      have a1 : fr' j = fr j := h2 j (by omega)
      have a2 : to' j = to j := h3 j (by omega)
      exact ⟨g1.fr a1 a2 (fun i q1 q2 => h4 i (by omega)), by rw [a1]; exact g2, by rw [a2]; exact g3⟩
  · by_cases q : (k : Int) = (lw rb.toNatClampNeg).toInt
    · exact (hn j (by omega)).2.2
    · have g4 := ht k (by omega) j hj
      have a2 : to' j = to j := h3 j (by omega)
      rw [a2]; omega
/-- the two rows of a law -/
theorem q_law2 {fr to f1 f2 t1 t2 cd1 cd2 : Nat → Int32} {a b b' c : Int32} {J : Nat} {rb : Int32} (e1 : f1 = upd fr J a) (e2 : f2 = upd f1 (J + 1) b') (e3 : t1 = upd to J b) (e4 : t2 = upd t1 (J + 1) c) (g1 : q_run cd1 a.toInt.toNat (b.toInt - a.toInt).toNat ≠ none) (g2 : q_run cd2 b'.toInt.toNat (c.toInt - b'.toInt).toNat ≠ none) (o : q_offc b'.toInt rb cd1 cd2) (hb : b.toInt = b'.toInt) (h0 : 0 ≤ a.toInt) (h1 : a.toInt ≤ b.toInt) (h2 : b'.toInt ≤ c.toInt) (h3 : c.toInt ≤ 1800) : ∀ j : Nat, (j = J ∨ j = J + 1) → q_good j f2 t2 cd2 ∧ a.toInt ≤ (f2 j).toInt ∧ (t2 j).toInt ≤ c.toInt := by
  intro j hj
  rcases hj with rfl | rfl
  · have x1 : f2 j = a := by rw [e2, pk_un (by omega), e1, pk_us]
    have x2 : t2 j = b := by rw [e4, pk_un (by omega), e3, pk_us]
    refine ⟨⟨by rw [x1]; exact h0, by rw [x1, x2]; exact h1, by rw [x2]; omega, ?_⟩, by rw [x1]; omega, by rw [x2]; omega⟩
    rw [x1, x2, q_run_f _ (fun k hk => o _ (by omega))]
    exact g1
  · have x1 : f2 (J + 1) = b' := by rw [e2, pk_us]
    have x2 : t2 (J + 1) = c := by rw [e4, pk_us]
    exact ⟨⟨by rw [x1]; omega, by rw [x1, x2]; exact h2, by rw [x2]; exact h3, by rw [x1, x2]; exact g2⟩, by rw [x1]; omega, by rw [x2]; omega⟩
theorem q_FW.eq {bk fi : Int32} {wk wk' fw : Nat → Int32} (h : q_FW bk fi wk fw) (e : wk' bk.toNatClampNeg = wk bk.toNatClampNeg) : q_FW bk fi wk' fw := fun k hk => by rw [e]; exact h k hk
theorem q_FW.z {bk fi : Int32} {wk fw : Nat → Int32} (h : fi.toInt = 0) : q_FW bk fi wk fw := fun k hk => by omega
