/-! an e that is read: the pile of what waits, and the row of code -/
def q_op (c : Int32) : Prop := c.toInt = 1 ∨ c.toInt = 2 ∨ c.toInt = 4 ∨ c.toInt = 5 ∨ c.toInt = 6
def q_nb (c : Int32) : Prop := c.toInt = 3 ∨ c.toInt = 7
def q_ops (c : Int32) : Prop := c.toInt = 38 ∨ c.toInt = 124 ∨ c.toInt = 60 ∨ c.toInt = 62 ∨ c.toInt = 61 ∨ c.toInt = 43 ∨ c.toInt = 45 ∨ c.toInt = 42 ∨ c.toInt = 47
def q_b1 (c : Int32) : Nat := if c.toInt = 1 ∨ c.toInt = 2 ∨ c.toInt = 4 ∨ c.toInt = 5 ∨ c.toInt = 6 then 1 else 0
def q_b2 (c : Int32) : Nat := if c.toInt = 3 ∨ c.toInt = 7 then 1 else 0
def q_n1 (wh : Nat → Int32) : Nat → Nat
  | 0 => 0
  | n + 1 => q_n1 wh n + q_b1 (wh n)
def q_n2 (wh : Nat → Int32) : Nat → Nat
  | 0 => 0
  | n + 1 => q_n2 wh n + q_b2 (wh n)
theorem q_n1_f {wh wh' : Nat → Int32} : ∀ n, (∀ k, k < n → wh' k = wh k) → q_n1 wh' n = q_n1 wh n := by
  intro n
  induction n with
  | zero => intro _; rfl
  | succ n ih => intro h; show q_n1 wh' n + q_b1 (wh' n) = q_n1 wh n + q_b1 (wh n); rw [ih (fun k hk => h k (by omega)), h n (by omega)]
theorem q_n2_f {wh wh' : Nat → Int32} : ∀ n, (∀ k, k < n → wh' k = wh k) → q_n2 wh' n = q_n2 wh n := by
  intro n
  induction n with
  | zero => intro _; rfl
  | succ n ih => intro h; show q_n2 wh' n + q_b2 (wh' n) = q_n2 wh n + q_b2 (wh n); rw [ih (fun k hk => h k (by omega)), h n (by omega)]
theorem q_b1_1 {c : Int32} (h : q_op c) : q_b1 c = 1 ∧ q_b2 c = 0 := by
  unfold q_op at h
  unfold q_b1 q_b2
  rw [if_pos h, if_neg (by omega)]
  exact ⟨rfl, rfl⟩
theorem q_b1_0 {c : Int32} (h : q_nb c) : q_b1 c = 0 ∧ q_b2 c = 1 := by
  unfold q_nb at h
  unfold q_b1 q_b2
  rw [if_pos h, if_neg (by omega)]
  exact ⟨rfl, rfl⟩
theorem q_b1_8 {c : Int32} (h : c.toInt = 8) : q_b1 c = 0 ∧ q_b2 c = 0 := by
  unfold q_b1 q_b2
  rw [if_neg (by omega), if_neg (by omega)]
  exact ⟨rfl, rfl⟩
/-- the pile's number: E_ALL, what waits, what it is within -/
theorem q_num {wh : Nat → Int32} (h0 : (wh 0).toInt = 8) : ∀ p, 1 ≤ p → (∀ j, 1 ≤ j → j < p → 1 ≤ (wh j).toInt ∧ (wh j).toInt ≤ 7) → p = 1 + q_n1 wh p + q_n2 wh p := by
  intro p
  induction p with
  | zero => intro h; omega
  | succ p ih =>
    intro _ h
    show p + 1 = 1 + (q_n1 wh p + q_b1 (wh p)) + (q_n2 wh p + q_b2 (wh p))
    by_cases q : p = 0
    · subst q
      have := q_b1_8 h0
      show 0 + 1 = 1 + (0 + q_b1 (wh 0)) + (0 + q_b2 (wh 0))
      omega
    · have e := ih (by omega) (fun j h1 h2 => h j h1 (by omega))
      have hp := h p (by omega) (by omega)
      by_cases ho : q_op (wh p)
      · have := q_b1_1 ho; omega
      · have hn : q_nb (wh p) := by unfold q_op at ho; unfold q_nb; omega
        have := q_b1_0 hn; omega
/-- x: 0 a unit is wanted, 1 it was read; p: the pile's number -/
def q_EI (x p : Nat) (rb co un wi lo : Int) (wh sg cd : Nat → Int32) : Prop :=
  1 ≤ p ∧ un ≤ 60 ∧ wi = q_n2 wh p ∧ wi ≤ 7 ∧ (wh 0).toInt = 8 ∧ (∀ j, 1 ≤ j → j < p → 1 ≤ (wh j).toInt ∧ (wh j).toInt ≤ 7) ∧ (∀ j, j < p → q_op (wh j) → q_ops (sg j)) ∧ (∀ j, j < p → (wh j).toInt = 3 → (sg j).toInt = 126) ∧
  0 ≤ rb ∧ 900 * rb ≤ lo ∧ lo ≤ co ∧ q_run cd lo.toNat (co - lo).toNat = some (q_n1 wh p + x) ∧ ((q_n1 wh p + x : Nat) : Int) ≤ un ∧ co - 900 * rb + p ≤ 9 * un + (if x = 0 then wi + 1 else 0) ∧ x ≤ 1
theorem q_EI.bd {x p : Nat} {rb co un wi lo : Int} {wh sg cd : Nat → Int32} (h : q_EI x p rb co un wi lo wh sg cd) : 0 ≤ wi ∧ wi ≤ 7 ∧ un ≤ 60 ∧ 0 ≤ un ∧ 1 ≤ p ∧ p ≤ 68 ∧ 900 * rb ≤ lo ∧ lo ≤ co ∧ co + 1 ≤ 900 * rb + 549 ∧ 0 ≤ rb := by
  obtain ⟨h1, h2, h3, h4, h5, h6, h7, h8, h9, h10, h11, h12, h13, h14, h15⟩ := h
  have hn := q_num h5 p h1 h6
  have : (if x = 0 then wi + 1 else (0 : Int)) ≤ 8 := by by_cases q : x = 0 <;> simp [q] <;> omega
  omega
theorem q_upd_lt {f g : Nat → Int32} {j : Nat} {x : Int32} (e : g = upd f j x) {k : Nat} (h : k < j) : g k = f k := by rw [e, pk_un (by omega)]
theorem q_upd_at {f g : Nat → Int32} {j : Nat} {x : Int32} (e : g = upd f j x) : g j = x := by rw [e, pk_us]
/-- not or ( is put on the pile -/
theorem q_EI.push {p : Nat} {rb co un un' wi lo : Int} {wh sg cd wh' sg' : Nat → Int32} {c d : Int32} (h : q_EI 0 p rb co un wi lo wh sg cd) (e1 : wh' = upd wh p c) (e2 : sg' = upd sg p d) (hc : q_nb c) (hd : d.toInt = 126) (hw : wi ≤ 6) (hu : un ≤ un') (hu2 : un' ≤ 60) : q_EI 0 (p + 1) rb co un' (wi + 1) lo wh' sg' cd := by
  obtain ⟨h1, h2, h3, h4, h5, h6, h7, h8, h9, h10, h11, h12, h13, h14, h15⟩ := h
  have f1 : q_n1 wh' p = q_n1 wh p := q_n1_f p (fun k hk => q_upd_lt e1 hk)
  have f2 : q_n2 wh' p = q_n2 wh p := q_n2_f p (fun k hk => q_upd_lt e1 hk)
  have hb := q_b1_0 hc
  have g1 : q_n1 wh' (p + 1) = q_n1 wh p := by show q_n1 wh' p + q_b1 (wh' p) = _; rw [f1, q_upd_at e1, hb.1]; rfl
  have g2 : q_n2 wh' (p + 1) = q_n2 wh p + 1 := by show q_n2 wh' p + q_b2 (wh' p) = _; rw [f2, q_upd_at e1, hb.2]
  refine ⟨by omega, hu2, by rw [g2]; omega, by omega, by rw [q_upd_lt e1 (by omega)]; exact h5, ?_, ?_, ?_, h9, h10, h11, by rw [g1]; exact h12, by rw [g1]; omega, ?_, by omega⟩
  · intro j a b
    by_cases q : j = p
    · rw [q, q_upd_at e1]; unfold q_nb at hc; omega
    · rw [q_upd_lt e1 (by omega)]; exact h6 j a (by omega)
  · intro j a b
    by_cases q : j = p
    · rw [q, q_upd_at e1] at b; unfold q_nb at hc; unfold q_op at b; omega
    · rw [q_upd_lt e1 (by omega)] at b; rw [q_upd_lt e2 (by omega)]; exact h7 j (by omega) b
  · intro j a b
    by_cases q : j = p
    · rw [q, q_upd_at e2]; exact hd
    · rw [q_upd_lt e1 (by omega)] at b; rw [q_upd_lt e2 (by omega)]; exact h8 j (by omega) b
  · simp only [if_true] at h14 ⊢; omega
/-- a unit -/
theorem q_EI.unit {p : Nat} {rb co un wi lo : Int} {wh sg cd cd' : Nat → Int32} {c : Int32} (h : q_EI 0 p rb co un wi lo wh sg cd) (e : cd' = upd cd co.toNat c) (hc : 97 ≤ c.toInt ∧ c.toInt ≤ 122) (hu : un + 1 ≤ 60) : q_EI 1 p rb (co + 1) (un + 1) wi lo wh sg cd' := by
  have hbd := h.bd
  obtain ⟨h1, h2, h3, h4, h5, h6, h7, h8, h9, h10, h11, h12, h13, h14, h15⟩ := h
  refine ⟨h1, hu, h3, h4, h5, h6, h7, h8, h9, h10, by omega, ?_, by omega, ?_, by omega⟩
  · have k1 : q_run cd' lo.toNat (co - lo).toNat = some (q_n1 wh p + 0) := by
      rw [q_run_f _ (fun k hk => by rw [e, pk_un (by omega)])]; exact h12
    rw [show (co + 1 - lo).toNat = (co - lo).toNat + 1 by omega, q_run_s k1, show lo.toNat + (co - lo).toNat = co.toNat by omega, q_upd_at e]
    unfold q_stp
    have n1 : ¬ c = 126 := fun q => by rw [q] at hc; revert hc; decide
    rw [if_neg n1, if_pos hc, if_pos (by omega)]
  · simp only [if_true] at h14
    simp
    omega
/-- what waits is emitted: an operator, or not -/
theorem q_EI.pop {p : Nat} {rb co un wi wi' lo : Int} {wh sg cd cd' : Nat → Int32} {c d : Int32} (h : q_EI 1 (p + 1) rb co un wi lo wh sg cd) (ec : c = wh p) (ed : d = sg p) (hc : c.toInt ≤ 6) (e : cd' = upd cd co.toNat d) (hw : wi' = if c.toInt = 3 then wi - 1 else wi) : q_EI 1 p rb (co + 1) un wi' lo wh sg cd' := by
  have hbd := h.bd
  obtain ⟨h1, h2, h3, h4, h5, h6, h7, h8, h9, h10, h11, h12, h13, h14, h15⟩ := h
  have hp : 1 ≤ p := by
    by_cases q : p = 0
    · subst q; rw [ec] at hc; omega
    · omega
  have h6p := h6 p hp (by omega)
  have s1 : q_n1 wh (p + 1) = q_n1 wh p + q_b1 (wh p) := rfl
  have s2 : q_n2 wh (p + 1) = q_n2 wh p + q_b2 (wh p) := rfl
  have k1 : q_run cd' lo.toNat (co - lo).toNat = some (q_n1 wh (p + 1) + 1) := by
    rw [q_run_f _ (fun k hk => by rw [e, pk_un (by omega)])]; exact h12
  have k2 := q_run_s k1
  rw [show lo.toNat + (co - lo).toNat = co.toNat by omega, q_upd_at e] at k2
  simp only [show ¬ (1 : Nat) = 0 by decide, if_false] at h14
  by_cases ho : q_op (wh p)
  · have hb := q_b1_1 ho
    have hops := h7 p (by omega) ho
    rw [← ed] at hops
    have c3 : ¬ c.toInt = 3 := by rw [ec]; unfold q_op at ho; omega
    rw [if_neg c3] at hw
    refine ⟨hp, h2, by rw [hw, h3, s2]; omega, by omega, h5, fun j a b => h6 j a (by omega), fun j a => h7 j (by omega), fun j a => h8 j (by omega), h9, h10, by omega, ?_, by omega, ?_, by omega⟩
    · rw [show (co + 1 - lo).toNat = (co - lo).toNat + 1 by omega, k2]
      unfold q_stp
      unfold q_ops at hops
      have n1 : ¬ d = 126 := fun q => by
        have : d.toInt = 126 := by rw [q]; decide
        omega
      rw [if_neg n1, if_neg (by omega), if_pos (by omega)]
      congr 1
      omega
    · simp; omega
  · have hn : (wh p).toInt = 3 := by unfold q_op at ho; rw [ec] at hc; omega
    have hb := q_b1_0 (c := wh p) (Or.inl hn)
    have hd : d.toInt = 126 := by rw [ed]; exact h8 p (by omega) hn
    rw [if_pos (by rw [ec]; exact hn)] at hw
    refine ⟨hp, h2, by rw [hw, h3, s2]; omega, by omega, h5, fun j a b => h6 j a (by omega), fun j a => h7 j (by omega), fun j a => h8 j (by omega), h9, h10, by omega, ?_, by omega, ?_, by omega⟩
    · rw [show (co + 1 - lo).toNat = (co - lo).toNat + 1 by omega, k2]
      unfold q_stp
      rw [if_pos (q_of (by rw [hd]; decide)), if_pos (by omega)]
      congr 1
      omega
    · simp; omega
/-- an operator waits -/
theorem q_EI.wait {p : Nat} {rb co un wi lo : Int} {wh sg cd wh' sg' : Nat → Int32} {c d : Int32} (h : q_EI 1 p rb co un wi lo wh sg cd) (e1 : wh' = upd wh p c) (e2 : sg' = upd sg p d) (hc : q_op c) (hd : q_ops d) : q_EI 0 (p + 1) rb co un wi lo wh' sg' cd := by
  obtain ⟨h1, h2, h3, h4, h5, h6, h7, h8, h9, h10, h11, h12, h13, h14, h15⟩ := h
  have f1 : q_n1 wh' p = q_n1 wh p := q_n1_f p (fun k hk => q_upd_lt e1 hk)
  have f2 : q_n2 wh' p = q_n2 wh p := q_n2_f p (fun k hk => q_upd_lt e1 hk)
  have hb := q_b1_1 hc
  have g1 : q_n1 wh' (p + 1) = q_n1 wh p + 1 := by show q_n1 wh' p + q_b1 (wh' p) = _; rw [f1, q_upd_at e1, hb.1]
  have g2 : q_n2 wh' (p + 1) = q_n2 wh p := by show q_n2 wh' p + q_b2 (wh' p) = _; rw [f2, q_upd_at e1, hb.2]; rfl
  refine ⟨by omega, h2, by rw [g2]; exact h3, h4, by rw [q_upd_lt e1 (by omega)]; exact h5, ?_, ?_, ?_, h9, h10, h11, by rw [g1]; exact h12, by rw [g1]; exact h13, ?_, by omega⟩
  · intro j a b
    by_cases q : j = p
    · rw [q, q_upd_at e1]; unfold q_op at hc; omega
    · rw [q_upd_lt e1 (by omega)]; exact h6 j a (by omega)
  · intro j a b
    by_cases q : j = p
    · rw [q, q_upd_at e2]; exact hd
    · rw [q_upd_lt e1 (by omega)] at b; rw [q_upd_lt e2 (by omega)]; exact h7 j (by omega) b
  · intro j a b
    by_cases q : j = p
    · rw [q, q_upd_at e1] at b; unfold q_op at hc; omega
    · rw [q_upd_lt e1 (by omega)] at b; rw [q_upd_lt e2 (by omega)]; exact h8 j (by omega) b
  · simp only [show ¬ (1 : Nat) = 0 by decide, if_false] at h14
    simp
    have : 0 ≤ wi := by omega
    omega
/-- ( or the whole ends -/
theorem q_EI.drop {p : Nat} {rb co un wi wi' lo : Int} {wh sg cd : Nat → Int32} {c : Int32} (h : q_EI 1 (p + 1) rb co un wi lo wh sg cd) (hp : 1 ≤ p) (ec : c = wh p) (hc : c.toInt = 7) (hw : wi' = wi - 1) : q_EI 1 p rb co un wi' lo wh sg cd := by
  obtain ⟨h1, h2, h3, h4, h5, h6, h7, h8, h9, h10, h11, h12, h13, h14, h15⟩ := h
  have hb := q_b1_0 (c := wh p) (Or.inr (by rw [← ec]; exact hc))
  have s1 : q_n1 wh (p + 1) = q_n1 wh p + q_b1 (wh p) := rfl
  have s2 : q_n2 wh (p + 1) = q_n2 wh p + q_b2 (wh p) := rfl
  have e1 : q_n1 wh (p + 1) = q_n1 wh p := by omega
  rw [e1] at h12 h13
  simp only [show ¬ (1 : Nat) = 0 by decide, if_false] at h14
  exact ⟨hp, h2, by rw [hw, h3, s2]; omega, by omega, h5, fun j a b => h6 j a (by omega), fun j a => h7 j (by omega), fun j a => h8 j (by omega), h9, h10, h11, h12, h13, by simp; omega, h15⟩
/-- the end of an e -/
theorem q_EI.done {rb co un wi lo : Int} {wh sg cd : Nat → Int32} (h : q_EI 1 1 rb co un wi lo wh sg cd) : q_run cd lo.toNat (co - lo).toNat ≠ none ∧ co - 900 * rb ≤ 9 * un ∧ un ≤ 60 := by
  obtain ⟨h1, h2, h3, h4, h5, h6, h7, h8, h9, h10, h11, h12, h13, h14, h15⟩ := h
  simp only [show ¬ (1 : Nat) = 0 by decide, if_false] at h14
  exact ⟨by rw [h12]; simp, by omega, h2⟩
/-- the beginning -/
theorem q_EI.begin {rb co un : Int} {wh sg cd wh' sg' : Nat → Int32} {c d : Int32} (hr : 0 ≤ rb) (h1 : 900 * rb ≤ co) (h2 : co - 900 * rb ≤ 9 * un) (h3 : un ≤ 60) (h4 : 0 ≤ un) (e1 : wh' = upd wh 0 c) (e2 : sg' = upd sg 0 d) (hc : c.toInt = 8) : q_EI 0 1 rb co un 0 co wh' sg' cd := by
  have hb := q_b1_8 hc
  have g1 : q_n1 wh' 1 = 0 := by show 0 + q_b1 (wh' 0) = 0; rw [q_upd_at e1, hb.1]
  have g2 : q_n2 wh' 1 = 0 := by show 0 + q_b2 (wh' 0) = 0; rw [q_upd_at e1, hb.2]
  refine ⟨by omega, h3, by rw [g2]; rfl, by omega, by rw [q_upd_at e1]; exact hc, fun j a b => by omega, ?_, ?_, hr, h1, by omega, ?_, by rw [g1]; omega, by simp; omega, by omega⟩
  · intro j a b
    have : j = 0 := by omega
    subst this
    rw [q_upd_at e1] at b
    unfold q_op at b
    omega
  · intro j a b
    have : j = 0 := by omega
    subst this
    rw [q_upd_at e1] at b
    omega
  · rw [g1, show (co - co).toNat = 0 by omega]; rfl
theorem q_EI.cast {x p p' : Nat} {rb co un wi lo co' un' wi' : Int} {wh sg cd : Nat → Int32} (h : q_EI x p rb co un wi lo wh sg cd) (e1 : p = p') (e2 : co = co') (e3 : un = un') (e4 : wi = wi') : q_EI x p' rb co' un' wi' lo wh sg cd := by
  subst e1; subst e2; subst e3; subst e4; exact h
theorem q_EI.castx {x x' p : Nat} {rb co un wi lo : Int} {wh sg cd : Nat → Int32} (h : q_EI x p rb co un wi lo wh sg cd) (e : x = x') : q_EI x' p rb co un wi lo wh sg cd := by
  subst e; exact h
theorem q_e0 {f : Nat → Int32} {k v : Int32} (h : (f 0).toInt = 8) (e : v = f k.toNatClampNeg) (h0 : 0 ≤ k.toInt) : k.toInt ≠ 0 ∨ v.toInt = 8 := by
  by_cases q : k.toInt = 0
  · right
    have hk : k.toNatClampNeg = 0 := by
      have := q_nc h0
      omega
    rw [e, hk]; exact h
  · left; exact q
/-- a place by a number -/
theorem q_ix {f : Nat → Int32} {i v : Int32} {n : Nat} (e : v = f i.toNatClampNeg) (h0 : 0 ≤ i.toInt) (h : i.toInt = n) : v = f n := by
  have := q_nc h0
  rw [e, show i.toNatClampNeg = n by omega]
theorem q_EI.top {x p : Nat} {rb co un wi lo : Int} {wh sg cd : Nat → Int32} {c : Int32} (h : q_EI x (p + 1) rb co un wi lo wh sg cd) (ec : c = wh p) : 1 ≤ c.toInt ∧ c.toInt ≤ 8 ∧ (p ≠ 0 ∨ c.toInt = 8) ∧ (p = 0 ∨ c.toInt ≤ 7) := by
  obtain ⟨h1, h2, h3, h4, h5, h6, h7, h8, h9⟩ := h
  by_cases q : p = 0
  · subst q; rw [ec]; omega
  · have := h6 p (by omega) (by omega)
    rw [ec]; omega
theorem q_EI.h8 {x p : Nat} {rb co un wi lo : Int} {wh sg cd : Nat → Int32} (h : q_EI x p rb co un wi lo wh sg cd) : (wh 0).toInt = 8 := h.2.2.2.2.1
/-- what stands behind a unit -/
def q_rk (r c : Int32) : Prop := r.toInt = 0 ∨ r.toInt = 1 ∨ r.toInt = 2 ∨ ((r.toInt = 4 ∨ r.toInt = 5 ∨ r.toInt = 6) ∧ q_ops c)
theorem q_rk.op {r c : Int32} (h : q_rk r c) (h0 : 0 < r.toInt) : q_op r := by
  unfold q_rk at h
  unfold q_op
  rcases h with h | h | h | h
  · omega
  · exact Or.inl h
  · exact Or.inr (Or.inl h)
  · obtain ⟨h, -⟩ := h
    omega
theorem q_rk.ops {r c d : Int32} (h : q_rk r c) (h0 : 0 < r.toInt) (h1 : r.toInt ≠ 1) (h2 : r.toInt ≠ 2) (e : d.toInt = c.toInt) : q_ops d := by
  unfold q_rk at h
  rcases h with h | h | h | h
  · omega
  · omega
  · omega
  · have hc := h.2
    unfold q_ops at hc ⊢
    rw [e]; exact hc
theorem q_ops38 : q_ops 38 := by unfold q_ops; decide
theorem q_ops124 : q_ops 124 := by unfold q_ops; decide
