abbrev q_rf (fs : List Value) (k : Nat) (a : Nat) : Prop := fs[k]? = some (Value.ref a)
abbrev q_if (fs : List Value) (k : Nat) (a : Int32) : Prop := fs[k]? = some (Value.int a)
abbrev q_lf (fs : List Value) (k : Nat) (a : Int64) : Prop := fs[k]? = some (Value.long a)
abbrev q_rg (n : Nat) (lo hi : Int) (b : Nat → Int32) : Prop := ∀ k : Nat, k < n → lo ≤ (b k).toInt ∧ (b k).toInt ≤ hi
/-! ints by their toInt, rows by what holds of every entry -/
theorem q_rng (x : Int32) : -2147483648 ≤ x.toInt ∧ x.toInt < 2147483648 := by
  have h1 := Int32.le_toInt x
  have h2 := Int32.toInt_lt x
  omega
theorem q_bmod {z : Int} (h1 : -2147483648 ≤ z) (h2 : z < 2147483648) : z.bmod (2 ^ 32) = z := by
  rw [Int.bmod_eq_of_le (by omega) (by omega)]
theorem q_add {x y v : Int32} (e : v = x + y) (h1 : -2147483648 ≤ x.toInt + y.toInt) (h2 : x.toInt + y.toInt < 2147483648) : v.toInt = x.toInt + y.toInt := by
  rw [e, Int32.toInt_add, q_bmod h1 h2]
theorem q_sub {x y v : Int32} (e : v = x - y) (h1 : -2147483648 ≤ x.toInt - y.toInt) (h2 : x.toInt - y.toInt < 2147483648) : v.toInt = x.toInt - y.toInt := by
  rw [e, Int32.toInt_sub, q_bmod h1 h2]
theorem q_mul {x y v : Int32} (e : v = x * y) (h1 : -2147483648 ≤ x.toInt * y.toInt) (h2 : x.toInt * y.toInt < 2147483648) : v.toInt = x.toInt * y.toInt := by
  rw [e, Int32.toInt_mul, q_bmod h1 h2]
theorem q_and {x m v : Int32} {k : Nat} (e : v = x &&& m) (hm : m.toBitVec.toNat = 2 ^ k - 1) (hk : k ≤ 30) : 0 ≤ v.toInt ∧ v.toInt < 2 ^ k := by
  obtain ⟨j, hj, ej⟩ := pk_andE x k hm
  have h30 : 2 ^ k ≤ 2 ^ 30 := Nat.pow_le_pow_right (by decide) hk
  rw [e, ej, nI_toInt (by omega)]
  refine ⟨Int.natCast_nonneg j, ?_⟩
  have : ((j : Nat) : Int) < ((2 ^ k : Nat) : Int) := Int.ofNat_lt.mpr hj
  rw [Int.natCast_pow] at this
  exact this
theorem q_in {i : Int32} {n : Nat} (h1 : 0 ≤ i.toInt) (h2 : i.toInt < n) : vp_in i n := vp_in_iff.mpr ⟨h1, h2⟩
theorem q_cl {i : Int32} {n : Nat} (h : vp_in i n) : i.toNatClampNeg < n := Nat.lt_of_not_le (fun q => h (Or.inr q))
theorem q_rd {P : Int32 → Prop} {f : Nat → Int32} {n : Nat} {i v : Int32} (h : ∀ k, k < n → P (f k)) (hi : vp_in i n) (e : v = f i.toNatClampNeg) : P v := by
  rw [e]; exact h _ (q_cl hi)
theorem q_up {P : Int32 → Prop} {f : Nat → Int32} {n j : Nat} {x : Int32} (h : ∀ k, k < n → P (f k)) (hx : P x) : ∀ k, k < n → P (upd f j x k) := by
  intro k hk
  by_cases e : k = j
  · rw [e, pk_us]; exact hx
  · rw [pk_un e]; exact h k hk
theorem q_eq {x y : Int32} (c : x = y) : x.toInt = y.toInt := by rw [c]
theorem q_ne {x y : Int32} (c : ¬ x = y) : x.toInt ≠ y.toInt := fun h => c (Int32.toInt_inj.mp h)
theorem q_eqN {x y : Int32} (c : x = y) : x.toInt = y.toInt := by rw [c]
theorem q_neN {x y : Int32} (c : ¬ x = y) : x.toInt ≠ y.toInt := fun h => c (Int32.toInt_inj.mp h)
theorem q_lt {x y : Int32} (c : x < y) : x.toInt < y.toInt := Int32.lt_iff_toInt_lt.mp c
theorem q_ge {x y : Int32} (c : y ≤ x) : y.toInt ≤ x.toInt := Int32.le_iff_toInt_le.mp c
theorem q_gt {x y : Int32} (c : y < x) : y.toInt < x.toInt := Int32.lt_iff_toInt_lt.mp c
theorem q_le {x y : Int32} (c : x ≤ y) : x.toInt ≤ y.toInt := Int32.le_iff_toInt_le.mp c
theorem q_ltN {x y : Int32} (c : ¬ y ≤ x) : x.toInt < y.toInt := Int32.lt_iff_toInt_lt.mp (Int32.not_le.mp c)
theorem q_geN {x y : Int32} (c : ¬ x < y) : y.toInt ≤ x.toInt := Int32.le_iff_toInt_le.mp (Int32.not_lt.mp c)
theorem q_gtN {x y : Int32} (c : ¬ x ≤ y) : y.toInt < x.toInt := Int32.lt_iff_toInt_lt.mp (Int32.not_le.mp c)
theorem q_leN {x y : Int32} (c : ¬ y < x) : x.toInt ≤ y.toInt := Int32.le_iff_toInt_le.mp (Int32.not_lt.mp c)
theorem q_n0 {y : Int32} (h : y.toInt ≠ 0) : ¬ y = 0 := fun e => h (by rw [e]; decide)
theorem q_mm {x y v : Int32} {c : Prop} [Decidable c] (e : v = if c then x else y) : v = x ∨ v = y := by
  by_cases h : c
  · rw [if_pos h] at e; exact Or.inl e
  · rw [if_neg h] at e; exact Or.inr e
theorem q_max {x y v : Int32} (e : v = if x < y then y else x) : v.toInt = if x.toInt < y.toInt then y.toInt else x.toInt := by
  rw [e]
  by_cases h : x < y
  · rw [if_pos h, if_pos (Int32.lt_iff_toInt_lt.mp h)]
  · rw [if_neg h, if_neg (fun q => h (Int32.lt_iff_toInt_lt.mpr q))]
theorem q_min {x y v : Int32} (e : v = if y < x then y else x) : v.toInt = if y.toInt < x.toInt then y.toInt else x.toInt := by
  rw [e]
  by_cases h : y < x
  · rw [if_pos h, if_pos (Int32.lt_iff_toInt_lt.mp h)]
  · rw [if_neg h, if_neg (fun q => h (Int32.lt_iff_toInt_lt.mpr q))]
section QALD
variable {p : Program} {l : Launch} {e : Env} {R : Room} {s : State} {m : MethodId} {args : Array Value} {below : List Frame} {meth : Method} {c : Code} {H : Heap} {locs : List Loc} {cells slots : Nat} {Q : State → Prop}
variable {cc : ByteArray} {pc : Nat} {ls : Array Slot} {rest : List Value} {D : va_G} {cl : List vw_C} {a : Nat} {tys : List (ClassId × FieldType)} {ws : va_W}
/-- a row of a row of rows -/
theorem q_aldr (hexec : p.tables.exec = Jvm.exec) (hb : c.code = cc) (hK : va_K D cl tys s) (hP : va_P D cl ws H) (q0 t0 : Nat) {cA : ClassId} {ty : FieldType} {n : Nat} {f : Nat → Option Nat} (ha : ws[q0]? = some (a, .inl (cA, n, .inr (.inr (.inr (.inr f)))))) (ht : tys[t0]? = some (cA, .array ty)) {i : Int32} (hin : vp_in i n) (hdg : decode cc pc = .ok (.aaload, 1))
    (kk : W p l e R s m args below meth c H locs cells slots Q (F0 m (pc + 1) ls (va_rf (f i.toNatClampNeg) :: rest))) : W p l e R s m args below meth c H locs cells slots Q (F0 m pc ls (.int i :: .ref a :: rest)) := by
  have hlt : i.toNatClampNeg < n := Nat.not_le.mp fun q => hin (Or.inr q)
  exact W.aald (v := va_rf (f i.toNatClampNeg)) (ty := .array ty) hexec hb (hP q0 _ ha) ((hK.2 t0 _ ht).1 n (fun j => va_rf (f j))) rfl (fun q => by cases q) (by show ¬ (i < 0 ∨ (arrV _ _ _).slots.size ≤ _); rw [arrV_size]; exact hin) (by show (arrV _ _ _).slots[_]? = _; rw [arrV_read _ _ hlt]) rfl rfl hdg kk
end QALD
def q_cnt (f : Nat → Int32) : Prop := (0 ≤ (f 0).toInt ∧ (f 0).toInt ≤ 6) ∧ (0 ≤ (f 1).toInt ∧ (f 1).toInt ≤ 4) ∧ (0 ≤ (f 2).toInt ∧ (f 2).toInt ≤ 4) ∧ (0 ≤ (f 3).toInt ∧ (f 3).toInt ≤ 3) ∧ (0 ≤ (f 4).toInt ∧ (f 4).toInt ≤ 4)
theorem q_cnt_0 {f : Nat → Int32} (h : q_cnt f) : 0 ≤ (f 0).toInt ∧ (f 0).toInt ≤ 6 := h.1
theorem q_cnt_1 {f : Nat → Int32} (h : q_cnt f) : 0 ≤ (f 1).toInt ∧ (f 1).toInt ≤ 4 := h.2.1
theorem q_cnt_2 {f : Nat → Int32} (h : q_cnt f) : 0 ≤ (f 2).toInt ∧ (f 2).toInt ≤ 4 := h.2.2.1
theorem q_cnt_3 {f : Nat → Int32} (h : q_cnt f) : 0 ≤ (f 3).toInt ∧ (f 3).toInt ≤ 3 := h.2.2.2.1
theorem q_cnt_4 {f : Nat → Int32} (h : q_cnt f) : 0 ≤ (f 4).toInt ∧ (f 4).toInt ≤ 4 := h.2.2.2.2
theorem q_cnt_up_0 {f : Nat → Int32} {x : Int32} (h : q_cnt f) (hx : 0 ≤ x.toInt ∧ x.toInt ≤ 6) : q_cnt (upd f 0 x) := ⟨by rw [pk_us]; exact hx, by rw [pk_un (by decide)]; exact q_cnt_1 h, by rw [pk_un (by decide)]; exact q_cnt_2 h, by rw [pk_un (by decide)]; exact q_cnt_3 h, by rw [pk_un (by decide)]; exact q_cnt_4 h⟩
theorem q_cnt_up_1 {f : Nat → Int32} {x : Int32} (h : q_cnt f) (hx : 0 ≤ x.toInt ∧ x.toInt ≤ 4) : q_cnt (upd f 1 x) := ⟨by rw [pk_un (by decide)]; exact q_cnt_0 h, by rw [pk_us]; exact hx, by rw [pk_un (by decide)]; exact q_cnt_2 h, by rw [pk_un (by decide)]; exact q_cnt_3 h, by rw [pk_un (by decide)]; exact q_cnt_4 h⟩
theorem q_cnt_up_2 {f : Nat → Int32} {x : Int32} (h : q_cnt f) (hx : 0 ≤ x.toInt ∧ x.toInt ≤ 4) : q_cnt (upd f 2 x) := ⟨by rw [pk_un (by decide)]; exact q_cnt_0 h, by rw [pk_un (by decide)]; exact q_cnt_1 h, by rw [pk_us]; exact hx, by rw [pk_un (by decide)]; exact q_cnt_3 h, by rw [pk_un (by decide)]; exact q_cnt_4 h⟩
theorem q_cnt_up_3 {f : Nat → Int32} {x : Int32} (h : q_cnt f) (hx : 0 ≤ x.toInt ∧ x.toInt ≤ 3) : q_cnt (upd f 3 x) := ⟨by rw [pk_un (by decide)]; exact q_cnt_0 h, by rw [pk_un (by decide)]; exact q_cnt_1 h, by rw [pk_un (by decide)]; exact q_cnt_2 h, by rw [pk_us]; exact hx, by rw [pk_un (by decide)]; exact q_cnt_4 h⟩
theorem q_cnt_up_4 {f : Nat → Int32} {x : Int32} (h : q_cnt f) (hx : 0 ≤ x.toInt ∧ x.toInt ≤ 4) : q_cnt (upd f 4 x) := ⟨by rw [pk_un (by decide)]; exact q_cnt_0 h, by rw [pk_un (by decide)]; exact q_cnt_1 h, by rw [pk_un (by decide)]; exact q_cnt_2 h, by rw [pk_un (by decide)]; exact q_cnt_3 h, by rw [pk_us]; exact hx⟩
