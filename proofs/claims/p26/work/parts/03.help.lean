/-- an index that a program decides -/
theorem p1_in {i : Int32} {n : Nat} (h : ¬ (i < 0 ∨ n ≤ i.toNatClampNeg)) : vp_in i n := h
theorem p1_sa {fs : List Value} {k n : Nat} {v : Value} (h : fs.length = n) (hk : k < n) : (fs.set k v)[k]? = some v := by
  rw [List.getElem?_set_self (by omega)]
theorem p1_sn {fs : List Value} {k j : Nat} {v w : Value} (h : k ≠ j) (e : fs[j]? = some w) : (fs.set k v)[j]? = some w := by
  rw [List.getElem?_set_ne h]; exact e
theorem p1_all {ws : List Cond} (ps : List Nat) (h : ws = ps.filterMap (fun i => lw_tbl[i]?)) : ∀ w ∈ ws, w ∈ lw_tbl := by
  intro w hw
  rw [h] at hw
  obtain ⟨i, -, hi⟩ := List.mem_filterMap.mp hw
  exact List.mem_of_getElem? hi
theorem p1_i0 : ∀ w ∈ ([] : List Cond), w ∈ lw_tbl := fun _ h => absurd h List.not_mem_nil
theorem p1_ia {a b : List Cond} (ha : ∀ w ∈ a, w ∈ lw_tbl) (hb : ∀ w ∈ b, w ∈ lw_tbl) : ∀ w ∈ a ++ b, w ∈ lw_tbl := fun w h => (List.mem_append.mp h).elim (ha w) (hb w)
theorem p1_g0 : ([] : List Cond).all goodWord = true := rfl
theorem p1_ga {a b : List Cond} (ha : a.all goodWord = true) (hb : b.all goodWord = true) : (a ++ b).all goodWord = true := by rw [List.all_append, ha, hb]; rfl
theorem p1_gV {big ws : List Cond} {own C : String} {idx : Nat} {y : MethodName} (h1 : Cond.methodLink own idx y ∈ big) (h2 : Cond.instanceMethod y ∈ big) (h3 : Cond.selects C y y ∈ big) (h4 : Cond.initialized C ∈ big) (hw : ∀ w ∈ ws, w ∈ big) (hg : ws.all goodWord = true) : GoodIn big (wsV own idx C y ws) := by
  refine goodIn_sub (fun w h => ?_) ?_
  · rcases List.mem_append.mp h with h | h
    · simp only [List.mem_cons, List.not_mem_nil, or_false] at h
      rcases h with rfl | rfl | rfl | rfl
      · exact h1
      · exact h2
      · exact h3
      · exact h4
    · exact hw w h
  · exact p1_ga rfl hg
theorem p1_gS {big ws : List Cond} {own : String} {idx : Nat} {y : MethodName} (h1 : Cond.methodLink own idx y ∈ big) (h2 : Cond.static y ∈ big) (h3 : Cond.initialized y.cls ∈ big) (hw : ∀ w ∈ ws, w ∈ big) (hg : ws.all goodWord = true) : GoodIn big (va_wsS own idx y ws) := by
  refine goodIn_sub (fun w h => ?_) ?_
  · rcases List.mem_append.mp h with h | h
    · simp only [List.mem_cons, List.not_mem_nil, or_false] at h
      rcases h with rfl | rfl | rfl
      · exact h1
      · exact h2
      · exact h3
    · exact hw w h
  · exact p1_ga rfl hg
theorem p1_m1 {n : Int32} (h : ¬ n < 0) : -1 < n := by
  rw [Int32.lt_iff_toInt_lt] at h ⊢
  have e0 : (0 : Int32).toInt = 0 := by decide
  have e1 : (-1 : Int32).toInt = -1 := by decide
  omega
theorem p1_012 {n : Int32} (h : 0 ≤ n ∧ n ≤ 2) : n = 0 ∨ n = 1 ∨ n = 2 := by
  obtain ⟨h1, h2⟩ := h
  rw [Int32.le_iff_toInt_le] at h1 h2
  have e0 : (0 : Int32).toInt = 0 := by decide
  have e1 : (1 : Int32).toInt = 1 := by decide
  have e2 : (2 : Int32).toInt = 2 := by decide
  have : n.toInt = 0 ∨ n.toInt = 1 ∨ n.toInt = 2 := by omega
  rcases this with q | q | q
  · exact Or.inl (Int32.toInt_inj.mp (by rw [q, e0]))
  · exact Or.inr (Or.inl (Int32.toInt_inj.mp (by rw [q, e1])))
  · exact Or.inr (Or.inr (Int32.toInt_inj.mp (by rw [q, e2])))
theorem p1_sw9 (x : Int32) : x = 0 ∨ x = 1 ∨ x = 2 ∨ x = 3 ∨ x = 4 ∨ x = 5 ∨ x = 6 ∨ x = 7 ∨ x = 8 ∨ x = 9 ∨ (x.toInt < 0 ∨ 9 < x.toInt) := by
  by_cases h : x.toInt < 0 ∨ 9 < x.toInt
  · simp [h]
  · have : x.toInt = 0 ∨ x.toInt = 1 ∨ x.toInt = 2 ∨ x.toInt = 3 ∨ x.toInt = 4 ∨ x.toInt = 5 ∨ x.toInt = 6 ∨ x.toInt = 7 ∨ x.toInt = 8 ∨ x.toInt = 9 := by omega
    have k : ∀ c : Int32, x.toInt = c.toInt → x = c := fun c q => Int32.toInt_inj.mp q
    rcases this with q | q | q | q | q | q | q | q | q | q
    · have := k 0 (by rw [q]; decide); simp [this]
    · have := k 1 (by rw [q]; decide); simp [this]
    · have := k 2 (by rw [q]; decide); simp [this]
    · have := k 3 (by rw [q]; decide); simp [this]
    · have := k 4 (by rw [q]; decide); simp [this]
    · have := k 5 (by rw [q]; decide); simp [this]
    · have := k 6 (by rw [q]; decide); simp [this]
    · have := k 7 (by rw [q]; decide); simp [this]
    · have := k 8 (by rw [q]; decide); simp [this]
    · have := k 9 (by rw [q]; decide); simp [this]
def p1_later (b : Int32) : Int32 := if 0 ≤ b ∧ b ≤ 1000 then 0 + b else -1
def p1_end (n : Int32) : Int32 := if n < 0 ∨ 0 < n then -1 else n
theorem p1_end_no {n : Int32} (h : ¬ n < 0) (h2 : n ≤ 0) : n = p1_end n := (if_neg (fun z => z.elim h (fun z => absurd z (Int32.not_lt.mpr h2)))).symm
theorem p1_end_lt {n : Int32} (h : n < 0) : -1 = p1_end n := (if_pos (Or.inl h)).symm
theorem p1_end_gt {n : Int32} (h : ¬ n ≤ 0) : -1 = p1_end n := (if_pos (Or.inr (Int32.not_le.mp h))).symm
def p1_fault (w : Int32) : Int32 := if w = 0 then 0 else -1
def p1_about (w : Int32) : Int32 := if w = 8 then 1 else if 0 ≤ w.toInt ∧ w.toInt ≤ 9 then 0 else -1
theorem p1_about_out {w : Int32} (h : w.toInt < 0 ∨ 9 < w.toInt) : -1 = p1_about w := by
  have h8 : ¬ w = 8 := by
    intro q
    subst q
    have e8 : (8 : Int32).toInt = 8 := by decide
    omega
  rw [p1_about, if_neg h8, if_neg (by omega)]
theorem p1_late {b v : Int32} (h : 0 ≤ b ∧ b ≤ 1000) (e : v = 0 + b) : v ≤ 100000 := by
  obtain ⟨h1, h2⟩ := h
  have : v = b := by rw [e]; exact Int32.zero_add b
  subst this
  rw [Int32.le_iff_toInt_le] at h2 ⊢
  have e1 : (1000 : Int32).toInt = 1000 := by decide
  have e2 : (100000 : Int32).toInt = 100000 := by decide
  omega
theorem p1_us {f : Nat → Int32} {k : Nat} {x : Int32} : upd f k x k = x := pk_us
theorem p1_un {f : Nat → Int32} {k j : Nat} {x y : Int32} (h : j ≠ k) (e : f j = y) : upd f k x j = y := by rw [pk_un h]; exact e

theorem ik_X0 : ∀ w ∈ wsX00, w ∈ lw_tbl := p1_all [375, 377, 379, 381, 383, 385, 387, 389, 391, 393, 395, 397, 399, 401, 403] (by decide +kernel)
theorem gk_X0 : wsX00.all goodWord = true := by decide +kernel
theorem ik_X1 : ∀ w ∈ wsX10, w ∈ lw_tbl := p1_all [492, 494, 496] (by decide +kernel)
theorem gk_X1 : wsX10.all goodWord = true := by decide +kernel
theorem ik_X2 : ∀ w ∈ wsX20, w ∈ lw_tbl := p1_all [458, 460, 462, 464, 466, 468, 470, 472] (by decide +kernel)
theorem gk_X2 : wsX20.all goodWord = true := by decide +kernel
theorem ik_X3 : ∀ w ∈ wsX30, w ∈ lw_tbl := p1_all [158, 160, 162, 164, 166, 168] (by decide +kernel)
theorem gk_X3 : wsX30.all goodWord = true := by decide +kernel
theorem ik_X4 : ∀ w ∈ wsX40, w ∈ lw_tbl := p1_all [321, 323, 325, 327, 329, 331, 333, 335, 337, 339, 341] (by decide +kernel)
theorem gk_X4 : wsX40.all goodWord = true := by decide +kernel
theorem ik_X5 : ∀ w ∈ wsX50, w ∈ lw_tbl := p1_all [222, 224, 226, 228, 230, 232, 234, 236, 238, 240, 242, 244, 246, 248, 250] (by decide +kernel)
theorem gk_X5 : wsX50.all goodWord = true := by decide +kernel
theorem ik_X7 : ∀ w ∈ wsX70, w ∈ lw_tbl := p1_all [424, 426, 428, 430, 432, 434] (by decide +kernel)
theorem gk_X7 : wsX70.all goodWord = true := by decide +kernel
theorem ik_X8 : ∀ w ∈ wsX80, w ∈ lw_tbl := p1_all [513, 515, 517, 519, 521, 523, 525, 527, 529, 531, 533, 535, 537, 539] (by decide +kernel)
theorem gk_X8 : wsX80.all goodWord = true := by decide +kernel
theorem ik_X9 : ∀ w ∈ wsX90, w ∈ lw_tbl := p1_all [1118, 1120, 1122, 1124, 1126, 1128, 1130, 1132, 1134, 1136, 1138, 1140, 1142, 1144, 1146, 1148, 1150, 1152, 1154, 1156, 1158, 1160, 1162, 1164, 1166, 1168, 1170, 1172, 1174, 1176, 1178, 1180, 1182, 1184, 1186, 1188, 1190, 1192, 1194, 1196, 1198, 1200, 1202, 1204, 1206, 1208, 1210, 1212, 1214, 1216, 1218, 1220, 1222, 1224, 1226, 1228, 1230, 1232, 1234, 1236, 1238, 1240, 1242, 1244, 1246, 1248, 1250, 1252, 1254, 1256, 1258, 1260, 1262, 1264, 1266, 1268, 1270, 1272, 1274, 1276, 1278] (by decide +kernel)
theorem gk_X9 : wsX90.all goodWord = true := by decide +kernel
