/-- an index that a program decides -/
theorem p1_in {i : Int32} {n : Nat} (h : ¬ (i < 0 ∨ n ≤ i.toNatClampNeg)) : vp_in i n := h
theorem p1_sa {fs : List Value} {k n : Nat} {v : Value} (h : fs.length = n) (hk : k < n) : (fs.set k v)[k]? = some v := by
  rw [List.getElem?_set_self (by omega)]
theorem p1_sn {fs : List Value} {k j : Nat} {v w : Value} (h : k ≠ j) (e : fs[j]? = some w) : (fs.set k v)[j]? = some w := by
  rw [List.getElem?_set_ne h]; exact e
theorem p1_all {ws : List Cond} (ps : List Nat) (h : ws = ps.filterMap (fun i => lw_tbl[i]?)) : ∀ w ∈ ws, w ∈ lw_tbl := by
  intro w hw
  rw [h] at hw
  obtain ⟨i, -, hi⟩ := List.mem_filterMap.mp hw
  exact List.mem_of_getElem? hi
theorem p1_i0 : ∀ w ∈ ([] : List Cond), w ∈ lw_tbl := fun _ h => absurd h List.not_mem_nil
theorem p1_ia {a b : List Cond} (ha : ∀ w ∈ a, w ∈ lw_tbl) (hb : ∀ w ∈ b, w ∈ lw_tbl) : ∀ w ∈ a ++ b, w ∈ lw_tbl := fun w h => (List.mem_append.mp h).elim (ha w) (hb w)
theorem p1_g0 : ([] : List Cond).all goodWord = true := rfl
theorem p1_ga {a b : List Cond} (ha : a.all goodWord = true) (hb : b.all goodWord = true) : (a ++ b).all goodWord = true := by rw [List.all_append, ha, hb]; rfl
theorem p1_gV {big ws : List Cond} {own C : String} {idx : Nat} {y : MethodName} (h1 : Cond.methodLink own idx y ∈ big) (h2 : Cond.instanceMethod y ∈ big) (h3 : Cond.selects C y y ∈ big) (h4 : Cond.initialized C ∈ big) (hw : ∀ w ∈ ws, w ∈ big) (hg : ws.all goodWord = true) : GoodIn big (wsV own idx C y ws) := by
  refine goodIn_sub (fun w h => ?_) ?_
  · rcases List.mem_append.mp h with h | h
    · simp only [List.mem_cons, List.not_mem_nil, or_false] at h
      rcases h with rfl | rfl | rfl | rfl
      · exact h1
      · exact h2
      · exact h3
      · exact h4
    · exact hw w h
  · exact p1_ga rfl hg
theorem p1_gS {big ws : List Cond} {own : String} {idx : Nat} {y : MethodName} (h1 : Cond.methodLink own idx y ∈ big) (h2 : Cond.static y ∈ big) (h3 : Cond.initialized y.cls ∈ big) (hw : ∀ w ∈ ws, w ∈ big) (hg : ws.all goodWord = true) : GoodIn big (va_wsS own idx y ws) := by
  refine goodIn_sub (fun w h => ?_) ?_
  · rcases List.mem_append.mp h with h | h
    · simp only [List.mem_cons, List.not_mem_nil, or_false] at h
      rcases h with rfl | rfl | rfl
      · exact h1
      · exact h2
      · exact h3
    · exact hw w h
  · exact p1_ga rfl hg
theorem p1_us {f : Nat → Int32} {k : Nat} {x : Int32} : upd f k x k = x := pk_us
theorem p1_un {f : Nat → Int32} {k j : Nat} {x y : Int32} (h : j ≠ k) (e : f j = y) : upd f k x j = y := by rw [pk_un h]; exact e

theorem ik_X0 : ∀ w ∈ wsX00, w ∈ lw_tbl := p1_all [375, 377, 379, 381, 383, 385, 387, 389, 391, 393, 395, 397, 399, 401, 403] (by decide +kernel)
theorem gk_X0 : wsX00.all goodWord = true := by decide +kernel
theorem ik_X1 : ∀ w ∈ wsX10, w ∈ lw_tbl := p1_all [492, 494, 496] (by decide +kernel)
theorem gk_X1 : wsX10.all goodWord = true := by decide +kernel
theorem ik_X2 : ∀ w ∈ wsX20, w ∈ lw_tbl := p1_all [458, 460, 462, 464, 466, 468, 470, 472] (by decide +kernel)
theorem gk_X2 : wsX20.all goodWord = true := by decide +kernel
theorem ik_X3 : ∀ w ∈ wsX30, w ∈ lw_tbl := p1_all [158, 160, 162, 164, 166, 168] (by decide +kernel)
theorem gk_X3 : wsX30.all goodWord = true := by decide +kernel
theorem ik_X4 : ∀ w ∈ wsX40, w ∈ lw_tbl := p1_all [321, 323, 325, 327, 329, 331, 333, 335, 337, 339, 341] (by decide +kernel)
theorem gk_X4 : wsX40.all goodWord = true := by decide +kernel
theorem ik_X5 : ∀ w ∈ wsX50, w ∈ lw_tbl := p1_all [222, 224, 226, 228, 230, 232, 234, 236, 238, 240, 242, 244, 246, 248, 250] (by decide +kernel)
theorem gk_X5 : wsX50.all goodWord = true := by decide +kernel
theorem ik_X7 : ∀ w ∈ wsX70, w ∈ lw_tbl := p1_all [424, 426, 428, 430, 432, 434] (by decide +kernel)
theorem gk_X7 : wsX70.all goodWord = true := by decide +kernel
theorem ik_X8 : ∀ w ∈ wsX80, w ∈ lw_tbl := p1_all [513, 515, 517, 519, 521, 523, 525, 527, 529, 531, 533, 535, 537, 539] (by decide +kernel)
theorem gk_X8 : wsX80.all goodWord = true := by decide +kernel
theorem ik_X9 : ∀ w ∈ wsX90, w ∈ lw_tbl := p1_all [1118, 1120, 1122, 1124, 1126, 1128, 1130, 1132, 1134, 1136, 1138, 1140, 1142, 1144, 1146, 1148, 1150, 1152, 1154, 1156, 1158, 1160, 1162, 1164, 1166, 1168, 1170, 1172, 1174, 1176, 1178, 1180, 1182, 1184, 1186, 1188, 1190, 1192, 1194, 1196, 1198, 1200, 1202, 1204, 1206, 1208, 1210, 1212, 1214, 1216, 1218, 1220, 1222, 1224, 1226, 1228, 1230, 1232, 1234, 1236, 1238, 1240, 1242, 1244, 1246, 1248, 1250, 1252, 1254, 1256, 1258, 1260, 1262, 1264, 1266, 1268, 1270, 1272, 1274, 1276, 1278] (by decide +kernel)
theorem gk_X9 : wsX90.all goodWord = true := by decide +kernel
