def zo_c_clearBank0 : List Cond := [.code yX9_clearBank cX9_clearBank 1 none, .fieldLink RX9 20 "BowWalkModel" "knots" "[I", .fieldLink RX9 279 "BowWalkModel" "rb" "I", .fieldLink RX9 24 "BowWalkModel" "cords" "[I", .fieldLink RX9 27 "BowWalkModel" "walks" "[I", .fieldLink RX9 30 "BowWalkModel" "laws" "[I", .fieldLink RX9 33 "BowWalkModel" "wants" "[I", .fieldLink RX9 36 "BowWalkModel" "tight" "[I", .fieldLink RX9 39 "BowWalkModel" "luck" "[I", .fieldLink RX9 45 "BowWalkModel" "isTight" "[Z", .fieldLink RX9 49 "BowWalkModel" "isLuck" "[Z", .fieldLink RX9 282 "BowWalkModel" "codes" "I", .fieldLink RX9 285 "BowWalkModel" "units" "I"]
def zw_c_clearBank0 : List Cond := zo_c_clearBank0 ++ (wsX90 ++ [])
theorem gz_c_clearBank0 : zw_c_clearBank0.all goodWord = true := p1_ga (by decide +kernel) (p1_ga gk_X9 p1_g0)
theorem iz_c_clearBank0 : ∀ w ∈ zw_c_clearBank0, w ∈ lw_tbl := p1_ia (p1_all [1036, 1048, 1081, 1049, 1050, 1051, 1052, 1053, 1054, 1056, 1057, 1082, 1083] (by decide +kernel)) (p1_ia ik_X9 p1_i0)
set_option maxHeartbeats 4000000 in
set_option maxRecDepth 100000 in
theorem c_clearBank0 (l : Launch) (dC : Nat → ClassId) (dI : Nat → Nat → Nat) (sz : Nat) (mo : Nat) (ms : List Value) (tp : Nat) (un : Nat) (bm : Nat) (kn : Nat) (co : Nat) (wa : Nat) (la : Nat) (wt : Nat) (ti : Nat) (lu : Nat) (it : Nat) (il : Nat) (cK : ClassId) (cC : ClassId) (cW : ClassId) (cL : ClassId) (cT : ClassId) (cI : ClassId) (cU : ClassId) (cY : ClassId) (cZ : ClassId) (f_ms_2 : ms[2]? = some (.int 0)) (f_ms_3 : ms[3]? = some (.int 0)) (f_ms_4 : ms[4]? = some (.int 0)) (f_ms_43 : ms[43]? = some (.int 0)) (f_ms_60 : ms[60]? = some (.int 0)) (f_ms_75 : ms[75]? = some (.int 0)) (f_ms_7 : ms[7]? = some (.int 0)) (f_ms_76 : ms[76]? = some (.int 0)) (f_ms_0 : ms[0]? = some (.ref tp)) (f_ms_5 : ms[5]? = some (.int (-1))) (f_ms_18 : ms[18]? = some (.ref un)) (f_ms_65 : ms[65]? = some (.int 1)) (f_ms_78 : ms[78]? = some (.ref bm)) (f_ms_11 : ms[11]? = some (.ref kn)) (f_ms_12 : ms[12]? = some (.ref co)) (f_ms_13 : ms[13]? = some (.ref wa)) (f_ms_14 : ms[14]? = some (.ref la)) (f_ms_15 : ms[15]? = some (.ref wt)) (f_ms_16 : ms[16]? = some (.ref ti)) (f_ms_17 : ms[17]? = some (.ref lu)) (f_ms_19 : ms[19]? = some (.ref it)) (f_ms_20 : ms[20]? = some (.ref il)) (f_ms_44 : ms[44]? = some (.int 0)) (l_ms : ms.length = 81) : Met l yX9_clearBank zw_c_clearBank0 ({ frames := 0, cells := 0, slots := 0, locals := 0 }) (va_Pc [.ref mo] (fun U => U.heap.size = sz ∧ va_P (dC, dI) vwCl [(mo, .inr (8, ms)), (kn, .inl (cK, 2, .inl (fun _ => 0))), (co, .inl (cC, 2, .inl (fun _ => 0))), (wa, .inl (cW, 2, .inl (fun _ => 0))), (la, .inl (cL, 2, .inl (fun _ => 0))), (wt, .inl (cT, 2, .inl (fun _ => 0))), (ti, .inl (cI, 2, .inl (fun _ => 0))), (lu, .inl (cU, 2, .inl (fun _ => 0))), (it, .inl (cY, 2, .inl (fun _ => 0))), (il, .inl (cZ, 2, .inl (fun _ => 0)))] U.heap ∧ va_K (dC, dI) vwCl [(cK, .int), (cC, .int), (cW, .int), (cL, .int), (cT, .int), (cI, .int), (cU, .int), (cY, .boolean), (cZ, .boolean)] U ∧ va_D (fun _ => True) [(mo, .inr (8, ms)), (kn, .inl (cK, 2, .inl (fun _ => 0))), (co, .inl (cC, 2, .inl (fun _ => 0))), (wa, .inl (cW, 2, .inl (fun _ => 0))), (la, .inl (cL, 2, .inl (fun _ => 0))), (wt, .inl (cT, 2, .inl (fun _ => 0))), (ti, .inl (cI, 2, .inl (fun _ => 0))), (lu, .inl (cU, 2, .inl (fun _ => 0))), (it, .inl (cY, 2, .inl (fun _ => 0))), (il, .inl (cZ, 2, .inl (fun _ => 0)))])) (va_Qv (fun (_ : Unit) => True) (fun _ t => ∃ (mt : List Value) (kfo : Nat → Int32) (cfo : Nat → Int32) (wfo : Nat → Int32) (lfo : Nat → Int32) (tfo : Nat → Int32) (if0o : Nat → Int32) (ufo : Nat → Int32) (yfo : Nat → Int32) (zfo : Nat → Int32), mt.length = 81 ∧ mt[2]? = some (.int 0) ∧ mt[3]? = some (.int 0) ∧ mt[4]? = some (.int 0) ∧ mt[43]? = some (.int 0) ∧ mt[60]? = some (.int 0) ∧ mt[75]? = some (.int 0) ∧ mt[7]? = some (.int 0) ∧ mt[76]? = some (.int 0) ∧ mt[0]? = some (.ref tp) ∧ mt[5]? = some (.int (-1)) ∧ mt[18]? = some (.ref un) ∧ mt[65]? = some (.int 1) ∧ mt[78]? = some (.ref bm) ∧ mt[11]? = some (.ref kn) ∧ mt[12]? = some (.ref co) ∧ mt[13]? = some (.ref wa) ∧ mt[14]? = some (.ref la) ∧ mt[15]? = some (.ref wt) ∧ mt[16]? = some (.ref ti) ∧ mt[17]? = some (.ref lu) ∧ mt[19]? = some (.ref it) ∧ mt[20]? = some (.ref il) ∧ mt[44]? = some (.int 0) ∧ mt[46]? = some (.int 0) ∧ kfo 0 = 0 ∧ cfo 0 = 0 ∧ wfo 0 = 0 ∧ lfo 0 = 0 ∧ tfo 0 = 0 ∧ va_P (dC, dI) vwCl [(mo, .inr (8, mt)), (kn, .inl (cK, 2, .inl kfo)), (co, .inl (cC, 2, .inl cfo)), (wa, .inl (cW, 2, .inl wfo)), (la, .inl (cL, 2, .inl lfo)), (wt, .inl (cT, 2, .inl tfo)), (ti, .inl (cI, 2, .inl if0o)), (lu, .inl (cU, 2, .inl ufo)), (it, .inl (cY, 2, .inl yfo)), (il, .inl (cZ, 2, .inl zfo))] t.heap ∧ va_K (dC, dI) vwCl [] t ∧ va_D (va_A [(mo, .inr (8, ms)), (kn, .inl (cK, 2, .inl (fun _ => 0))), (co, .inl (cC, 2, .inl (fun _ => 0))), (wa, .inl (cW, 2, .inl (fun _ => 0))), (la, .inl (cL, 2, .inl (fun _ => 0))), (wt, .inl (cT, 2, .inl (fun _ => 0))), (ti, .inl (cI, 2, .inl (fun _ => 0))), (lu, .inl (cU, 2, .inl (fun _ => 0))), (it, .inl (cY, 2, .inl (fun _ => 0))), (il, .inl (cZ, 2, .inl (fun _ => 0)))] sz) [(mo, .inr (8, mt)), (kn, .inl (cK, 2, .inl kfo)), (co, .inl (cC, 2, .inl cfo)), (wa, .inl (cW, 2, .inl wfo)), (la, .inl (cL, 2, .inl lfo)), (wt, .inl (cT, 2, .inl tfo)), (ti, .inl (cI, 2, .inl if0o)), (lu, .inl (cU, 2, .inl ufo)), (it, .inl (cY, 2, .inl yfo)), (il, .inl (cZ, 2, .inl zfo))]) (va_A [(mo, .inr (8, ms)), (kn, .inl (cK, 2, .inl (fun _ => 0))), (co, .inl (cC, 2, .inl (fun _ => 0))), (wa, .inl (cW, 2, .inl (fun _ => 0))), (la, .inl (cL, 2, .inl (fun _ => 0))), (wt, .inl (cT, 2, .inl (fun _ => 0))), (ti, .inl (cI, 2, .inl (fun _ => 0))), (lu, .inl (cU, 2, .inl (fun _ => 0))), (it, .inl (cY, 2, .inl (fun _ => 0))), (il, .inl (cZ, 2, .inl (fun _ => 0)))] sz)) 0 0 (va_A [(mo, .inr (8, ms)), (kn, .inl (cK, 2, .inl (fun _ => 0))), (co, .inl (cC, 2, .inl (fun _ => 0))), (wa, .inl (cW, 2, .inl (fun _ => 0))), (la, .inl (cL, 2, .inl (fun _ => 0))), (wt, .inl (cT, 2, .inl (fun _ => 0))), (ti, .inl (cI, 2, .inl (fun _ => 0))), (lu, .inl (cU, 2, .inl (fun _ => 0))), (it, .inl (cY, 2, .inl (fun _ => 0))), (il, .inl (cZ, 2, .inl (fun _ => 0)))] sz) := by
  refine Met.ofW (cc := cX9_clearBank) (maxL := 1) (ret := none) (by decide) rfl ?_
  intro p e s m args below meth c s₁ B hml hv
  obtain ⟨rfl, hsz, hP, hK, hD0⟩ := hv
  have hx := B.exec
  have hb := B.bytes
  have hr := B.returns
  have hts := atoms_spec (ws := zw_c_clearBank0) B.pre
  have hown : s.vm.findClass RX9 = some m.cls := findClass_of_methodNamed B.named
  have hlocks := B.notSynchronized
  subst hsz
  have hD := hD0.self (sz := s.heap.size)
  generalize hAe : va_A [(mo, .inr (8, ms)), (kn, .inl (cK, 2, .inl (fun _ => 0))), (co, .inl (cC, 2, .inl (fun _ => 0))), (wa, .inl (cW, 2, .inl (fun _ => 0))), (la, .inl (cL, 2, .inl (fun _ => 0))), (wt, .inl (cT, 2, .inl (fun _ => 0))), (ti, .inl (cI, 2, .inl (fun _ => 0))), (lu, .inl (cU, 2, .inl (fun _ => 0))), (it, .inl (cY, 2, .inl (fun _ => 0))), (il, .inl (cZ, 2, .inl (fun _ => 0)))] s.heap.size = A at hD ⊢
  have hA : ∀ q : Nat, s.heap.size ≤ q → A q := fun q h => by rw [← hAe]; exact Or.inr h
  have hS : va_S A s.heap s.heap [] := va_S.rf
  have hP : va_P (dC, dI) vwCl [(mo, .inr (8, ms)), (kn, .inl (cK, 2, .inl (fun _ => 0))), (co, .inl (cC, 2, .inl (fun _ => 0))), (wa, .inl (cW, 2, .inl (fun _ => 0))), (la, .inl (cL, 2, .inl (fun _ => 0))), (wt, .inl (cT, 2, .inl (fun _ => 0))), (ti, .inl (cI, 2, .inl (fun _ => 0))), (lu, .inl (cU, 2, .inl (fun _ => 0))), (it, .inl (cY, 2, .inl (fun _ => 0))), (il, .inl (cZ, 2, .inl (fun _ => 0)))] s.heap := hP
  have m_0 : (.fieldLink RX9 20 "BowWalkModel" "knots" "[I" : Cond) ∈ zw_c_clearBank0 := List.mem_append_left _ (List.mem_of_getElem? (i := 1) rfl)
  have k_0 := hts _ m_0
  have m_1 : (.fieldLink RX9 279 "BowWalkModel" "rb" "I" : Cond) ∈ zw_c_clearBank0 := List.mem_append_left _ (List.mem_of_getElem? (i := 2) rfl)
  have k_1 := hts _ m_1
  have m_2 : (.fieldLink RX9 24 "BowWalkModel" "cords" "[I" : Cond) ∈ zw_c_clearBank0 := List.mem_append_left _ (List.mem_of_getElem? (i := 3) rfl)
  have k_2 := hts _ m_2
  have m_3 : (.fieldLink RX9 27 "BowWalkModel" "walks" "[I" : Cond) ∈ zw_c_clearBank0 := List.mem_append_left _ (List.mem_of_getElem? (i := 4) rfl)
  have k_3 := hts _ m_3
  have m_4 : (.fieldLink RX9 30 "BowWalkModel" "laws" "[I" : Cond) ∈ zw_c_clearBank0 := List.mem_append_left _ (List.mem_of_getElem? (i := 5) rfl)
  have k_4 := hts _ m_4
  have m_5 : (.fieldLink RX9 33 "BowWalkModel" "wants" "[I" : Cond) ∈ zw_c_clearBank0 := List.mem_append_left _ (List.mem_of_getElem? (i := 6) rfl)
  have k_5 := hts _ m_5
  have m_6 : (.fieldLink RX9 36 "BowWalkModel" "tight" "[I" : Cond) ∈ zw_c_clearBank0 := List.mem_append_left _ (List.mem_of_getElem? (i := 7) rfl)
  have k_6 := hts _ m_6
  have m_7 : (.fieldLink RX9 39 "BowWalkModel" "luck" "[I" : Cond) ∈ zw_c_clearBank0 := List.mem_append_left _ (List.mem_of_getElem? (i := 8) rfl)
  have k_7 := hts _ m_7
  have m_8 : (.fieldLink RX9 45 "BowWalkModel" "isTight" "[Z" : Cond) ∈ zw_c_clearBank0 := List.mem_append_left _ (List.mem_of_getElem? (i := 9) rfl)
  have k_8 := hts _ m_8
  have m_9 : (.fieldLink RX9 49 "BowWalkModel" "isLuck" "[Z" : Cond) ∈ zw_c_clearBank0 := List.mem_append_left _ (List.mem_of_getElem? (i := 10) rfl)
  have k_9 := hts _ m_9
  have m_10 : (.fieldLink RX9 282 "BowWalkModel" "codes" "I" : Cond) ∈ zw_c_clearBank0 := List.mem_append_left _ (List.mem_of_getElem? (i := 11) rfl)
  have k_10 := hts _ m_10
  have m_11 : (.fieldLink RX9 285 "BowWalkModel" "units" "I" : Cond) ∈ zw_c_clearBank0 := List.mem_append_left _ (List.mem_of_getElem? (i := 12) rfl)
  have k_11 := hts _ m_11
  have i_X9 : ∀ w ∈ u_ws RX9 TX9 81, w ∈ zw_c_clearBank0 := fun w h => List.mem_append_right _ (List.mem_append_left _ h)
  have hl := lv_entry ([.ref mo]) (n := 1) (Nat.le_of_ble_eq_true rfl)
  rw [lg_entry_eq]
  generalize (lg_sl ([.ref mo]) ++ List.replicate (1 - (lg_sl ([.ref mo])).length) Slot.unset).toArray = ls at hl ⊢
  have hl : lv_has ls 1 [(0, .ref mo)] := hl
  refine lv_aload_n hx hb dX9_clearBank_0 rfl (lv_at hl 0 rfl) ?_
  refine va_get (D := (dC, dI)) (ci := 8) (v := .ref kn) (C := RX9) (T := TX9) (N := 81) hx hb hts i_X9 hown hK hP 0 rfl rfl 11 (by decide) k_0 (fun _ h9 => h9) f_ms_11 dX9_clearBank_1 ?_
  refine lv_aload_n hx hb dX9_clearBank_4 rfl (lv_at hl 0 rfl) ?_
  refine va_get (D := (dC, dI)) (ci := 8) (v := .int 0) (C := RX9) (T := TX9) (N := 81) hx hb hts i_X9 hown hK hP 0 rfl rfl 44 (by decide) k_1 (fun _ h9 => h9) f_ms_44 dX9_clearBank_5 ?_
  refine lv_iconst (v := 0) hx hb dX9_clearBank_8 (by decide) ?_
  refine va_iast hx hb hK hP hD hS 1 0 rfl rfl (p1_in (i := 0) (n := 2) (by decide)) dX9_clearBank_9 (fun H locs hP hD hS => ?_)
  have hP : va_P (dC, dI) vwCl [(mo, .inr (8, ms)), (kn, .inl (cK, 2, .inl (upd (fun _ => 0) (0 : Int32).toNatClampNeg 0))), (co, .inl (cC, 2, .inl (fun _ => 0))), (wa, .inl (cW, 2, .inl (fun _ => 0))), (la, .inl (cL, 2, .inl (fun _ => 0))), (wt, .inl (cT, 2, .inl (fun _ => 0))), (ti, .inl (cI, 2, .inl (fun _ => 0))), (lu, .inl (cU, 2, .inl (fun _ => 0))), (it, .inl (cY, 2, .inl (fun _ => 0))), (il, .inl (cZ, 2, .inl (fun _ => 0)))] H := hP
  have hD : va_D A [(mo, .inr (8, ms)), (kn, .inl (cK, 2, .inl (upd (fun _ => 0) (0 : Int32).toNatClampNeg 0))), (co, .inl (cC, 2, .inl (fun _ => 0))), (wa, .inl (cW, 2, .inl (fun _ => 0))), (la, .inl (cL, 2, .inl (fun _ => 0))), (wt, .inl (cT, 2, .inl (fun _ => 0))), (ti, .inl (cI, 2, .inl (fun _ => 0))), (lu, .inl (cU, 2, .inl (fun _ => 0))), (it, .inl (cY, 2, .inl (fun _ => 0))), (il, .inl (cZ, 2, .inl (fun _ => 0)))] := hD
  generalize eg_1 : (upd (fun _ => 0) (0 : Int32).toNatClampNeg 0) = g_1 at hP hD
  have hg_1_0 : g_1 0 = 0 := by rw [← eg_1]; exact p1_us
  refine lv_aload_n hx hb dX9_clearBank_10 rfl (lv_at hl 0 rfl) ?_
  refine va_get (D := (dC, dI)) (ci := 8) (v := .ref co) (C := RX9) (T := TX9) (N := 81) hx hb hts i_X9 hown hK hP 0 rfl rfl 12 (by decide) k_2 (fun _ h9 => h9) f_ms_12 dX9_clearBank_11 ?_
  refine lv_aload_n hx hb dX9_clearBank_14 rfl (lv_at hl 0 rfl) ?_
  refine va_get (D := (dC, dI)) (ci := 8) (v := .int 0) (C := RX9) (T := TX9) (N := 81) hx hb hts i_X9 hown hK hP 0 rfl rfl 44 (by decide) k_1 (fun _ h9 => h9) f_ms_44 dX9_clearBank_15 ?_
  refine lv_iconst (v := 0) hx hb dX9_clearBank_18 (by decide) ?_
  refine va_iast hx hb hK hP hD hS 2 1 rfl rfl (p1_in (i := 0) (n := 2) (by decide)) dX9_clearBank_19 (fun H locs hP hD hS => ?_)
  have hP : va_P (dC, dI) vwCl [(mo, .inr (8, ms)), (kn, .inl (cK, 2, .inl g_1)), (co, .inl (cC, 2, .inl (upd (fun _ => 0) (0 : Int32).toNatClampNeg 0))), (wa, .inl (cW, 2, .inl (fun _ => 0))), (la, .inl (cL, 2, .inl (fun _ => 0))), (wt, .inl (cT, 2, .inl (fun _ => 0))), (ti, .inl (cI, 2, .inl (fun _ => 0))), (lu, .inl (cU, 2, .inl (fun _ => 0))), (it, .inl (cY, 2, .inl (fun _ => 0))), (il, .inl (cZ, 2, .inl (fun _ => 0)))] H := hP
  have hD : va_D A [(mo, .inr (8, ms)), (kn, .inl (cK, 2, .inl g_1)), (co, .inl (cC, 2, .inl (upd (fun _ => 0) (0 : Int32).toNatClampNeg 0))), (wa, .inl (cW, 2, .inl (fun _ => 0))), (la, .inl (cL, 2, .inl (fun _ => 0))), (wt, .inl (cT, 2, .inl (fun _ => 0))), (ti, .inl (cI, 2, .inl (fun _ => 0))), (lu, .inl (cU, 2, .inl (fun _ => 0))), (it, .inl (cY, 2, .inl (fun _ => 0))), (il, .inl (cZ, 2, .inl (fun _ => 0)))] := hD
  generalize eg_2 : (upd (fun _ => 0) (0 : Int32).toNatClampNeg 0) = g_2 at hP hD
  have hg_2_0 : g_2 0 = 0 := by rw [← eg_2]; exact p1_us
  refine lv_aload_n hx hb dX9_clearBank_20 rfl (lv_at hl 0 rfl) ?_
  refine va_get (D := (dC, dI)) (ci := 8) (v := .ref wa) (C := RX9) (T := TX9) (N := 81) hx hb hts i_X9 hown hK hP 0 rfl rfl 13 (by decide) k_3 (fun _ h9 => h9) f_ms_13 dX9_clearBank_21 ?_
  refine lv_aload_n hx hb dX9_clearBank_24 rfl (lv_at hl 0 rfl) ?_
  refine va_get (D := (dC, dI)) (ci := 8) (v := .int 0) (C := RX9) (T := TX9) (N := 81) hx hb hts i_X9 hown hK hP 0 rfl rfl 44 (by decide) k_1 (fun _ h9 => h9) f_ms_44 dX9_clearBank_25 ?_
  refine lv_iconst (v := 0) hx hb dX9_clearBank_28 (by decide) ?_
  refine va_iast hx hb hK hP hD hS 3 2 rfl rfl (p1_in (i := 0) (n := 2) (by decide)) dX9_clearBank_29 (fun H locs hP hD hS => ?_)
  have hP : va_P (dC, dI) vwCl [(mo, .inr (8, ms)), (kn, .inl (cK, 2, .inl g_1)), (co, .inl (cC, 2, .inl g_2)), (wa, .inl (cW, 2, .inl (upd (fun _ => 0) (0 : Int32).toNatClampNeg 0))), (la, .inl (cL, 2, .inl (fun _ => 0))), (wt, .inl (cT, 2, .inl (fun _ => 0))), (ti, .inl (cI, 2, .inl (fun _ => 0))), (lu, .inl (cU, 2, .inl (fun _ => 0))), (it, .inl (cY, 2, .inl (fun _ => 0))), (il, .inl (cZ, 2, .inl (fun _ => 0)))] H := hP
  have hD : va_D A [(mo, .inr (8, ms)), (kn, .inl (cK, 2, .inl g_1)), (co, .inl (cC, 2, .inl g_2)), (wa, .inl (cW, 2, .inl (upd (fun _ => 0) (0 : Int32).toNatClampNeg 0))), (la, .inl (cL, 2, .inl (fun _ => 0))), (wt, .inl (cT, 2, .inl (fun _ => 0))), (ti, .inl (cI, 2, .inl (fun _ => 0))), (lu, .inl (cU, 2, .inl (fun _ => 0))), (it, .inl (cY, 2, .inl (fun _ => 0))), (il, .inl (cZ, 2, .inl (fun _ => 0)))] := hD
  generalize eg_3 : (upd (fun _ => 0) (0 : Int32).toNatClampNeg 0) = g_3 at hP hD
  have hg_3_0 : g_3 0 = 0 := by rw [← eg_3]; exact p1_us
  refine lv_aload_n hx hb dX9_clearBank_30 rfl (lv_at hl 0 rfl) ?_
  refine va_get (D := (dC, dI)) (ci := 8) (v := .ref la) (C := RX9) (T := TX9) (N := 81) hx hb hts i_X9 hown hK hP 0 rfl rfl 14 (by decide) k_4 (fun _ h9 => h9) f_ms_14 dX9_clearBank_31 ?_
  refine lv_aload_n hx hb dX9_clearBank_34 rfl (lv_at hl 0 rfl) ?_
  refine va_get (D := (dC, dI)) (ci := 8) (v := .int 0) (C := RX9) (T := TX9) (N := 81) hx hb hts i_X9 hown hK hP 0 rfl rfl 44 (by decide) k_1 (fun _ h9 => h9) f_ms_44 dX9_clearBank_35 ?_
  refine lv_iconst (v := 0) hx hb dX9_clearBank_38 (by decide) ?_
  refine va_iast hx hb hK hP hD hS 4 3 rfl rfl (p1_in (i := 0) (n := 2) (by decide)) dX9_clearBank_39 (fun H locs hP hD hS => ?_)
  have hP : va_P (dC, dI) vwCl [(mo, .inr (8, ms)), (kn, .inl (cK, 2, .inl g_1)), (co, .inl (cC, 2, .inl g_2)), (wa, .inl (cW, 2, .inl g_3)), (la, .inl (cL, 2, .inl (upd (fun _ => 0) (0 : Int32).toNatClampNeg 0))), (wt, .inl (cT, 2, .inl (fun _ => 0))), (ti, .inl (cI, 2, .inl (fun _ => 0))), (lu, .inl (cU, 2, .inl (fun _ => 0))), (it, .inl (cY, 2, .inl (fun _ => 0))), (il, .inl (cZ, 2, .inl (fun _ => 0)))] H := hP
  have hD : va_D A [(mo, .inr (8, ms)), (kn, .inl (cK, 2, .inl g_1)), (co, .inl (cC, 2, .inl g_2)), (wa, .inl (cW, 2, .inl g_3)), (la, .inl (cL, 2, .inl (upd (fun _ => 0) (0 : Int32).toNatClampNeg 0))), (wt, .inl (cT, 2, .inl (fun _ => 0))), (ti, .inl (cI, 2, .inl (fun _ => 0))), (lu, .inl (cU, 2, .inl (fun _ => 0))), (it, .inl (cY, 2, .inl (fun _ => 0))), (il, .inl (cZ, 2, .inl (fun _ => 0)))] := hD
  generalize eg_4 : (upd (fun _ => 0) (0 : Int32).toNatClampNeg 0) = g_4 at hP hD
  have hg_4_0 : g_4 0 = 0 := by rw [← eg_4]; exact p1_us
  refine lv_aload_n hx hb dX9_clearBank_40 rfl (lv_at hl 0 rfl) ?_
  refine va_get (D := (dC, dI)) (ci := 8) (v := .ref wt) (C := RX9) (T := TX9) (N := 81) hx hb hts i_X9 hown hK hP 0 rfl rfl 15 (by decide) k_5 (fun _ h9 => h9) f_ms_15 dX9_clearBank_41 ?_
  refine lv_aload_n hx hb dX9_clearBank_44 rfl (lv_at hl 0 rfl) ?_
  refine va_get (D := (dC, dI)) (ci := 8) (v := .int 0) (C := RX9) (T := TX9) (N := 81) hx hb hts i_X9 hown hK hP 0 rfl rfl 44 (by decide) k_1 (fun _ h9 => h9) f_ms_44 dX9_clearBank_45 ?_
  refine lv_iconst (v := 0) hx hb dX9_clearBank_48 (by decide) ?_
  refine va_iast hx hb hK hP hD hS 5 4 rfl rfl (p1_in (i := 0) (n := 2) (by decide)) dX9_clearBank_49 (fun H locs hP hD hS => ?_)
  have hP : va_P (dC, dI) vwCl [(mo, .inr (8, ms)), (kn, .inl (cK, 2, .inl g_1)), (co, .inl (cC, 2, .inl g_2)), (wa, .inl (cW, 2, .inl g_3)), (la, .inl (cL, 2, .inl g_4)), (wt, .inl (cT, 2, .inl (upd (fun _ => 0) (0 : Int32).toNatClampNeg 0))), (ti, .inl (cI, 2, .inl (fun _ => 0))), (lu, .inl (cU, 2, .inl (fun _ => 0))), (it, .inl (cY, 2, .inl (fun _ => 0))), (il, .inl (cZ, 2, .inl (fun _ => 0)))] H := hP
  have hD : va_D A [(mo, .inr (8, ms)), (kn, .inl (cK, 2, .inl g_1)), (co, .inl (cC, 2, .inl g_2)), (wa, .inl (cW, 2, .inl g_3)), (la, .inl (cL, 2, .inl g_4)), (wt, .inl (cT, 2, .inl (upd (fun _ => 0) (0 : Int32).toNatClampNeg 0))), (ti, .inl (cI, 2, .inl (fun _ => 0))), (lu, .inl (cU, 2, .inl (fun _ => 0))), (it, .inl (cY, 2, .inl (fun _ => 0))), (il, .inl (cZ, 2, .inl (fun _ => 0)))] := hD
  generalize eg_5 : (upd (fun _ => 0) (0 : Int32).toNatClampNeg 0) = g_5 at hP hD
  have hg_5_0 : g_5 0 = 0 := by rw [← eg_5]; exact p1_us
  refine lv_aload_n hx hb dX9_clearBank_50 rfl (lv_at hl 0 rfl) ?_
  refine va_get (D := (dC, dI)) (ci := 8) (v := .ref ti) (C := RX9) (T := TX9) (N := 81) hx hb hts i_X9 hown hK hP 0 rfl rfl 16 (by decide) k_6 (fun _ h9 => h9) f_ms_16 dX9_clearBank_51 ?_
  refine lv_aload_n hx hb dX9_clearBank_54 rfl (lv_at hl 0 rfl) ?_
  refine va_get (D := (dC, dI)) (ci := 8) (v := .int 0) (C := RX9) (T := TX9) (N := 81) hx hb hts i_X9 hown hK hP 0 rfl rfl 44 (by decide) k_1 (fun _ h9 => h9) f_ms_44 dX9_clearBank_55 ?_
  refine lv_bipush (v := 100) hx hb dX9_clearBank_58 (by decide) ?_
  refine va_iast hx hb hK hP hD hS 6 5 rfl rfl (p1_in (i := 0) (n := 2) (by decide)) dX9_clearBank_60 (fun H locs hP hD hS => ?_)
  have hP : va_P (dC, dI) vwCl [(mo, .inr (8, ms)), (kn, .inl (cK, 2, .inl g_1)), (co, .inl (cC, 2, .inl g_2)), (wa, .inl (cW, 2, .inl g_3)), (la, .inl (cL, 2, .inl g_4)), (wt, .inl (cT, 2, .inl g_5)), (ti, .inl (cI, 2, .inl (upd (fun _ => 0) (0 : Int32).toNatClampNeg 100))), (lu, .inl (cU, 2, .inl (fun _ => 0))), (it, .inl (cY, 2, .inl (fun _ => 0))), (il, .inl (cZ, 2, .inl (fun _ => 0)))] H := hP
  have hD : va_D A [(mo, .inr (8, ms)), (kn, .inl (cK, 2, .inl g_1)), (co, .inl (cC, 2, .inl g_2)), (wa, .inl (cW, 2, .inl g_3)), (la, .inl (cL, 2, .inl g_4)), (wt, .inl (cT, 2, .inl g_5)), (ti, .inl (cI, 2, .inl (upd (fun _ => 0) (0 : Int32).toNatClampNeg 100))), (lu, .inl (cU, 2, .inl (fun _ => 0))), (it, .inl (cY, 2, .inl (fun _ => 0))), (il, .inl (cZ, 2, .inl (fun _ => 0)))] := hD
  generalize eg_6 : (upd (fun _ => 0) (0 : Int32).toNatClampNeg 100) = g_6 at hP hD
  refine lv_aload_n hx hb dX9_clearBank_61 rfl (lv_at hl 0 rfl) ?_
  refine va_get (D := (dC, dI)) (ci := 8) (v := .ref lu) (C := RX9) (T := TX9) (N := 81) hx hb hts i_X9 hown hK hP 0 rfl rfl 17 (by decide) k_7 (fun _ h9 => h9) f_ms_17 dX9_clearBank_62 ?_
  refine lv_aload_n hx hb dX9_clearBank_65 rfl (lv_at hl 0 rfl) ?_
  refine va_get (D := (dC, dI)) (ci := 8) (v := .int 0) (C := RX9) (T := TX9) (N := 81) hx hb hts i_X9 hown hK hP 0 rfl rfl 44 (by decide) k_1 (fun _ h9 => h9) f_ms_44 dX9_clearBank_66 ?_
  refine lv_iconst (v := 0) hx hb dX9_clearBank_69 (by decide) ?_
  refine va_iast hx hb hK hP hD hS 7 6 rfl rfl (p1_in (i := 0) (n := 2) (by decide)) dX9_clearBank_70 (fun H locs hP hD hS => ?_)
  have hP : va_P (dC, dI) vwCl [(mo, .inr (8, ms)), (kn, .inl (cK, 2, .inl g_1)), (co, .inl (cC, 2, .inl g_2)), (wa, .inl (cW, 2, .inl g_3)), (la, .inl (cL, 2, .inl g_4)), (wt, .inl (cT, 2, .inl g_5)), (ti, .inl (cI, 2, .inl g_6)), (lu, .inl (cU, 2, .inl (upd (fun _ => 0) (0 : Int32).toNatClampNeg 0))), (it, .inl (cY, 2, .inl (fun _ => 0))), (il, .inl (cZ, 2, .inl (fun _ => 0)))] H := hP
  have hD : va_D A [(mo, .inr (8, ms)), (kn, .inl (cK, 2, .inl g_1)), (co, .inl (cC, 2, .inl g_2)), (wa, .inl (cW, 2, .inl g_3)), (la, .inl (cL, 2, .inl g_4)), (wt, .inl (cT, 2, .inl g_5)), (ti, .inl (cI, 2, .inl g_6)), (lu, .inl (cU, 2, .inl (upd (fun _ => 0) (0 : Int32).toNatClampNeg 0))), (it, .inl (cY, 2, .inl (fun _ => 0))), (il, .inl (cZ, 2, .inl (fun _ => 0)))] := hD
  generalize eg_7 : (upd (fun _ => 0) (0 : Int32).toNatClampNeg 0) = g_7 at hP hD
  refine lv_aload_n hx hb dX9_clearBank_71 rfl (lv_at hl 0 rfl) ?_
  refine va_get (D := (dC, dI)) (ci := 8) (v := .ref it) (C := RX9) (T := TX9) (N := 81) hx hb hts i_X9 hown hK hP 0 rfl rfl 19 (by decide) k_8 (fun _ h9 => h9) f_ms_19 dX9_clearBank_72 ?_
  refine lv_aload_n hx hb dX9_clearBank_75 rfl (lv_at hl 0 rfl) ?_
  refine va_get (D := (dC, dI)) (ci := 8) (v := .int 0) (C := RX9) (T := TX9) (N := 81) hx hb hts i_X9 hown hK hP 0 rfl rfl 44 (by decide) k_1 (fun _ h9 => h9) f_ms_44 dX9_clearBank_76 ?_
  refine lv_iconst (v := 0) hx hb dX9_clearBank_79 (by decide) ?_
  refine va_zast hx hb hK hP hD hS 8 7 rfl rfl (p1_in (i := 0) (n := 2) (by decide)) dX9_clearBank_80 (fun H locs hP hD hS => ?_)
  have hP : va_P (dC, dI) vwCl [(mo, .inr (8, ms)), (kn, .inl (cK, 2, .inl g_1)), (co, .inl (cC, 2, .inl g_2)), (wa, .inl (cW, 2, .inl g_3)), (la, .inl (cL, 2, .inl g_4)), (wt, .inl (cT, 2, .inl g_5)), (ti, .inl (cI, 2, .inl g_6)), (lu, .inl (cU, 2, .inl g_7)), (it, .inl (cY, 2, .inl (upd (fun _ => 0) (0 : Int32).toNatClampNeg (vp_nar .boolean 0)))), (il, .inl (cZ, 2, .inl (fun _ => 0)))] H := hP
  have hD : va_D A [(mo, .inr (8, ms)), (kn, .inl (cK, 2, .inl g_1)), (co, .inl (cC, 2, .inl g_2)), (wa, .inl (cW, 2, .inl g_3)), (la, .inl (cL, 2, .inl g_4)), (wt, .inl (cT, 2, .inl g_5)), (ti, .inl (cI, 2, .inl g_6)), (lu, .inl (cU, 2, .inl g_7)), (it, .inl (cY, 2, .inl (upd (fun _ => 0) (0 : Int32).toNatClampNeg (vp_nar .boolean 0)))), (il, .inl (cZ, 2, .inl (fun _ => 0)))] := hD
  generalize eg_8 : (upd (fun _ => 0) (0 : Int32).toNatClampNeg (vp_nar .boolean 0)) = g_8 at hP hD
  refine lv_aload_n hx hb dX9_clearBank_81 rfl (lv_at hl 0 rfl) ?_
  refine va_get (D := (dC, dI)) (ci := 8) (v := .ref il) (C := RX9) (T := TX9) (N := 81) hx hb hts i_X9 hown hK hP 0 rfl rfl 20 (by decide) k_9 (fun _ h9 => h9) f_ms_20 dX9_clearBank_82 ?_
  refine lv_aload_n hx hb dX9_clearBank_85 rfl (lv_at hl 0 rfl) ?_
  refine va_get (D := (dC, dI)) (ci := 8) (v := .int 0) (C := RX9) (T := TX9) (N := 81) hx hb hts i_X9 hown hK hP 0 rfl rfl 44 (by decide) k_1 (fun _ h9 => h9) f_ms_44 dX9_clearBank_86 ?_
  refine lv_iconst (v := 0) hx hb dX9_clearBank_89 (by decide) ?_
  refine va_zast hx hb hK hP hD hS 9 8 rfl rfl (p1_in (i := 0) (n := 2) (by decide)) dX9_clearBank_90 (fun H locs hP hD hS => ?_)
  have hP : va_P (dC, dI) vwCl [(mo, .inr (8, ms)), (kn, .inl (cK, 2, .inl g_1)), (co, .inl (cC, 2, .inl g_2)), (wa, .inl (cW, 2, .inl g_3)), (la, .inl (cL, 2, .inl g_4)), (wt, .inl (cT, 2, .inl g_5)), (ti, .inl (cI, 2, .inl g_6)), (lu, .inl (cU, 2, .inl g_7)), (it, .inl (cY, 2, .inl g_8)), (il, .inl (cZ, 2, .inl (upd (fun _ => 0) (0 : Int32).toNatClampNeg (vp_nar .boolean 0))))] H := hP
  have hD : va_D A [(mo, .inr (8, ms)), (kn, .inl (cK, 2, .inl g_1)), (co, .inl (cC, 2, .inl g_2)), (wa, .inl (cW, 2, .inl g_3)), (la, .inl (cL, 2, .inl g_4)), (wt, .inl (cT, 2, .inl g_5)), (ti, .inl (cI, 2, .inl g_6)), (lu, .inl (cU, 2, .inl g_7)), (it, .inl (cY, 2, .inl g_8)), (il, .inl (cZ, 2, .inl (upd (fun _ => 0) (0 : Int32).toNatClampNeg (vp_nar .boolean 0))))] := hD
  generalize eg_9 : (upd (fun _ => 0) (0 : Int32).toNatClampNeg (vp_nar .boolean 0)) = g_9 at hP hD
  refine lv_aload_n hx hb dX9_clearBank_91 rfl (lv_at hl 0 rfl) ?_
  refine lv_sipush (v := 900) hx hb dX9_clearBank_92 (by decide) ?_
  refine lv_aload_n hx hb dX9_clearBank_95 rfl (lv_at hl 0 rfl) ?_
  refine va_get (D := (dC, dI)) (ci := 8) (v := .int 0) (C := RX9) (T := TX9) (N := 81) hx hb hts i_X9 hown hK hP 0 rfl rfl 44 (by decide) k_1 (fun _ h9 => h9) f_ms_44 dX9_clearBank_96 ?_
  refine lv_imul hx hb dX9_clearBank_99 ?_
  refine lv_topi (fun v_10 ev_10 => ?_)
  obtain rfl : v_10 = 0 := ev_10.trans (by decide)
  refine va_put (D := (dC, dI)) (ci := 8) (v := .int 0) (ty := .int) (C := RX9) (T := TX9) (N := 81) hx hb hts i_X9 tyX9 tyX9_ok nmX9 hown hK hP hD hS 0 rfl rfl 45 (by decide) k_10 (fun _ h9 => h9) rfl (by decide +kernel) rfl rfl (by rw [l_ms]; decide) dX9_clearBank_100 (fun H locs hP hD hS => ?_)
  have hP : va_P (dC, dI) vwCl [(mo, .inr (8, (ms.set 45 (.int 0)))), (kn, .inl (cK, 2, .inl g_1)), (co, .inl (cC, 2, .inl g_2)), (wa, .inl (cW, 2, .inl g_3)), (la, .inl (cL, 2, .inl g_4)), (wt, .inl (cT, 2, .inl g_5)), (ti, .inl (cI, 2, .inl g_6)), (lu, .inl (cU, 2, .inl g_7)), (it, .inl (cY, 2, .inl g_8)), (il, .inl (cZ, 2, .inl g_9))] H := hP
  have hD : va_D A [(mo, .inr (8, (ms.set 45 (.int 0)))), (kn, .inl (cK, 2, .inl g_1)), (co, .inl (cC, 2, .inl g_2)), (wa, .inl (cW, 2, .inl g_3)), (la, .inl (cL, 2, .inl g_4)), (wt, .inl (cT, 2, .inl g_5)), (ti, .inl (cI, 2, .inl g_6)), (lu, .inl (cU, 2, .inl g_7)), (it, .inl (cY, 2, .inl g_8)), (il, .inl (cZ, 2, .inl g_9))] := hD
  generalize efs_11 : (ms.set 45 (.int 0)) = fs_11 at hP hD
  have lfs_11 : fs_11.length = 81 := by rw [← efs_11, List.length_set]; exact l_ms
  have ffs_11_2 : fs_11[2]? = some (.int 0) := by rw [← efs_11]; exact p1_sn (by decide) f_ms_2
  have ffs_11_3 : fs_11[3]? = some (.int 0) := by rw [← efs_11]; exact p1_sn (by decide) f_ms_3
  have ffs_11_4 : fs_11[4]? = some (.int 0) := by rw [← efs_11]; exact p1_sn (by decide) f_ms_4
  have ffs_11_43 : fs_11[43]? = some (.int 0) := by rw [← efs_11]; exact p1_sn (by decide) f_ms_43
  have ffs_11_60 : fs_11[60]? = some (.int 0) := by rw [← efs_11]; exact p1_sn (by decide) f_ms_60
  have ffs_11_75 : fs_11[75]? = some (.int 0) := by rw [← efs_11]; exact p1_sn (by decide) f_ms_75
  have ffs_11_7 : fs_11[7]? = some (.int 0) := by rw [← efs_11]; exact p1_sn (by decide) f_ms_7
  have ffs_11_76 : fs_11[76]? = some (.int 0) := by rw [← efs_11]; exact p1_sn (by decide) f_ms_76
  have ffs_11_0 : fs_11[0]? = some (.ref tp) := by rw [← efs_11]; exact p1_sn (by decide) f_ms_0
  have ffs_11_5 : fs_11[5]? = some (.int (-1)) := by rw [← efs_11]; exact p1_sn (by decide) f_ms_5
  have ffs_11_18 : fs_11[18]? = some (.ref un) := by rw [← efs_11]; exact p1_sn (by decide) f_ms_18
  have ffs_11_65 : fs_11[65]? = some (.int 1) := by rw [← efs_11]; exact p1_sn (by decide) f_ms_65
  have ffs_11_78 : fs_11[78]? = some (.ref bm) := by rw [← efs_11]; exact p1_sn (by decide) f_ms_78
  have ffs_11_11 : fs_11[11]? = some (.ref kn) := by rw [← efs_11]; exact p1_sn (by decide) f_ms_11
  have ffs_11_12 : fs_11[12]? = some (.ref co) := by rw [← efs_11]; exact p1_sn (by decide) f_ms_12
  have ffs_11_13 : fs_11[13]? = some (.ref wa) := by rw [← efs_11]; exact p1_sn (by decide) f_ms_13
  have ffs_11_14 : fs_11[14]? = some (.ref la) := by rw [← efs_11]; exact p1_sn (by decide) f_ms_14
  have ffs_11_15 : fs_11[15]? = some (.ref wt) := by rw [← efs_11]; exact p1_sn (by decide) f_ms_15
  have ffs_11_16 : fs_11[16]? = some (.ref ti) := by rw [← efs_11]; exact p1_sn (by decide) f_ms_16
  have ffs_11_17 : fs_11[17]? = some (.ref lu) := by rw [← efs_11]; exact p1_sn (by decide) f_ms_17
  have ffs_11_19 : fs_11[19]? = some (.ref it) := by rw [← efs_11]; exact p1_sn (by decide) f_ms_19
  have ffs_11_20 : fs_11[20]? = some (.ref il) := by rw [← efs_11]; exact p1_sn (by decide) f_ms_20
  have ffs_11_44 : fs_11[44]? = some (.int 0) := by rw [← efs_11]; exact p1_sn (by decide) f_ms_44
  have ffs_11_45 : fs_11[45]? = some (.int 0) := by rw [← efs_11]; exact p1_sa l_ms (by decide)
  refine lv_aload_n hx hb dX9_clearBank_103 rfl (lv_at hl 0 rfl) ?_
  refine lv_iconst (v := 0) hx hb dX9_clearBank_104 (by decide) ?_
  refine va_put (D := (dC, dI)) (ci := 8) (v := .int 0) (ty := .int) (C := RX9) (T := TX9) (N := 81) hx hb hts i_X9 tyX9 tyX9_ok nmX9 hown hK hP hD hS 0 rfl rfl 46 (by decide) k_11 (fun _ h9 => h9) rfl (by decide +kernel) rfl rfl (by rw [lfs_11]; decide) dX9_clearBank_105 (fun H locs hP hD hS => ?_)
  have hP : va_P (dC, dI) vwCl [(mo, .inr (8, (fs_11.set 46 (.int 0)))), (kn, .inl (cK, 2, .inl g_1)), (co, .inl (cC, 2, .inl g_2)), (wa, .inl (cW, 2, .inl g_3)), (la, .inl (cL, 2, .inl g_4)), (wt, .inl (cT, 2, .inl g_5)), (ti, .inl (cI, 2, .inl g_6)), (lu, .inl (cU, 2, .inl g_7)), (it, .inl (cY, 2, .inl g_8)), (il, .inl (cZ, 2, .inl g_9))] H := hP
  have hD : va_D A [(mo, .inr (8, (fs_11.set 46 (.int 0)))), (kn, .inl (cK, 2, .inl g_1)), (co, .inl (cC, 2, .inl g_2)), (wa, .inl (cW, 2, .inl g_3)), (la, .inl (cL, 2, .inl g_4)), (wt, .inl (cT, 2, .inl g_5)), (ti, .inl (cI, 2, .inl g_6)), (lu, .inl (cU, 2, .inl g_7)), (it, .inl (cY, 2, .inl g_8)), (il, .inl (cZ, 2, .inl g_9))] := hD
  generalize efs_12 : (fs_11.set 46 (.int 0)) = fs_12 at hP hD
  have lfs_12 : fs_12.length = 81 := by rw [← efs_12, List.length_set]; exact lfs_11
  have ffs_12_2 : fs_12[2]? = some (.int 0) := by rw [← efs_12]; exact p1_sn (by decide) ffs_11_2
  have ffs_12_3 : fs_12[3]? = some (.int 0) := by rw [← efs_12]; exact p1_sn (by decide) ffs_11_3
  have ffs_12_4 : fs_12[4]? = some (.int 0) := by rw [← efs_12]; exact p1_sn (by decide) ffs_11_4
  have ffs_12_43 : fs_12[43]? = some (.int 0) := by rw [← efs_12]; exact p1_sn (by decide) ffs_11_43
  have ffs_12_60 : fs_12[60]? = some (.int 0) := by rw [← efs_12]; exact p1_sn (by decide) ffs_11_60
  have ffs_12_75 : fs_12[75]? = some (.int 0) := by rw [← efs_12]; exact p1_sn (by decide) ffs_11_75
  have ffs_12_7 : fs_12[7]? = some (.int 0) := by rw [← efs_12]; exact p1_sn (by decide) ffs_11_7
  have ffs_12_76 : fs_12[76]? = some (.int 0) := by rw [← efs_12]; exact p1_sn (by decide) ffs_11_76
  have ffs_12_0 : fs_12[0]? = some (.ref tp) := by rw [← efs_12]; exact p1_sn (by decide) ffs_11_0
  have ffs_12_5 : fs_12[5]? = some (.int (-1)) := by rw [← efs_12]; exact p1_sn (by decide) ffs_11_5
  have ffs_12_18 : fs_12[18]? = some (.ref un) := by rw [← efs_12]; exact p1_sn (by decide) ffs_11_18
  have ffs_12_65 : fs_12[65]? = some (.int 1) := by rw [← efs_12]; exact p1_sn (by decide) ffs_11_65
  have ffs_12_78 : fs_12[78]? = some (.ref bm) := by rw [← efs_12]; exact p1_sn (by decide) ffs_11_78
  have ffs_12_11 : fs_12[11]? = some (.ref kn) := by rw [← efs_12]; exact p1_sn (by decide) ffs_11_11
  have ffs_12_12 : fs_12[12]? = some (.ref co) := by rw [← efs_12]; exact p1_sn (by decide) ffs_11_12
  have ffs_12_13 : fs_12[13]? = some (.ref wa) := by rw [← efs_12]; exact p1_sn (by decide) ffs_11_13
  have ffs_12_14 : fs_12[14]? = some (.ref la) := by rw [← efs_12]; exact p1_sn (by decide) ffs_11_14
  have ffs_12_15 : fs_12[15]? = some (.ref wt) := by rw [← efs_12]; exact p1_sn (by decide) ffs_11_15
  have ffs_12_16 : fs_12[16]? = some (.ref ti) := by rw [← efs_12]; exact p1_sn (by decide) ffs_11_16
  have ffs_12_17 : fs_12[17]? = some (.ref lu) := by rw [← efs_12]; exact p1_sn (by decide) ffs_11_17
  have ffs_12_19 : fs_12[19]? = some (.ref it) := by rw [← efs_12]; exact p1_sn (by decide) ffs_11_19
  have ffs_12_20 : fs_12[20]? = some (.ref il) := by rw [← efs_12]; exact p1_sn (by decide) ffs_11_20
  have ffs_12_44 : fs_12[44]? = some (.int 0) := by rw [← efs_12]; exact p1_sn (by decide) ffs_11_44
  have ffs_12_45 : fs_12[45]? = some (.int 0) := by rw [← efs_12]; exact p1_sn (by decide) ffs_11_45
  have ffs_12_46 : fs_12[46]? = some (.int 0) := by rw [← efs_12]; exact p1_sa lfs_11 (by decide)
  have hP9 := hP.sub (ws' := [(mo, .inr (8, fs_12)), (kn, .inl (cK, 2, .inl g_1)), (co, .inl (cC, 2, .inl g_2)), (wa, .inl (cW, 2, .inl g_3)), (la, .inl (cL, 2, .inl g_4)), (wt, .inl (cT, 2, .inl g_5)), (ti, .inl (cI, 2, .inl g_6)), (lu, .inl (cU, 2, .inl g_7)), (it, .inl (cY, 2, .inl g_8)), (il, .inl (cZ, 2, .inl g_9))]) [0, 1, 2, 3, 4, 5, 6, 7, 8, 9] rfl
  have hD9 := hD.sub (ws' := [(mo, .inr (8, fs_12)), (kn, .inl (cK, 2, .inl g_1)), (co, .inl (cC, 2, .inl g_2)), (wa, .inl (cW, 2, .inl g_3)), (la, .inl (cL, 2, .inl g_4)), (wt, .inl (cT, 2, .inl g_5)), (ti, .inl (cI, 2, .inl g_6)), (lu, .inl (cU, 2, .inl g_7)), (it, .inl (cY, 2, .inl g_8)), (il, .inl (cZ, 2, .inl g_9))]) [0, 1, 2, 3, 4, 5, 6, 7, 8, 9] (by decide) rfl
  have hK9 := hK.sub (tys' := []) [] rfl
  exact W.vret hx hb hr (fun t ht hW => ⟨⟨(), rfl, trivial, fs_12, g_1, g_2, g_3, g_4, g_5, g_6, g_7, g_8, g_9, lfs_12, ffs_12_2, ffs_12_3, ffs_12_4, ffs_12_43, ffs_12_60, ffs_12_75, ffs_12_7, ffs_12_76, ffs_12_0, ffs_12_5, ffs_12_18, ffs_12_65, ffs_12_78, ffs_12_11, ffs_12_12, ffs_12_13, ffs_12_14, ffs_12_15, ffs_12_16, ffs_12_17, ffs_12_19, ffs_12_20, ffs_12_44, ffs_12_46, hg_1_0, hg_2_0, hg_3_0, hg_4_0, hg_5_0, by rw [ht]; exact hP9, va_K.moved hW.alike hK9, hD9⟩, hS.F ht⟩) hS.2.2 dX9_clearBank_108
def zo_c_clearBank1 : List Cond := [.code yX9_clearBank cX9_clearBank 1 none, .fieldLink RX9 20 "BowWalkModel" "knots" "[I", .fieldLink RX9 279 "BowWalkModel" "rb" "I", .fieldLink RX9 24 "BowWalkModel" "cords" "[I", .fieldLink RX9 27 "BowWalkModel" "walks" "[I", .fieldLink RX9 30 "BowWalkModel" "laws" "[I", .fieldLink RX9 33 "BowWalkModel" "wants" "[I", .fieldLink RX9 36 "BowWalkModel" "tight" "[I", .fieldLink RX9 39 "BowWalkModel" "luck" "[I", .fieldLink RX9 45 "BowWalkModel" "isTight" "[Z", .fieldLink RX9 49 "BowWalkModel" "isLuck" "[Z", .fieldLink RX9 282 "BowWalkModel" "codes" "I", .fieldLink RX9 285 "BowWalkModel" "units" "I"]
def zw_c_clearBank1 : List Cond := zo_c_clearBank1 ++ (wsX90 ++ [])
theorem gz_c_clearBank1 : zw_c_clearBank1.all goodWord = true := p1_ga (by decide +kernel) (p1_ga gk_X9 p1_g0)
theorem iz_c_clearBank1 : ∀ w ∈ zw_c_clearBank1, w ∈ lw_tbl := p1_ia (p1_all [1036, 1048, 1081, 1049, 1050, 1051, 1052, 1053, 1054, 1056, 1057, 1082, 1083] (by decide +kernel)) (p1_ia ik_X9 p1_i0)
set_option maxHeartbeats 4000000 in
set_option maxRecDepth 100000 in
theorem c_clearBank1 (l : Launch) (dC : Nat → ClassId) (dI : Nat → Nat → Nat) (sz : Nat) (mo : Nat) (ms : List Value) (un : Nat) (bm : Nat) (kn : Nat) (co : Nat) (wa : Nat) (la : Nat) (wt : Nat) (ti : Nat) (lu : Nat) (it : Nat) (il : Nat) (cK : ClassId) (kf : Nat → Int32) (cC : ClassId) (cf : Nat → Int32) (cW : ClassId) (wf : Nat → Int32) (cL : ClassId) (lf : Nat → Int32) (cT : ClassId) (tf : Nat → Int32) (cI : ClassId) (if0 : Nat → Int32) (cU : ClassId) (uf : Nat → Int32) (cY : ClassId) (yf : Nat → Int32) (cZ : ClassId) (zf : Nat → Int32) (f_ms_2 : ms[2]? = some (.int 0)) (f_ms_3 : ms[3]? = some (.int 0)) (f_ms_4 : ms[4]? = some (.int 0)) (f_ms_43 : ms[43]? = some (.int 0)) (f_ms_18 : ms[18]? = some (.ref un)) (f_ms_78 : ms[78]? = some (.ref bm)) (f_ms_7 : ms[7]? = some (.int 0)) (f_ms_11 : ms[11]? = some (.ref kn)) (f_ms_12 : ms[12]? = some (.ref co)) (f_ms_13 : ms[13]? = some (.ref wa)) (f_ms_14 : ms[14]? = some (.ref la)) (f_ms_15 : ms[15]? = some (.ref wt)) (f_ms_16 : ms[16]? = some (.ref ti)) (f_ms_17 : ms[17]? = some (.ref lu)) (f_ms_19 : ms[19]? = some (.ref it)) (f_ms_20 : ms[20]? = some (.ref il)) (f_ms_44 : ms[44]? = some (.int 1)) (l_ms : ms.length = 81) : Met l yX9_clearBank zw_c_clearBank1 ({ frames := 0, cells := 0, slots := 0, locals := 0 }) (va_Pc [.ref mo] (fun U => U.heap.size = sz ∧ va_P (dC, dI) vwCl [(mo, .inr (8, ms)), (kn, .inl (cK, 2, .inl kf)), (co, .inl (cC, 2, .inl cf)), (wa, .inl (cW, 2, .inl wf)), (la, .inl (cL, 2, .inl lf)), (wt, .inl (cT, 2, .inl tf)), (ti, .inl (cI, 2, .inl if0)), (lu, .inl (cU, 2, .inl uf)), (it, .inl (cY, 2, .inl yf)), (il, .inl (cZ, 2, .inl zf))] U.heap ∧ va_K (dC, dI) vwCl [(cK, .int), (cC, .int), (cW, .int), (cL, .int), (cT, .int), (cI, .int), (cU, .int), (cY, .boolean), (cZ, .boolean)] U ∧ va_D (fun _ => True) [(mo, .inr (8, ms)), (kn, .inl (cK, 2, .inl kf)), (co, .inl (cC, 2, .inl cf)), (wa, .inl (cW, 2, .inl wf)), (la, .inl (cL, 2, .inl lf)), (wt, .inl (cT, 2, .inl tf)), (ti, .inl (cI, 2, .inl if0)), (lu, .inl (cU, 2, .inl uf)), (it, .inl (cY, 2, .inl yf)), (il, .inl (cZ, 2, .inl zf))])) (va_Qv (fun (_ : Unit) => True) (fun _ t => ∃ (mt : List Value) (kfo : Nat → Int32), mt.length = 81 ∧ mt[2]? = some (.int 0) ∧ mt[3]? = some (.int 0) ∧ mt[4]? = some (.int 0) ∧ mt[43]? = some (.int 0) ∧ mt[18]? = some (.ref un) ∧ mt[78]? = some (.ref bm) ∧ mt[7]? = some (.int 0) ∧ mt[11]? = some (.ref kn) ∧ mt[12]? = some (.ref co) ∧ mt[13]? = some (.ref wa) ∧ mt[14]? = some (.ref la) ∧ mt[15]? = some (.ref wt) ∧ mt[16]? = some (.ref ti) ∧ mt[17]? = some (.ref lu) ∧ mt[19]? = some (.ref it) ∧ mt[20]? = some (.ref il) ∧ mt[44]? = some (.int 1) ∧ mt[46]? = some (.int 0) ∧ kfo 1 = 0 ∧ va_P (dC, dI) vwCl [(mo, .inr (8, mt)), (kn, .inl (cK, 2, .inl kfo))] t.heap ∧ va_K (dC, dI) vwCl [] t ∧ va_D (va_A [(mo, .inr (8, ms)), (kn, .inl (cK, 2, .inl kf)), (co, .inl (cC, 2, .inl cf)), (wa, .inl (cW, 2, .inl wf)), (la, .inl (cL, 2, .inl lf)), (wt, .inl (cT, 2, .inl tf)), (ti, .inl (cI, 2, .inl if0)), (lu, .inl (cU, 2, .inl uf)), (it, .inl (cY, 2, .inl yf)), (il, .inl (cZ, 2, .inl zf))] sz) [(mo, .inr (8, mt)), (kn, .inl (cK, 2, .inl kfo))]) (va_A [(mo, .inr (8, ms)), (kn, .inl (cK, 2, .inl kf)), (co, .inl (cC, 2, .inl cf)), (wa, .inl (cW, 2, .inl wf)), (la, .inl (cL, 2, .inl lf)), (wt, .inl (cT, 2, .inl tf)), (ti, .inl (cI, 2, .inl if0)), (lu, .inl (cU, 2, .inl uf)), (it, .inl (cY, 2, .inl yf)), (il, .inl (cZ, 2, .inl zf))] sz)) 0 0 (va_A [(mo, .inr (8, ms)), (kn, .inl (cK, 2, .inl kf)), (co, .inl (cC, 2, .inl cf)), (wa, .inl (cW, 2, .inl wf)), (la, .inl (cL, 2, .inl lf)), (wt, .inl (cT, 2, .inl tf)), (ti, .inl (cI, 2, .inl if0)), (lu, .inl (cU, 2, .inl uf)), (it, .inl (cY, 2, .inl yf)), (il, .inl (cZ, 2, .inl zf))] sz) := by
  refine Met.ofW (cc := cX9_clearBank) (maxL := 1) (ret := none) (by decide) rfl ?_
  intro p e s m args below meth c s₁ B hml hv
  obtain ⟨rfl, hsz, hP, hK, hD0⟩ := hv
  have hx := B.exec
  have hb := B.bytes
  have hr := B.returns
  have hts := atoms_spec (ws := zw_c_clearBank1) B.pre
  have hown : s.vm.findClass RX9 = some m.cls := findClass_of_methodNamed B.named
  have hlocks := B.notSynchronized
  subst hsz
  have hD := hD0.self (sz := s.heap.size)
  generalize hAe : va_A [(mo, .inr (8, ms)), (kn, .inl (cK, 2, .inl kf)), (co, .inl (cC, 2, .inl cf)), (wa, .inl (cW, 2, .inl wf)), (la, .inl (cL, 2, .inl lf)), (wt, .inl (cT, 2, .inl tf)), (ti, .inl (cI, 2, .inl if0)), (lu, .inl (cU, 2, .inl uf)), (it, .inl (cY, 2, .inl yf)), (il, .inl (cZ, 2, .inl zf))] s.heap.size = A at hD ⊢
  have hA : ∀ q : Nat, s.heap.size ≤ q → A q := fun q h => by rw [← hAe]; exact Or.inr h
  have hS : va_S A s.heap s.heap [] := va_S.rf
  have hP : va_P (dC, dI) vwCl [(mo, .inr (8, ms)), (kn, .inl (cK, 2, .inl kf)), (co, .inl (cC, 2, .inl cf)), (wa, .inl (cW, 2, .inl wf)), (la, .inl (cL, 2, .inl lf)), (wt, .inl (cT, 2, .inl tf)), (ti, .inl (cI, 2, .inl if0)), (lu, .inl (cU, 2, .inl uf)), (it, .inl (cY, 2, .inl yf)), (il, .inl (cZ, 2, .inl zf))] s.heap := hP
  have m_0 : (.fieldLink RX9 20 "BowWalkModel" "knots" "[I" : Cond) ∈ zw_c_clearBank1 := List.mem_append_left _ (List.mem_of_getElem? (i := 1) rfl)
  have k_0 := hts _ m_0
  have m_1 : (.fieldLink RX9 279 "BowWalkModel" "rb" "I" : Cond) ∈ zw_c_clearBank1 := List.mem_append_left _ (List.mem_of_getElem? (i := 2) rfl)
  have k_1 := hts _ m_1
  have m_2 : (.fieldLink RX9 24 "BowWalkModel" "cords" "[I" : Cond) ∈ zw_c_clearBank1 := List.mem_append_left _ (List.mem_of_getElem? (i := 3) rfl)
  have k_2 := hts _ m_2
  have m_3 : (.fieldLink RX9 27 "BowWalkModel" "walks" "[I" : Cond) ∈ zw_c_clearBank1 := List.mem_append_left _ (List.mem_of_getElem? (i := 4) rfl)
  have k_3 := hts _ m_3
  have m_4 : (.fieldLink RX9 30 "BowWalkModel" "laws" "[I" : Cond) ∈ zw_c_clearBank1 := List.mem_append_left _ (List.mem_of_getElem? (i := 5) rfl)
  have k_4 := hts _ m_4
  have m_5 : (.fieldLink RX9 33 "BowWalkModel" "wants" "[I" : Cond) ∈ zw_c_clearBank1 := List.mem_append_left _ (List.mem_of_getElem? (i := 6) rfl)
  have k_5 := hts _ m_5
  have m_6 : (.fieldLink RX9 36 "BowWalkModel" "tight" "[I" : Cond) ∈ zw_c_clearBank1 := List.mem_append_left _ (List.mem_of_getElem? (i := 7) rfl)
  have k_6 := hts _ m_6
  have m_7 : (.fieldLink RX9 39 "BowWalkModel" "luck" "[I" : Cond) ∈ zw_c_clearBank1 := List.mem_append_left _ (List.mem_of_getElem? (i := 8) rfl)
  have k_7 := hts _ m_7
  have m_8 : (.fieldLink RX9 45 "BowWalkModel" "isTight" "[Z" : Cond) ∈ zw_c_clearBank1 := List.mem_append_left _ (List.mem_of_getElem? (i := 9) rfl)
  have k_8 := hts _ m_8
  have m_9 : (.fieldLink RX9 49 "BowWalkModel" "isLuck" "[Z" : Cond) ∈ zw_c_clearBank1 := List.mem_append_left _ (List.mem_of_getElem? (i := 10) rfl)
  have k_9 := hts _ m_9
  have m_10 : (.fieldLink RX9 282 "BowWalkModel" "codes" "I" : Cond) ∈ zw_c_clearBank1 := List.mem_append_left _ (List.mem_of_getElem? (i := 11) rfl)
  have k_10 := hts _ m_10
  have m_11 : (.fieldLink RX9 285 "BowWalkModel" "units" "I" : Cond) ∈ zw_c_clearBank1 := List.mem_append_left _ (List.mem_of_getElem? (i := 12) rfl)
  have k_11 := hts _ m_11
  have i_X9 : ∀ w ∈ u_ws RX9 TX9 81, w ∈ zw_c_clearBank1 := fun w h => List.mem_append_right _ (List.mem_append_left _ h)
  have hl := lv_entry ([.ref mo]) (n := 1) (Nat.le_of_ble_eq_true rfl)
  rw [lg_entry_eq]
  generalize (lg_sl ([.ref mo]) ++ List.replicate (1 - (lg_sl ([.ref mo])).length) Slot.unset).toArray = ls at hl ⊢
  have hl : lv_has ls 1 [(0, .ref mo)] := hl
  refine lv_aload_n hx hb dX9_clearBank_0 rfl (lv_at hl 0 rfl) ?_
  refine va_get (D := (dC, dI)) (ci := 8) (v := .ref kn) (C := RX9) (T := TX9) (N := 81) hx hb hts i_X9 hown hK hP 0 rfl rfl 11 (by decide) k_0 (fun _ h9 => h9) f_ms_11 dX9_clearBank_1 ?_
  refine lv_aload_n hx hb dX9_clearBank_4 rfl (lv_at hl 0 rfl) ?_
  refine va_get (D := (dC, dI)) (ci := 8) (v := .int 1) (C := RX9) (T := TX9) (N := 81) hx hb hts i_X9 hown hK hP 0 rfl rfl 44 (by decide) k_1 (fun _ h9 => h9) f_ms_44 dX9_clearBank_5 ?_
  refine lv_iconst (v := 0) hx hb dX9_clearBank_8 (by decide) ?_
  refine va_iast hx hb hK hP hD hS 1 0 rfl rfl (p1_in (i := 1) (n := 2) (by decide)) dX9_clearBank_9 (fun H locs hP hD hS => ?_)
  have hP : va_P (dC, dI) vwCl [(mo, .inr (8, ms)), (kn, .inl (cK, 2, .inl (upd kf (1 : Int32).toNatClampNeg 0))), (co, .inl (cC, 2, .inl cf)), (wa, .inl (cW, 2, .inl wf)), (la, .inl (cL, 2, .inl lf)), (wt, .inl (cT, 2, .inl tf)), (ti, .inl (cI, 2, .inl if0)), (lu, .inl (cU, 2, .inl uf)), (it, .inl (cY, 2, .inl yf)), (il, .inl (cZ, 2, .inl zf))] H := hP
  have hD : va_D A [(mo, .inr (8, ms)), (kn, .inl (cK, 2, .inl (upd kf (1 : Int32).toNatClampNeg 0))), (co, .inl (cC, 2, .inl cf)), (wa, .inl (cW, 2, .inl wf)), (la, .inl (cL, 2, .inl lf)), (wt, .inl (cT, 2, .inl tf)), (ti, .inl (cI, 2, .inl if0)), (lu, .inl (cU, 2, .inl uf)), (it, .inl (cY, 2, .inl yf)), (il, .inl (cZ, 2, .inl zf))] := hD
  generalize eg_1 : (upd kf (1 : Int32).toNatClampNeg 0) = g_1 at hP hD
  have hg_1_1 : g_1 1 = 0 := by rw [← eg_1]; exact p1_us
  refine lv_aload_n hx hb dX9_clearBank_10 rfl (lv_at hl 0 rfl) ?_
  refine va_get (D := (dC, dI)) (ci := 8) (v := .ref co) (C := RX9) (T := TX9) (N := 81) hx hb hts i_X9 hown hK hP 0 rfl rfl 12 (by decide) k_2 (fun _ h9 => h9) f_ms_12 dX9_clearBank_11 ?_
  refine lv_aload_n hx hb dX9_clearBank_14 rfl (lv_at hl 0 rfl) ?_
  refine va_get (D := (dC, dI)) (ci := 8) (v := .int 1) (C := RX9) (T := TX9) (N := 81) hx hb hts i_X9 hown hK hP 0 rfl rfl 44 (by decide) k_1 (fun _ h9 => h9) f_ms_44 dX9_clearBank_15 ?_
  refine lv_iconst (v := 0) hx hb dX9_clearBank_18 (by decide) ?_
  refine va_iast hx hb hK hP hD hS 2 1 rfl rfl (p1_in (i := 1) (n := 2) (by decide)) dX9_clearBank_19 (fun H locs hP hD hS => ?_)
  have hP : va_P (dC, dI) vwCl [(mo, .inr (8, ms)), (kn, .inl (cK, 2, .inl g_1)), (co, .inl (cC, 2, .inl (upd cf (1 : Int32).toNatClampNeg 0))), (wa, .inl (cW, 2, .inl wf)), (la, .inl (cL, 2, .inl lf)), (wt, .inl (cT, 2, .inl tf)), (ti, .inl (cI, 2, .inl if0)), (lu, .inl (cU, 2, .inl uf)), (it, .inl (cY, 2, .inl yf)), (il, .inl (cZ, 2, .inl zf))] H := hP
  have hD : va_D A [(mo, .inr (8, ms)), (kn, .inl (cK, 2, .inl g_1)), (co, .inl (cC, 2, .inl (upd cf (1 : Int32).toNatClampNeg 0))), (wa, .inl (cW, 2, .inl wf)), (la, .inl (cL, 2, .inl lf)), (wt, .inl (cT, 2, .inl tf)), (ti, .inl (cI, 2, .inl if0)), (lu, .inl (cU, 2, .inl uf)), (it, .inl (cY, 2, .inl yf)), (il, .inl (cZ, 2, .inl zf))] := hD
  generalize eg_2 : (upd cf (1 : Int32).toNatClampNeg 0) = g_2 at hP hD
  refine lv_aload_n hx hb dX9_clearBank_20 rfl (lv_at hl 0 rfl) ?_
  refine va_get (D := (dC, dI)) (ci := 8) (v := .ref wa) (C := RX9) (T := TX9) (N := 81) hx hb hts i_X9 hown hK hP 0 rfl rfl 13 (by decide) k_3 (fun _ h9 => h9) f_ms_13 dX9_clearBank_21 ?_
  refine lv_aload_n hx hb dX9_clearBank_24 rfl (lv_at hl 0 rfl) ?_
  refine va_get (D := (dC, dI)) (ci := 8) (v := .int 1) (C := RX9) (T := TX9) (N := 81) hx hb hts i_X9 hown hK hP 0 rfl rfl 44 (by decide) k_1 (fun _ h9 => h9) f_ms_44 dX9_clearBank_25 ?_
  refine lv_iconst (v := 0) hx hb dX9_clearBank_28 (by decide) ?_
  refine va_iast hx hb hK hP hD hS 3 2 rfl rfl (p1_in (i := 1) (n := 2) (by decide)) dX9_clearBank_29 (fun H locs hP hD hS => ?_)
  have hP : va_P (dC, dI) vwCl [(mo, .inr (8, ms)), (kn, .inl (cK, 2, .inl g_1)), (co, .inl (cC, 2, .inl g_2)), (wa, .inl (cW, 2, .inl (upd wf (1 : Int32).toNatClampNeg 0))), (la, .inl (cL, 2, .inl lf)), (wt, .inl (cT, 2, .inl tf)), (ti, .inl (cI, 2, .inl if0)), (lu, .inl (cU, 2, .inl uf)), (it, .inl (cY, 2, .inl yf)), (il, .inl (cZ, 2, .inl zf))] H := hP
  have hD : va_D A [(mo, .inr (8, ms)), (kn, .inl (cK, 2, .inl g_1)), (co, .inl (cC, 2, .inl g_2)), (wa, .inl (cW, 2, .inl (upd wf (1 : Int32).toNatClampNeg 0))), (la, .inl (cL, 2, .inl lf)), (wt, .inl (cT, 2, .inl tf)), (ti, .inl (cI, 2, .inl if0)), (lu, .inl (cU, 2, .inl uf)), (it, .inl (cY, 2, .inl yf)), (il, .inl (cZ, 2, .inl zf))] := hD
  generalize eg_3 : (upd wf (1 : Int32).toNatClampNeg 0) = g_3 at hP hD
  refine lv_aload_n hx hb dX9_clearBank_30 rfl (lv_at hl 0 rfl) ?_
  refine va_get (D := (dC, dI)) (ci := 8) (v := .ref la) (C := RX9) (T := TX9) (N := 81) hx hb hts i_X9 hown hK hP 0 rfl rfl 14 (by decide) k_4 (fun _ h9 => h9) f_ms_14 dX9_clearBank_31 ?_
  refine lv_aload_n hx hb dX9_clearBank_34 rfl (lv_at hl 0 rfl) ?_
  refine va_get (D := (dC, dI)) (ci := 8) (v := .int 1) (C := RX9) (T := TX9) (N := 81) hx hb hts i_X9 hown hK hP 0 rfl rfl 44 (by decide) k_1 (fun _ h9 => h9) f_ms_44 dX9_clearBank_35 ?_
  refine lv_iconst (v := 0) hx hb dX9_clearBank_38 (by decide) ?_
  refine va_iast hx hb hK hP hD hS 4 3 rfl rfl (p1_in (i := 1) (n := 2) (by decide)) dX9_clearBank_39 (fun H locs hP hD hS => ?_)
  have hP : va_P (dC, dI) vwCl [(mo, .inr (8, ms)), (kn, .inl (cK, 2, .inl g_1)), (co, .inl (cC, 2, .inl g_2)), (wa, .inl (cW, 2, .inl g_3)), (la, .inl (cL, 2, .inl (upd lf (1 : Int32).toNatClampNeg 0))), (wt, .inl (cT, 2, .inl tf)), (ti, .inl (cI, 2, .inl if0)), (lu, .inl (cU, 2, .inl uf)), (it, .inl (cY, 2, .inl yf)), (il, .inl (cZ, 2, .inl zf))] H := hP
  have hD : va_D A [(mo, .inr (8, ms)), (kn, .inl (cK, 2, .inl g_1)), (co, .inl (cC, 2, .inl g_2)), (wa, .inl (cW, 2, .inl g_3)), (la, .inl (cL, 2, .inl (upd lf (1 : Int32).toNatClampNeg 0))), (wt, .inl (cT, 2, .inl tf)), (ti, .inl (cI, 2, .inl if0)), (lu, .inl (cU, 2, .inl uf)), (it, .inl (cY, 2, .inl yf)), (il, .inl (cZ, 2, .inl zf))] := hD
  generalize eg_4 : (upd lf (1 : Int32).toNatClampNeg 0) = g_4 at hP hD
  refine lv_aload_n hx hb dX9_clearBank_40 rfl (lv_at hl 0 rfl) ?_
  refine va_get (D := (dC, dI)) (ci := 8) (v := .ref wt) (C := RX9) (T := TX9) (N := 81) hx hb hts i_X9 hown hK hP 0 rfl rfl 15 (by decide) k_5 (fun _ h9 => h9) f_ms_15 dX9_clearBank_41 ?_
  refine lv_aload_n hx hb dX9_clearBank_44 rfl (lv_at hl 0 rfl) ?_
  refine va_get (D := (dC, dI)) (ci := 8) (v := .int 1) (C := RX9) (T := TX9) (N := 81) hx hb hts i_X9 hown hK hP 0 rfl rfl 44 (by decide) k_1 (fun _ h9 => h9) f_ms_44 dX9_clearBank_45 ?_
  refine lv_iconst (v := 0) hx hb dX9_clearBank_48 (by decide) ?_
  refine va_iast hx hb hK hP hD hS 5 4 rfl rfl (p1_in (i := 1) (n := 2) (by decide)) dX9_clearBank_49 (fun H locs hP hD hS => ?_)
  have hP : va_P (dC, dI) vwCl [(mo, .inr (8, ms)), (kn, .inl (cK, 2, .inl g_1)), (co, .inl (cC, 2, .inl g_2)), (wa, .inl (cW, 2, .inl g_3)), (la, .inl (cL, 2, .inl g_4)), (wt, .inl (cT, 2, .inl (upd tf (1 : Int32).toNatClampNeg 0))), (ti, .inl (cI, 2, .inl if0)), (lu, .inl (cU, 2, .inl uf)), (it, .inl (cY, 2, .inl yf)), (il, .inl (cZ, 2, .inl zf))] H := hP
  have hD : va_D A [(mo, .inr (8, ms)), (kn, .inl (cK, 2, .inl g_1)), (co, .inl (cC, 2, .inl g_2)), (wa, .inl (cW, 2, .inl g_3)), (la, .inl (cL, 2, .inl g_4)), (wt, .inl (cT, 2, .inl (upd tf (1 : Int32).toNatClampNeg 0))), (ti, .inl (cI, 2, .inl if0)), (lu, .inl (cU, 2, .inl uf)), (it, .inl (cY, 2, .inl yf)), (il, .inl (cZ, 2, .inl zf))] := hD
  generalize eg_5 : (upd tf (1 : Int32).toNatClampNeg 0) = g_5 at hP hD
  refine lv_aload_n hx hb dX9_clearBank_50 rfl (lv_at hl 0 rfl) ?_
  refine va_get (D := (dC, dI)) (ci := 8) (v := .ref ti) (C := RX9) (T := TX9) (N := 81) hx hb hts i_X9 hown hK hP 0 rfl rfl 16 (by decide) k_6 (fun _ h9 => h9) f_ms_16 dX9_clearBank_51 ?_
  refine lv_aload_n hx hb dX9_clearBank_54 rfl (lv_at hl 0 rfl) ?_
  refine va_get (D := (dC, dI)) (ci := 8) (v := .int 1) (C := RX9) (T := TX9) (N := 81) hx hb hts i_X9 hown hK hP 0 rfl rfl 44 (by decide) k_1 (fun _ h9 => h9) f_ms_44 dX9_clearBank_55 ?_
  refine lv_bipush (v := 100) hx hb dX9_clearBank_58 (by decide) ?_
  refine va_iast hx hb hK hP hD hS 6 5 rfl rfl (p1_in (i := 1) (n := 2) (by decide)) dX9_clearBank_60 (fun H locs hP hD hS => ?_)
  have hP : va_P (dC, dI) vwCl [(mo, .inr (8, ms)), (kn, .inl (cK, 2, .inl g_1)), (co, .inl (cC, 2, .inl g_2)), (wa, .inl (cW, 2, .inl g_3)), (la, .inl (cL, 2, .inl g_4)), (wt, .inl (cT, 2, .inl g_5)), (ti, .inl (cI, 2, .inl (upd if0 (1 : Int32).toNatClampNeg 100))), (lu, .inl (cU, 2, .inl uf)), (it, .inl (cY, 2, .inl yf)), (il, .inl (cZ, 2, .inl zf))] H := hP
  have hD : va_D A [(mo, .inr (8, ms)), (kn, .inl (cK, 2, .inl g_1)), (co, .inl (cC, 2, .inl g_2)), (wa, .inl (cW, 2, .inl g_3)), (la, .inl (cL, 2, .inl g_4)), (wt, .inl (cT, 2, .inl g_5)), (ti, .inl (cI, 2, .inl (upd if0 (1 : Int32).toNatClampNeg 100))), (lu, .inl (cU, 2, .inl uf)), (it, .inl (cY, 2, .inl yf)), (il, .inl (cZ, 2, .inl zf))] := hD
  generalize eg_6 : (upd if0 (1 : Int32).toNatClampNeg 100) = g_6 at hP hD
  refine lv_aload_n hx hb dX9_clearBank_61 rfl (lv_at hl 0 rfl) ?_
  refine va_get (D := (dC, dI)) (ci := 8) (v := .ref lu) (C := RX9) (T := TX9) (N := 81) hx hb hts i_X9 hown hK hP 0 rfl rfl 17 (by decide) k_7 (fun _ h9 => h9) f_ms_17 dX9_clearBank_62 ?_
  refine lv_aload_n hx hb dX9_clearBank_65 rfl (lv_at hl 0 rfl) ?_
  refine va_get (D := (dC, dI)) (ci := 8) (v := .int 1) (C := RX9) (T := TX9) (N := 81) hx hb hts i_X9 hown hK hP 0 rfl rfl 44 (by decide) k_1 (fun _ h9 => h9) f_ms_44 dX9_clearBank_66 ?_
  refine lv_iconst (v := 0) hx hb dX9_clearBank_69 (by decide) ?_
  refine va_iast hx hb hK hP hD hS 7 6 rfl rfl (p1_in (i := 1) (n := 2) (by decide)) dX9_clearBank_70 (fun H locs hP hD hS => ?_)
  have hP : va_P (dC, dI) vwCl [(mo, .inr (8, ms)), (kn, .inl (cK, 2, .inl g_1)), (co, .inl (cC, 2, .inl g_2)), (wa, .inl (cW, 2, .inl g_3)), (la, .inl (cL, 2, .inl g_4)), (wt, .inl (cT, 2, .inl g_5)), (ti, .inl (cI, 2, .inl g_6)), (lu, .inl (cU, 2, .inl (upd uf (1 : Int32).toNatClampNeg 0))), (it, .inl (cY, 2, .inl yf)), (il, .inl (cZ, 2, .inl zf))] H := hP
  have hD : va_D A [(mo, .inr (8, ms)), (kn, .inl (cK, 2, .inl g_1)), (co, .inl (cC, 2, .inl g_2)), (wa, .inl (cW, 2, .inl g_3)), (la, .inl (cL, 2, .inl g_4)), (wt, .inl (cT, 2, .inl g_5)), (ti, .inl (cI, 2, .inl g_6)), (lu, .inl (cU, 2, .inl (upd uf (1 : Int32).toNatClampNeg 0))), (it, .inl (cY, 2, .inl yf)), (il, .inl (cZ, 2, .inl zf))] := hD
  generalize eg_7 : (upd uf (1 : Int32).toNatClampNeg 0) = g_7 at hP hD
  refine lv_aload_n hx hb dX9_clearBank_71 rfl (lv_at hl 0 rfl) ?_
  refine va_get (D := (dC, dI)) (ci := 8) (v := .ref it) (C := RX9) (T := TX9) (N := 81) hx hb hts i_X9 hown hK hP 0 rfl rfl 19 (by decide) k_8 (fun _ h9 => h9) f_ms_19 dX9_clearBank_72 ?_
  refine lv_aload_n hx hb dX9_clearBank_75 rfl (lv_at hl 0 rfl) ?_
  refine va_get (D := (dC, dI)) (ci := 8) (v := .int 1) (C := RX9) (T := TX9) (N := 81) hx hb hts i_X9 hown hK hP 0 rfl rfl 44 (by decide) k_1 (fun _ h9 => h9) f_ms_44 dX9_clearBank_76 ?_
  refine lv_iconst (v := 0) hx hb dX9_clearBank_79 (by decide) ?_
  refine va_zast hx hb hK hP hD hS 8 7 rfl rfl (p1_in (i := 1) (n := 2) (by decide)) dX9_clearBank_80 (fun H locs hP hD hS => ?_)
  have hP : va_P (dC, dI) vwCl [(mo, .inr (8, ms)), (kn, .inl (cK, 2, .inl g_1)), (co, .inl (cC, 2, .inl g_2)), (wa, .inl (cW, 2, .inl g_3)), (la, .inl (cL, 2, .inl g_4)), (wt, .inl (cT, 2, .inl g_5)), (ti, .inl (cI, 2, .inl g_6)), (lu, .inl (cU, 2, .inl g_7)), (it, .inl (cY, 2, .inl (upd yf (1 : Int32).toNatClampNeg (vp_nar .boolean 0)))), (il, .inl (cZ, 2, .inl zf))] H := hP
  have hD : va_D A [(mo, .inr (8, ms)), (kn, .inl (cK, 2, .inl g_1)), (co, .inl (cC, 2, .inl g_2)), (wa, .inl (cW, 2, .inl g_3)), (la, .inl (cL, 2, .inl g_4)), (wt, .inl (cT, 2, .inl g_5)), (ti, .inl (cI, 2, .inl g_6)), (lu, .inl (cU, 2, .inl g_7)), (it, .inl (cY, 2, .inl (upd yf (1 : Int32).toNatClampNeg (vp_nar .boolean 0)))), (il, .inl (cZ, 2, .inl zf))] := hD
  generalize eg_8 : (upd yf (1 : Int32).toNatClampNeg (vp_nar .boolean 0)) = g_8 at hP hD
  refine lv_aload_n hx hb dX9_clearBank_81 rfl (lv_at hl 0 rfl) ?_
  refine va_get (D := (dC, dI)) (ci := 8) (v := .ref il) (C := RX9) (T := TX9) (N := 81) hx hb hts i_X9 hown hK hP 0 rfl rfl 20 (by decide) k_9 (fun _ h9 => h9) f_ms_20 dX9_clearBank_82 ?_
  refine lv_aload_n hx hb dX9_clearBank_85 rfl (lv_at hl 0 rfl) ?_
  refine va_get (D := (dC, dI)) (ci := 8) (v := .int 1) (C := RX9) (T := TX9) (N := 81) hx hb hts i_X9 hown hK hP 0 rfl rfl 44 (by decide) k_1 (fun _ h9 => h9) f_ms_44 dX9_clearBank_86 ?_
  refine lv_iconst (v := 0) hx hb dX9_clearBank_89 (by decide) ?_
  refine va_zast hx hb hK hP hD hS 9 8 rfl rfl (p1_in (i := 1) (n := 2) (by decide)) dX9_clearBank_90 (fun H locs hP hD hS => ?_)
  have hP : va_P (dC, dI) vwCl [(mo, .inr (8, ms)), (kn, .inl (cK, 2, .inl g_1)), (co, .inl (cC, 2, .inl g_2)), (wa, .inl (cW, 2, .inl g_3)), (la, .inl (cL, 2, .inl g_4)), (wt, .inl (cT, 2, .inl g_5)), (ti, .inl (cI, 2, .inl g_6)), (lu, .inl (cU, 2, .inl g_7)), (it, .inl (cY, 2, .inl g_8)), (il, .inl (cZ, 2, .inl (upd zf (1 : Int32).toNatClampNeg (vp_nar .boolean 0))))] H := hP
  have hD : va_D A [(mo, .inr (8, ms)), (kn, .inl (cK, 2, .inl g_1)), (co, .inl (cC, 2, .inl g_2)), (wa, .inl (cW, 2, .inl g_3)), (la, .inl (cL, 2, .inl g_4)), (wt, .inl (cT, 2, .inl g_5)), (ti, .inl (cI, 2, .inl g_6)), (lu, .inl (cU, 2, .inl g_7)), (it, .inl (cY, 2, .inl g_8)), (il, .inl (cZ, 2, .inl (upd zf (1 : Int32).toNatClampNeg (vp_nar .boolean 0))))] := hD
  generalize eg_9 : (upd zf (1 : Int32).toNatClampNeg (vp_nar .boolean 0)) = g_9 at hP hD
  refine lv_aload_n hx hb dX9_clearBank_91 rfl (lv_at hl 0 rfl) ?_
  refine lv_sipush (v := 900) hx hb dX9_clearBank_92 (by decide) ?_
  refine lv_aload_n hx hb dX9_clearBank_95 rfl (lv_at hl 0 rfl) ?_
  refine va_get (D := (dC, dI)) (ci := 8) (v := .int 1) (C := RX9) (T := TX9) (N := 81) hx hb hts i_X9 hown hK hP 0 rfl rfl 44 (by decide) k_1 (fun _ h9 => h9) f_ms_44 dX9_clearBank_96 ?_
  refine lv_imul hx hb dX9_clearBank_99 ?_
  refine lv_topi (fun v_10 ev_10 => ?_)
  obtain rfl : v_10 = 900 := ev_10.trans (by decide)
  refine va_put (D := (dC, dI)) (ci := 8) (v := .int 900) (ty := .int) (C := RX9) (T := TX9) (N := 81) hx hb hts i_X9 tyX9 tyX9_ok nmX9 hown hK hP hD hS 0 rfl rfl 45 (by decide) k_10 (fun _ h9 => h9) rfl (by decide +kernel) rfl rfl (by rw [l_ms]; decide) dX9_clearBank_100 (fun H locs hP hD hS => ?_)
  have hP : va_P (dC, dI) vwCl [(mo, .inr (8, (ms.set 45 (.int 900)))), (kn, .inl (cK, 2, .inl g_1)), (co, .inl (cC, 2, .inl g_2)), (wa, .inl (cW, 2, .inl g_3)), (la, .inl (cL, 2, .inl g_4)), (wt, .inl (cT, 2, .inl g_5)), (ti, .inl (cI, 2, .inl g_6)), (lu, .inl (cU, 2, .inl g_7)), (it, .inl (cY, 2, .inl g_8)), (il, .inl (cZ, 2, .inl g_9))] H := hP
  have hD : va_D A [(mo, .inr (8, (ms.set 45 (.int 900)))), (kn, .inl (cK, 2, .inl g_1)), (co, .inl (cC, 2, .inl g_2)), (wa, .inl (cW, 2, .inl g_3)), (la, .inl (cL, 2, .inl g_4)), (wt, .inl (cT, 2, .inl g_5)), (ti, .inl (cI, 2, .inl g_6)), (lu, .inl (cU, 2, .inl g_7)), (it, .inl (cY, 2, .inl g_8)), (il, .inl (cZ, 2, .inl g_9))] := hD
  generalize efs_11 : (ms.set 45 (.int 900)) = fs_11 at hP hD
  have lfs_11 : fs_11.length = 81 := by rw [← efs_11, List.length_set]; exact l_ms
  have ffs_11_2 : fs_11[2]? = some (.int 0) := by rw [← efs_11]; exact p1_sn (by decide) f_ms_2
  have ffs_11_3 : fs_11[3]? = some (.int 0) := by rw [← efs_11]; exact p1_sn (by decide) f_ms_3
  have ffs_11_4 : fs_11[4]? = some (.int 0) := by rw [← efs_11]; exact p1_sn (by decide) f_ms_4
  have ffs_11_43 : fs_11[43]? = some (.int 0) := by rw [← efs_11]; exact p1_sn (by decide) f_ms_43
  have ffs_11_18 : fs_11[18]? = some (.ref un) := by rw [← efs_11]; exact p1_sn (by decide) f_ms_18
  have ffs_11_78 : fs_11[78]? = some (.ref bm) := by rw [← efs_11]; exact p1_sn (by decide) f_ms_78
  have ffs_11_7 : fs_11[7]? = some (.int 0) := by rw [← efs_11]; exact p1_sn (by decide) f_ms_7
  have ffs_11_11 : fs_11[11]? = some (.ref kn) := by rw [← efs_11]; exact p1_sn (by decide) f_ms_11
  have ffs_11_12 : fs_11[12]? = some (.ref co) := by rw [← efs_11]; exact p1_sn (by decide) f_ms_12
  have ffs_11_13 : fs_11[13]? = some (.ref wa) := by rw [← efs_11]; exact p1_sn (by decide) f_ms_13
  have ffs_11_14 : fs_11[14]? = some (.ref la) := by rw [← efs_11]; exact p1_sn (by decide) f_ms_14
  have ffs_11_15 : fs_11[15]? = some (.ref wt) := by rw [← efs_11]; exact p1_sn (by decide) f_ms_15
  have ffs_11_16 : fs_11[16]? = some (.ref ti) := by rw [← efs_11]; exact p1_sn (by decide) f_ms_16
  have ffs_11_17 : fs_11[17]? = some (.ref lu) := by rw [← efs_11]; exact p1_sn (by decide) f_ms_17
  have ffs_11_19 : fs_11[19]? = some (.ref it) := by rw [← efs_11]; exact p1_sn (by decide) f_ms_19
  have ffs_11_20 : fs_11[20]? = some (.ref il) := by rw [← efs_11]; exact p1_sn (by decide) f_ms_20
  have ffs_11_44 : fs_11[44]? = some (.int 1) := by rw [← efs_11]; exact p1_sn (by decide) f_ms_44
  have ffs_11_45 : fs_11[45]? = some (.int 900) := by rw [← efs_11]; exact p1_sa l_ms (by decide)
  refine lv_aload_n hx hb dX9_clearBank_103 rfl (lv_at hl 0 rfl) ?_
  refine lv_iconst (v := 0) hx hb dX9_clearBank_104 (by decide) ?_
  refine va_put (D := (dC, dI)) (ci := 8) (v := .int 0) (ty := .int) (C := RX9) (T := TX9) (N := 81) hx hb hts i_X9 tyX9 tyX9_ok nmX9 hown hK hP hD hS 0 rfl rfl 46 (by decide) k_11 (fun _ h9 => h9) rfl (by decide +kernel) rfl rfl (by rw [lfs_11]; decide) dX9_clearBank_105 (fun H locs hP hD hS => ?_)
  have hP : va_P (dC, dI) vwCl [(mo, .inr (8, (fs_11.set 46 (.int 0)))), (kn, .inl (cK, 2, .inl g_1)), (co, .inl (cC, 2, .inl g_2)), (wa, .inl (cW, 2, .inl g_3)), (la, .inl (cL, 2, .inl g_4)), (wt, .inl (cT, 2, .inl g_5)), (ti, .inl (cI, 2, .inl g_6)), (lu, .inl (cU, 2, .inl g_7)), (it, .inl (cY, 2, .inl g_8)), (il, .inl (cZ, 2, .inl g_9))] H := hP
  have hD : va_D A [(mo, .inr (8, (fs_11.set 46 (.int 0)))), (kn, .inl (cK, 2, .inl g_1)), (co, .inl (cC, 2, .inl g_2)), (wa, .inl (cW, 2, .inl g_3)), (la, .inl (cL, 2, .inl g_4)), (wt, .inl (cT, 2, .inl g_5)), (ti, .inl (cI, 2, .inl g_6)), (lu, .inl (cU, 2, .inl g_7)), (it, .inl (cY, 2, .inl g_8)), (il, .inl (cZ, 2, .inl g_9))] := hD
  generalize efs_12 : (fs_11.set 46 (.int 0)) = fs_12 at hP hD
  have lfs_12 : fs_12.length = 81 := by rw [← efs_12, List.length_set]; exact lfs_11
  have ffs_12_2 : fs_12[2]? = some (.int 0) := by rw [← efs_12]; exact p1_sn (by decide) ffs_11_2
  have ffs_12_3 : fs_12[3]? = some (.int 0) := by rw [← efs_12]; exact p1_sn (by decide) ffs_11_3
  have ffs_12_4 : fs_12[4]? = some (.int 0) := by rw [← efs_12]; exact p1_sn (by decide) ffs_11_4
  have ffs_12_43 : fs_12[43]? = some (.int 0) := by rw [← efs_12]; exact p1_sn (by decide) ffs_11_43
  have ffs_12_18 : fs_12[18]? = some (.ref un) := by rw [← efs_12]; exact p1_sn (by decide) ffs_11_18
  have ffs_12_78 : fs_12[78]? = some (.ref bm) := by rw [← efs_12]; exact p1_sn (by decide) ffs_11_78
  have ffs_12_7 : fs_12[7]? = some (.int 0) := by rw [← efs_12]; exact p1_sn (by decide) ffs_11_7
  have ffs_12_11 : fs_12[11]? = some (.ref kn) := by rw [← efs_12]; exact p1_sn (by decide) ffs_11_11
  have ffs_12_12 : fs_12[12]? = some (.ref co) := by rw [← efs_12]; exact p1_sn (by decide) ffs_11_12
  have ffs_12_13 : fs_12[13]? = some (.ref wa) := by rw [← efs_12]; exact p1_sn (by decide) ffs_11_13
  have ffs_12_14 : fs_12[14]? = some (.ref la) := by rw [← efs_12]; exact p1_sn (by decide) ffs_11_14
  have ffs_12_15 : fs_12[15]? = some (.ref wt) := by rw [← efs_12]; exact p1_sn (by decide) ffs_11_15
  have ffs_12_16 : fs_12[16]? = some (.ref ti) := by rw [← efs_12]; exact p1_sn (by decide) ffs_11_16
  have ffs_12_17 : fs_12[17]? = some (.ref lu) := by rw [← efs_12]; exact p1_sn (by decide) ffs_11_17
  have ffs_12_19 : fs_12[19]? = some (.ref it) := by rw [← efs_12]; exact p1_sn (by decide) ffs_11_19
  have ffs_12_20 : fs_12[20]? = some (.ref il) := by rw [← efs_12]; exact p1_sn (by decide) ffs_11_20
  have ffs_12_44 : fs_12[44]? = some (.int 1) := by rw [← efs_12]; exact p1_sn (by decide) ffs_11_44
  have ffs_12_45 : fs_12[45]? = some (.int 900) := by rw [← efs_12]; exact p1_sn (by decide) ffs_11_45
  have ffs_12_46 : fs_12[46]? = some (.int 0) := by rw [← efs_12]; exact p1_sa lfs_11 (by decide)
  have hP9 := hP.sub (ws' := [(mo, .inr (8, fs_12)), (kn, .inl (cK, 2, .inl g_1))]) [0, 1] rfl
  have hD9 := hD.sub (ws' := [(mo, .inr (8, fs_12)), (kn, .inl (cK, 2, .inl g_1))]) [0, 1] (by decide) rfl
  have hK9 := hK.sub (tys' := []) [] rfl
  exact W.vret hx hb hr (fun t ht hW => ⟨⟨(), rfl, trivial, fs_12, g_1, lfs_12, ffs_12_2, ffs_12_3, ffs_12_4, ffs_12_43, ffs_12_18, ffs_12_78, ffs_12_7, ffs_12_11, ffs_12_12, ffs_12_13, ffs_12_14, ffs_12_15, ffs_12_16, ffs_12_17, ffs_12_19, ffs_12_20, ffs_12_44, ffs_12_46, hg_1_1, by rw [ht]; exact hP9, va_K.moved hW.alike hK9, hD9⟩, hS.F ht⟩) hS.2.2 dX9_clearBank_108
