def zo_r_keep : List Cond := [.code yX9_keep cX9_keep 4 none, .fieldLink RX9 158 "BowWalkModel" "boxMany" "[I", .fieldLink RX9 396 "BowWalkModel" "bMany" "I", .fieldLink RX9 161 "BowWalkModel" "boxRow" "[I", .fieldLink RX9 393 "BowWalkModel" "bSides" "I", .fieldLink RX9 399 "BowWalkModel" "bAll" "I", .fieldLink RX9 370 "BowWalkModel" "bSmooth" "I", .fieldLink RX9 373 "BowWalkModel" "bWeight" "I", .fieldLink RX9 122 "BowWalkModel" "bLong" "[I", .fieldLink RX9 440 "BowWalkModel" "walked" "I", .fieldLink RX9 443 "BowWalkModel" "place" "I", .fieldLink RX9 446 "BowWalkModel" "stepsDone" "I", .fieldLink RX9 449 "BowWalkModel" "slipped" "I", .fieldLink RX9 125 "BowWalkModel" "w" "I", .fieldLink RX9 164 "BowWalkModel" "boxTight" "[I", .fieldLink RX9 119 "BowWalkModel" "bTight" "[I"]
def zw_r_keep : List Cond := zo_r_keep ++ (wsX90 ++ [])
theorem gz_r_keep : zw_r_keep.all goodWord = true := p1_ga (by decide +kernel) (p1_ga gk_X9 p1_g0)
theorem iz_r_keep : ∀ w ∈ zw_r_keep, w ∈ lw_tbl := p1_ia (p1_all [1537, 1115, 1089, 1116, 1088, 1090, 1091, 1092, 1087, 1098, 1099, 1100, 1101, 1102, 1117, 1086] (by decide +kernel)) (p1_ia ik_X9 p1_i0)
def zW_r_keep (p0 : Nat) (f_p0 : List Value) (p0_bLong : Nat) (c_p0_bLong : ClassId) (b_p0_bLong : Nat → Int32) (p0_bTight : Nat) (c_p0_bTight : ClassId) (b_p0_bTight : Nat → Int32) (p0_boxMany : Nat) (c_p0_boxMany : ClassId) (b_p0_boxMany : Nat → Int32) (p0_boxRow : Nat) (c_p0_boxRow : ClassId) (b_p0_boxRow : Nat → Int32) (p0_boxTight : Nat) (c_p0_boxTight : ClassId) (b_p0_boxTight : Nat → Int32) : va_W := [(p0, .inr (8, f_p0)), (p0_bLong, .inl (c_p0_bLong, 2, .inl b_p0_bLong)), (p0_bTight, .inl (c_p0_bTight, 12, .inl b_p0_bTight)), (p0_boxMany, .inl (c_p0_boxMany, 4, .inl b_p0_boxMany)), (p0_boxRow, .inl (c_p0_boxRow, 48, .inl b_p0_boxRow)), (p0_boxTight, .inl (c_p0_boxTight, 48, .inl b_p0_boxTight))]
def zT_r_keep (c_p0_bLong : ClassId) (c_p0_bTight : ClassId) (c_p0_boxMany : ClassId) (c_p0_boxRow : ClassId) (c_p0_boxTight : ClassId) : List (ClassId × FieldType) := [(c_p0_bLong, .int), (c_p0_bTight, .int), (c_p0_boxMany, .int), (c_p0_boxRow, .int), (c_p0_boxTight, .int)]
def zA_r_keep (p0 : Nat) (p0_bLong : Nat) (p0_bTight : Nat) (p0_boxMany : Nat) (p0_boxRow : Nat) (p0_boxTight : Nat) : List Nat := [p0, p0_bLong, p0_bTight, p0_boxMany, p0_boxRow, p0_boxTight]
theorem za_r_keep {p0 : Nat} {f_p0 : List Value} {p0_bLong : Nat} {c_p0_bLong : ClassId} {b_p0_bLong : Nat → Int32} {p0_bTight : Nat} {c_p0_bTight : ClassId} {b_p0_bTight : Nat → Int32} {p0_boxMany : Nat} {c_p0_boxMany : ClassId} {b_p0_boxMany : Nat → Int32} {p0_boxRow : Nat} {c_p0_boxRow : ClassId} {b_p0_boxRow : Nat → Int32} {p0_boxTight : Nat} {c_p0_boxTight : ClassId} {b_p0_boxTight : Nat → Int32} : (zW_r_keep p0 f_p0 p0_bLong c_p0_bLong b_p0_bLong p0_bTight c_p0_bTight b_p0_bTight p0_boxMany c_p0_boxMany b_p0_boxMany p0_boxRow c_p0_boxRow b_p0_boxRow p0_boxTight c_p0_boxTight b_p0_boxTight).map Prod.fst = (zA_r_keep p0 p0_bLong p0_bTight p0_boxMany p0_boxRow p0_boxTight) := rfl
def zG_r_keep (p0 : Nat) (f_p0 : List Value) (p0_bLong : Nat) (c_p0_bLong : ClassId) (b_p0_bLong : Nat → Int32) (p0_bTight : Nat) (c_p0_bTight : ClassId) (b_p0_bTight : Nat → Int32) (p0_boxMany : Nat) (c_p0_boxMany : ClassId) (b_p0_boxMany : Nat → Int32) (p0_boxRow : Nat) (c_p0_boxRow : ClassId) (b_p0_boxRow : Nat → Int32) (p0_boxTight : Nat) (c_p0_boxTight : ClassId) (b_p0_boxTight : Nat → Int32) (a1 : Int32) (X : va_W → Prop) : Prop := ∃ (y_p0_boxMany : Nat → Int32) (y_p0_boxRow : Nat → Int32) (y_p0_boxTight : Nat → Int32), (q_rg 4 (-1) 12 y_p0_boxMany) ∧ (q_box y_p0_boxRow) ∧ (0 ≤ (y_p0_boxMany a1.toNatClampNeg).toInt) ∧ X (zW_r_keep p0 f_p0 p0_bLong c_p0_bLong b_p0_bLong p0_bTight c_p0_bTight b_p0_bTight p0_boxMany c_p0_boxMany y_p0_boxMany p0_boxRow c_p0_boxRow y_p0_boxRow p0_boxTight c_p0_boxTight y_p0_boxTight)
theorem zm_r_keep {p0 : Nat} {f_p0 : List Value} {p0_bLong : Nat} {c_p0_bLong : ClassId} {b_p0_bLong : Nat → Int32} {p0_bTight : Nat} {c_p0_bTight : ClassId} {b_p0_bTight : Nat → Int32} {p0_boxMany : Nat} {c_p0_boxMany : ClassId} {b_p0_boxMany : Nat → Int32} {p0_boxRow : Nat} {c_p0_boxRow : ClassId} {b_p0_boxRow : Nat → Int32} {p0_boxTight : Nat} {c_p0_boxTight : ClassId} {b_p0_boxTight : Nat → Int32} {a1 : Int32} : ∀ X Y : va_W → Prop, (∀ w, X w → Y w) → zG_r_keep p0 f_p0 p0_bLong c_p0_bLong b_p0_bLong p0_bTight c_p0_bTight b_p0_bTight p0_boxMany c_p0_boxMany b_p0_boxMany p0_boxRow c_p0_boxRow b_p0_boxRow p0_boxTight c_p0_boxTight b_p0_boxTight a1 X → zG_r_keep p0 f_p0 p0_bLong c_p0_bLong b_p0_bLong p0_bTight c_p0_bTight b_p0_bTight p0_boxMany c_p0_boxMany b_p0_boxMany p0_boxRow c_p0_boxRow b_p0_boxRow p0_boxTight c_p0_boxTight b_p0_boxTight a1 Y := fun X Y h h1 => by obtain ⟨x0, x1, x2, x3, x4, x5, hx⟩ := h1; exact ⟨x0, x1, x2, x3, x4, x5, h _ hx⟩
set_option maxHeartbeats 4000000 in
set_option maxRecDepth 100000 in
theorem r_keep (l : Launch) (dC : Nat → ClassId) (dI : Nat → Nat → Nat) (sz : Nat) (p0 : Nat) (f_p0 : List Value) (p0_bLong : Nat) (c_p0_bLong : ClassId) (b_p0_bLong : Nat → Int32) (p0_bTight : Nat) (c_p0_bTight : ClassId) (b_p0_bTight : Nat → Int32) (p0_boxMany : Nat) (c_p0_boxMany : ClassId) (b_p0_boxMany : Nat → Int32) (p0_boxRow : Nat) (c_p0_boxRow : ClassId) (b_p0_boxRow : Nat → Int32) (p0_boxTight : Nat) (c_p0_boxTight : ClassId) (b_p0_boxTight : Nat → Int32) (a1 : Int32) (ho_p0 : OKX9 f_p0) (fr_p0_49 : q_rf f_p0 49 p0_bTight) (fr_p0_50 : q_rf f_p0 50 p0_bLong) (fr_p0_78 : q_rf f_p0 78 p0_boxMany) (fr_p0_79 : q_rf f_p0 79 p0_boxRow) (fr_p0_80 : q_rf f_p0 80 p0_boxTight) (hr_p0_boxMany : q_rg 4 (-1) 12 b_p0_boxMany) (hr_p0_boxRow : q_box b_p0_boxRow) (ta1 : (0) ≤ a1.toInt ∧ a1.toInt ≤ 3) : Met l yX9_keep zw_r_keep ({ frames := 0, cells := 0, slots := 0, locals := 0 }) (va_Pc [.ref p0, .int a1] (q_pre (dC, dI) (zW_r_keep p0 f_p0 p0_bLong c_p0_bLong b_p0_bLong p0_bTight c_p0_bTight b_p0_bTight p0_boxMany c_p0_boxMany b_p0_boxMany p0_boxRow c_p0_boxRow b_p0_boxRow p0_boxTight c_p0_boxTight b_p0_boxTight) (zT_r_keep c_p0_bLong c_p0_bTight c_p0_boxMany c_p0_boxRow c_p0_boxTight) q_E0 sz)) (q_Qv (dC, dI) (zG_r_keep p0 f_p0 p0_bLong c_p0_bLong b_p0_bLong p0_bTight c_p0_bTight b_p0_bTight p0_boxMany c_p0_boxMany b_p0_boxMany p0_boxRow c_p0_boxRow b_p0_boxRow p0_boxTight c_p0_boxTight b_p0_boxTight a1) (zA_r_keep p0 p0_bLong p0_bTight p0_boxMany p0_boxRow p0_boxTight) (va_A (zW_r_keep p0 f_p0 p0_bLong c_p0_bLong b_p0_bLong p0_bTight c_p0_bTight b_p0_bTight p0_boxMany c_p0_boxMany b_p0_boxMany p0_boxRow c_p0_boxRow b_p0_boxRow p0_boxTight c_p0_boxTight b_p0_boxTight) sz)) 0 0 (va_A (zW_r_keep p0 f_p0 p0_bLong c_p0_bLong b_p0_bLong p0_bTight c_p0_bTight b_p0_bTight p0_boxMany c_p0_boxMany b_p0_boxMany p0_boxRow c_p0_boxRow b_p0_boxRow p0_boxTight c_p0_boxTight b_p0_boxTight) sz) := by
  refine Met.ofW (cc := cX9_keep) (maxL := 4) (ret := none) (by decide) rfl ?_
  intro p e s m args below meth c s₁ B hml hv
  obtain ⟨rfl, hsz, hP, hK, hD0, hE⟩ := hv
  have hx := B.exec
  have hb := B.bytes
  have hr := B.returns
  have hts := atoms_spec (ws := zw_r_keep) B.pre
  have hown : s.vm.findClass RX9 = some m.cls := findClass_of_methodNamed B.named
  have hlocks := B.notSynchronized
  subst hsz
  have hD := hD0.self (sz := s.heap.size)
  generalize hAe : va_A (zW_r_keep p0 f_p0 p0_bLong c_p0_bLong b_p0_bLong p0_bTight c_p0_bTight b_p0_bTight p0_boxMany c_p0_boxMany b_p0_boxMany p0_boxRow c_p0_boxRow b_p0_boxRow p0_boxTight c_p0_boxTight b_p0_boxTight) s.heap.size = A at hD hE ⊢
  have hA : ∀ q : Nat, s.heap.size ≤ q → A q := fun q h => by rw [← hAe]; exact Or.inr h
  have hDa : q_DA A (zA_r_keep p0 p0_bLong p0_bTight p0_boxMany p0_boxRow p0_boxTight) := q_DA.mk hD za_r_keep
  clear hAe hD0 hD
  have hS : va_S A s.heap s.heap [] := va_S.rf
  have m_0 : (.fieldLink RX9 158 "BowWalkModel" "boxMany" "[I" : Cond) ∈ zw_r_keep := List.mem_append_left _ (List.mem_of_getElem? (i := 1) rfl)
  have k_0 := hts _ m_0
  have m_1 : (.fieldLink RX9 396 "BowWalkModel" "bMany" "I" : Cond) ∈ zw_r_keep := List.mem_append_left _ (List.mem_of_getElem? (i := 2) rfl)
  have k_1 := hts _ m_1
  have m_2 : (.fieldLink RX9 161 "BowWalkModel" "boxRow" "[I" : Cond) ∈ zw_r_keep := List.mem_append_left _ (List.mem_of_getElem? (i := 3) rfl)
  have k_2 := hts _ m_2
  have m_3 : (.fieldLink RX9 393 "BowWalkModel" "bSides" "I" : Cond) ∈ zw_r_keep := List.mem_append_left _ (List.mem_of_getElem? (i := 4) rfl)
  have k_3 := hts _ m_3
  have m_4 : (.fieldLink RX9 399 "BowWalkModel" "bAll" "I" : Cond) ∈ zw_r_keep := List.mem_append_left _ (List.mem_of_getElem? (i := 5) rfl)
  have k_4 := hts _ m_4
  have m_5 : (.fieldLink RX9 370 "BowWalkModel" "bSmooth" "I" : Cond) ∈ zw_r_keep := List.mem_append_left _ (List.mem_of_getElem? (i := 6) rfl)
  have k_5 := hts _ m_5
  have m_6 : (.fieldLink RX9 373 "BowWalkModel" "bWeight" "I" : Cond) ∈ zw_r_keep := List.mem_append_left _ (List.mem_of_getElem? (i := 7) rfl)
  have k_6 := hts _ m_6
  have m_7 : (.fieldLink RX9 122 "BowWalkModel" "bLong" "[I" : Cond) ∈ zw_r_keep := List.mem_append_left _ (List.mem_of_getElem? (i := 8) rfl)
  have k_7 := hts _ m_7
  have m_8 : (.fieldLink RX9 440 "BowWalkModel" "walked" "I" : Cond) ∈ zw_r_keep := List.mem_append_left _ (List.mem_of_getElem? (i := 9) rfl)
  have k_8 := hts _ m_8
  have m_9 : (.fieldLink RX9 443 "BowWalkModel" "place" "I" : Cond) ∈ zw_r_keep := List.mem_append_left _ (List.mem_of_getElem? (i := 10) rfl)
  have k_9 := hts _ m_9
  have m_10 : (.fieldLink RX9 446 "BowWalkModel" "stepsDone" "I" : Cond) ∈ zw_r_keep := List.mem_append_left _ (List.mem_of_getElem? (i := 11) rfl)
  have k_10 := hts _ m_10
  have m_11 : (.fieldLink RX9 449 "BowWalkModel" "slipped" "I" : Cond) ∈ zw_r_keep := List.mem_append_left _ (List.mem_of_getElem? (i := 12) rfl)
  have k_11 := hts _ m_11
  have m_12 : (.fieldLink RX9 125 "BowWalkModel" "w" "I" : Cond) ∈ zw_r_keep := List.mem_append_left _ (List.mem_of_getElem? (i := 13) rfl)
  have k_12 := hts _ m_12
  have m_13 : (.fieldLink RX9 164 "BowWalkModel" "boxTight" "[I" : Cond) ∈ zw_r_keep := List.mem_append_left _ (List.mem_of_getElem? (i := 14) rfl)
  have k_13 := hts _ m_13
  have m_14 : (.fieldLink RX9 119 "BowWalkModel" "bTight" "[I" : Cond) ∈ zw_r_keep := List.mem_append_left _ (List.mem_of_getElem? (i := 15) rfl)
  have k_14 := hts _ m_14
  have i_X9 : ∀ w ∈ u_ws RX9 TX9 81, w ∈ zw_r_keep := fun w h => List.mem_append_right _ (List.mem_append_left _ h)
  have lt_0 : (0 : Int32).toInt = 0 := by decide
  have lt_1 : (1 : Int32).toInt = 1 := by decide
  have lt_2 : (2 : Int32).toInt = 2 := by decide
  have lt_3 : (3 : Int32).toInt = 3 := by decide
  have lt_4 : (4 : Int32).toInt = 4 := by decide
  have lt_5 : (5 : Int32).toInt = 5 := by decide
  have lt_6 : (6 : Int32).toInt = 6 := by decide
  have lt_7 : (7 : Int32).toInt = 7 := by decide
  have lt_8 : (8 : Int32).toInt = 8 := by decide
  have lt_9 : (9 : Int32).toInt = 9 := by decide
  have lt_10 : (10 : Int32).toInt = 10 := by decide
  have lt_12 : (12 : Int32).toInt = 12 := by decide
  have lt_13 : (13 : Int32).toInt = 13 := by decide
  have lt_14 : (14 : Int32).toInt = 14 := by decide
  have lt_15 : (15 : Int32).toInt = 15 := by decide
  have lt_16 : (16 : Int32).toInt = 16 := by decide
  have lt_17 : (17 : Int32).toInt = 17 := by decide
  have lt_18 : (18 : Int32).toInt = 18 := by decide
  have lt_19 : (19 : Int32).toInt = 19 := by decide
  have lt_20 : (20 : Int32).toInt = 20 := by decide
  have lt_21 : (21 : Int32).toInt = 21 := by decide
  have lt_22 : (22 : Int32).toInt = 22 := by decide
  have lt_24 : (24 : Int32).toInt = 24 := by decide
  have lt_25 : (25 : Int32).toInt = 25 := by decide
  have lt_26 : (26 : Int32).toInt = 26 := by decide
  have lt_27 : (27 : Int32).toInt = 27 := by decide
  have lt_28 : (28 : Int32).toInt = 28 := by decide
  have lt_29 : (29 : Int32).toInt = 29 := by decide
  have lt_30 : (30 : Int32).toInt = 30 := by decide
  have lt_31 : (31 : Int32).toInt = 31 := by decide
  have lt_32 : (32 : Int32).toInt = 32 := by decide
  have lt_33 : (33 : Int32).toInt = 33 := by decide
  have lt_34 : (34 : Int32).toInt = 34 := by decide
  have lt_36 : (36 : Int32).toInt = 36 := by decide
  have lt_37 : (37 : Int32).toInt = 37 := by decide
  have lt_38 : (38 : Int32).toInt = 38 := by decide
  have lt_39 : (39 : Int32).toInt = 39 := by decide
  have lt_40 : (40 : Int32).toInt = 40 := by decide
  have lt_41 : (41 : Int32).toInt = 41 := by decide
  have lt_42 : (42 : Int32).toInt = 42 := by decide
  have lt_43 : (43 : Int32).toInt = 43 := by decide
  have lt_44 : (44 : Int32).toInt = 44 := by decide
  have lt_45 : (45 : Int32).toInt = 45 := by decide
  have lt_46 : (46 : Int32).toInt = 46 := by decide
  have hl := lv_entry ([.ref p0, .int a1]) (n := 4) (Nat.le_of_ble_eq_true rfl)
  rw [lg_entry_eq]
  generalize (lg_sl ([.ref p0, .int a1]) ++ List.replicate (4 - (lg_sl ([.ref p0, .int a1])).length) Slot.unset).toArray = ls at hl ⊢
  have hl : lv_has ls 4 [(0, .ref p0), (1, .int a1)] := hl
  rcases q_c4 (i := a1) (by omega) (by omega) with rfl | rfl | rfl | rfl
  · refine lv_aload_n hx hb dX9_keep_0 rfl (lv_at hl 0 rfl) (qg_X9_78 hx hb hts i_X9 hown hK hP 0 rfl k_0 fr_p0_78 dX9_keep_1 (lv_iload_n hx hb dX9_keep_4 rfl (lv_at hl 1 rfl) (lv_aload_n hx hb dX9_keep_5 rfl (lv_at hl 0 rfl) ?_)))
    obtain ⟨v_1, fv_1, tv_1⟩ := OKX9_g52 ho_p0
    refine qg_X9_52 hx hb hts i_X9 hown hK hP 0 rfl k_1 fv_1 dX9_keep_6 (q_ist hx hb hK hP hDa za_r_keep hS 3 2 rfl rfl (p1_in (i := 0) (n := 4) (by decide)) dX9_keep_9 (fun H2 lo2 g2 eg2 (hP2 : va_P (dC, dI) vwCl (zW_r_keep p0 f_p0 p0_bLong c_p0_bLong b_p0_bLong p0_bTight c_p0_bTight b_p0_bTight p0_boxMany c_p0_boxMany g2 p0_boxRow c_p0_boxRow b_p0_boxRow p0_boxTight c_p0_boxTight b_p0_boxTight) H2) hS2 => ?_))
    clear hP hS
    have hr_g2 := q_up' hr_p0_boxMany eg2 ⟨by omega, by omega⟩
    have hbm : 0 ≤ (g2 (0 : Int32).toNatClampNeg).toInt := by rw [eg2, pk_us]; omega
    refine lv_bipush (v := 12) hx hb dX9_keep_10 (by decide) (lv_iload_n hx hb dX9_keep_12 rfl (lv_at hl 1 rfl) (lv_imul hx hb dX9_keep_13 (lv_topi fun v_3 ev_3 => ?_)))
    obtain rfl : v_3 = 0 := ev_3.trans (by decide)
    refine lv_istore_n (lv' := [(2, .int 0), (0, .ref p0), (1, .int 0)]) hx hb dX9_keep_14 rfl hl (by decide) rfl (fun ls hl => ?_)
    refine lv_aload_n hx hb dX9_keep_15 rfl (lv_at hl 1 rfl) (qg_X9_79 hx hb hts i_X9 hown hK hP2 0 rfl k_2 fr_p0_79 dX9_keep_16 (lv_iload_n hx hb dX9_keep_19 rfl (lv_at hl 0 rfl) (lv_aload_n hx hb dX9_keep_20 rfl (lv_at hl 1 rfl) ?_)))
    obtain ⟨v_4, fv_4⟩ := OKX9_g51 ho_p0
    refine qg_X9_51 hx hb hts i_X9 hown hK hP2 0 rfl k_3 fv_4 dX9_keep_21 (q_ist hx hb hK hP2 hDa za_r_keep hS2 4 3 rfl rfl (p1_in (i := 0) (n := 48) (by decide)) dX9_keep_24 (fun H5 lo5 g5 eg5 (hP5 : va_P (dC, dI) vwCl (zW_r_keep p0 f_p0 p0_bLong c_p0_bLong b_p0_bLong p0_bTight c_p0_bTight b_p0_bTight p0_boxMany c_p0_boxMany g2 p0_boxRow c_p0_boxRow g5 p0_boxTight c_p0_boxTight b_p0_boxTight) H5) hS5 => ?_))
    clear hP2 hS2
    have hr_g5 := q_box_u (b := 0) (m := 0) hr_p0_boxRow (by decide) (by decide) eg5
    refine lv_aload_n hx hb dX9_keep_25 rfl (lv_at hl 1 rfl) (qg_X9_79 hx hb hts i_X9 hown hK hP5 0 rfl k_2 fr_p0_79 dX9_keep_26 (lv_iload_n hx hb dX9_keep_29 rfl (lv_at hl 0 rfl) (lv_iconst (v := 1) hx hb dX9_keep_30 (by decide) (lv_iadd hx hb dX9_keep_31 (lv_topi fun v_6 ev_6 => ?_)))))
    obtain rfl : v_6 = 1 := ev_6.trans (by decide)
    refine lv_aload_n hx hb dX9_keep_32 rfl (lv_at hl 1 rfl) ?_
    obtain ⟨v_7, fv_7, tv_7⟩ := OKX9_g53 ho_p0
    refine qg_X9_53 hx hb hts i_X9 hown hK hP5 0 rfl k_4 fv_7 dX9_keep_33 (q_ist hx hb hK hP5 hDa za_r_keep hS5 4 3 rfl rfl (p1_in (i := 1) (n := 48) (by decide)) dX9_keep_36 (fun H8 lo8 g8 eg8 (hP8 : va_P (dC, dI) vwCl (zW_r_keep p0 f_p0 p0_bLong c_p0_bLong b_p0_bLong p0_bTight c_p0_bTight b_p0_bTight p0_boxMany c_p0_boxMany g2 p0_boxRow c_p0_boxRow g8 p0_boxTight c_p0_boxTight b_p0_boxTight) H8) hS8 => ?_))
    clear hP5 hS5
    have hr_g8 := q_box_u1 (b := 0) hr_g5 (by decide) eg8 ⟨by omega, by omega⟩
    refine lv_aload_n hx hb dX9_keep_37 rfl (lv_at hl 1 rfl) (qg_X9_79 hx hb hts i_X9 hown hK hP8 0 rfl k_2 fr_p0_79 dX9_keep_38 (lv_iload_n hx hb dX9_keep_41 rfl (lv_at hl 0 rfl) (lv_iconst (v := 2) hx hb dX9_keep_42 (by decide) (lv_iadd hx hb dX9_keep_43 (lv_topi fun v_9 ev_9 => ?_)))))
    obtain rfl : v_9 = 2 := ev_9.trans (by decide)
    refine lv_aload_n hx hb dX9_keep_44 rfl (lv_at hl 1 rfl) ?_
    obtain ⟨v_10, fv_10⟩ := OKX9_g54 ho_p0
    refine qg_X9_54 hx hb hts i_X9 hown hK hP8 0 rfl k_5 fv_10 dX9_keep_45 (q_ist hx hb hK hP8 hDa za_r_keep hS8 4 3 rfl rfl (p1_in (i := 2) (n := 48) (by decide)) dX9_keep_48 (fun H11 lo11 g11 eg11 (hP11 : va_P (dC, dI) vwCl (zW_r_keep p0 f_p0 p0_bLong c_p0_bLong b_p0_bLong p0_bTight c_p0_bTight b_p0_bTight p0_boxMany c_p0_boxMany g2 p0_boxRow c_p0_boxRow g11 p0_boxTight c_p0_boxTight b_p0_boxTight) H11) hS11 => ?_))
    clear hP8 hS8
    have hr_g11 := q_box_u (b := 0) (m := 2) hr_g8 (by decide) (by decide) eg11
    refine lv_aload_n hx hb dX9_keep_49 rfl (lv_at hl 1 rfl) (qg_X9_79 hx hb hts i_X9 hown hK hP11 0 rfl k_2 fr_p0_79 dX9_keep_50 (lv_iload_n hx hb dX9_keep_53 rfl (lv_at hl 0 rfl) (lv_iconst (v := 3) hx hb dX9_keep_54 (by decide) (lv_iadd hx hb dX9_keep_55 (lv_topi fun v_12 ev_12 => ?_)))))
    obtain rfl : v_12 = 3 := ev_12.trans (by decide)
    refine lv_aload_n hx hb dX9_keep_56 rfl (lv_at hl 1 rfl) ?_
    obtain ⟨v_13, fv_13⟩ := OKX9_g55 ho_p0
    refine qg_X9_55 hx hb hts i_X9 hown hK hP11 0 rfl k_6 fv_13 dX9_keep_57 (q_ist hx hb hK hP11 hDa za_r_keep hS11 4 3 rfl rfl (p1_in (i := 3) (n := 48) (by decide)) dX9_keep_60 (fun H14 lo14 g14 eg14 (hP14 : va_P (dC, dI) vwCl (zW_r_keep p0 f_p0 p0_bLong c_p0_bLong b_p0_bLong p0_bTight c_p0_bTight b_p0_bTight p0_boxMany c_p0_boxMany g2 p0_boxRow c_p0_boxRow g14 p0_boxTight c_p0_boxTight b_p0_boxTight) H14) hS14 => ?_))
    clear hP11 hS11
    have hr_g14 := q_box_u (b := 0) (m := 3) hr_g11 (by decide) (by decide) eg14
    refine lv_aload_n hx hb dX9_keep_61 rfl (lv_at hl 1 rfl) (qg_X9_79 hx hb hts i_X9 hown hK hP14 0 rfl k_2 fr_p0_79 dX9_keep_62 (lv_iload_n hx hb dX9_keep_65 rfl (lv_at hl 0 rfl) (lv_iconst (v := 4) hx hb dX9_keep_66 (by decide) (lv_iadd hx hb dX9_keep_67 (lv_topi fun v_15 ev_15 => ?_)))))
    obtain rfl : v_15 = 4 := ev_15.trans (by decide)
    refine lv_aload_n hx hb dX9_keep_68 rfl (lv_at hl 1 rfl) (qg_X9_50 hx hb hts i_X9 hown hK hP14 0 rfl k_7 fr_p0_50 dX9_keep_69 (lv_iconst (v := 0) hx hb dX9_keep_72 (by decide) (q_ild hx hb hK hP14 1 0 rfl rfl (p1_in (i := 0) (n := 2) (by decide)) dX9_keep_73 (fun v_16 ev_16 => ?_))))
    refine q_ist hx hb hK hP14 hDa za_r_keep hS14 4 3 rfl rfl (p1_in (i := 4) (n := 48) (by decide)) dX9_keep_74 (fun H17 lo17 g17 eg17 (hP17 : va_P (dC, dI) vwCl (zW_r_keep p0 f_p0 p0_bLong c_p0_bLong b_p0_bLong p0_bTight c_p0_bTight b_p0_bTight p0_boxMany c_p0_boxMany g2 p0_boxRow c_p0_boxRow g17 p0_boxTight c_p0_boxTight b_p0_boxTight) H17) hS17 => ?_)
    clear hP14 hS14
    have hr_g17 := q_box_u (b := 0) (m := 4) hr_g14 (by decide) (by decide) eg17
    refine lv_aload_n hx hb dX9_keep_75 rfl (lv_at hl 1 rfl) (qg_X9_79 hx hb hts i_X9 hown hK hP17 0 rfl k_2 fr_p0_79 dX9_keep_76 (lv_iload_n hx hb dX9_keep_79 rfl (lv_at hl 0 rfl) (lv_iconst (v := 5) hx hb dX9_keep_80 (by decide) (lv_iadd hx hb dX9_keep_81 (lv_topi fun v_18 ev_18 => ?_)))))
    obtain rfl : v_18 = 5 := ev_18.trans (by decide)
    refine lv_aload_n hx hb dX9_keep_82 rfl (lv_at hl 1 rfl) (qg_X9_50 hx hb hts i_X9 hown hK hP17 0 rfl k_7 fr_p0_50 dX9_keep_83 (lv_iconst (v := 1) hx hb dX9_keep_86 (by decide) (q_ild hx hb hK hP17 1 0 rfl rfl (p1_in (i := 1) (n := 2) (by decide)) dX9_keep_87 (fun v_19 ev_19 => ?_))))
    refine q_ist hx hb hK hP17 hDa za_r_keep hS17 4 3 rfl rfl (p1_in (i := 5) (n := 48) (by decide)) dX9_keep_88 (fun H20 lo20 g20 eg20 (hP20 : va_P (dC, dI) vwCl (zW_r_keep p0 f_p0 p0_bLong c_p0_bLong b_p0_bLong p0_bTight c_p0_bTight b_p0_bTight p0_boxMany c_p0_boxMany g2 p0_boxRow c_p0_boxRow g20 p0_boxTight c_p0_boxTight b_p0_boxTight) H20) hS20 => ?_)
    clear hP17 hS17
    have hr_g20 := q_box_u (b := 0) (m := 5) hr_g17 (by decide) (by decide) eg20
    refine lv_aload_n hx hb dX9_keep_89 rfl (lv_at hl 1 rfl) (qg_X9_79 hx hb hts i_X9 hown hK hP20 0 rfl k_2 fr_p0_79 dX9_keep_90 (lv_iload_n hx hb dX9_keep_93 rfl (lv_at hl 0 rfl) (lv_bipush (v := 6) hx hb dX9_keep_94 (by decide) (lv_iadd hx hb dX9_keep_96 (lv_topi fun v_21 ev_21 => ?_)))))
    obtain rfl : v_21 = 6 := ev_21.trans (by decide)
    refine lv_aload_n hx hb dX9_keep_97 rfl (lv_at hl 1 rfl) ?_
    obtain ⟨v_22, fv_22⟩ := OKX9_g61 ho_p0
    refine qg_X9_61 hx hb hts i_X9 hown hK hP20 0 rfl k_8 fv_22 dX9_keep_98 (q_ist hx hb hK hP20 hDa za_r_keep hS20 4 3 rfl rfl (p1_in (i := 6) (n := 48) (by decide)) dX9_keep_101 (fun H23 lo23 g23 eg23 (hP23 : va_P (dC, dI) vwCl (zW_r_keep p0 f_p0 p0_bLong c_p0_bLong b_p0_bLong p0_bTight c_p0_bTight b_p0_bTight p0_boxMany c_p0_boxMany g2 p0_boxRow c_p0_boxRow g23 p0_boxTight c_p0_boxTight b_p0_boxTight) H23) hS23 => ?_))
    clear hP20 hS20
    have hr_g23 := q_box_u (b := 0) (m := 6) hr_g20 (by decide) (by decide) eg23
    refine lv_aload_n hx hb dX9_keep_102 rfl (lv_at hl 1 rfl) (qg_X9_79 hx hb hts i_X9 hown hK hP23 0 rfl k_2 fr_p0_79 dX9_keep_103 (lv_iload_n hx hb dX9_keep_106 rfl (lv_at hl 0 rfl) (lv_bipush (v := 7) hx hb dX9_keep_107 (by decide) (lv_iadd hx hb dX9_keep_109 (lv_topi fun v_24 ev_24 => ?_)))))
    obtain rfl : v_24 = 7 := ev_24.trans (by decide)
    refine lv_aload_n hx hb dX9_keep_110 rfl (lv_at hl 1 rfl) ?_
    obtain ⟨v_25, v_26, fv_25, fv_26, tv_25⟩ := OKX9_g62 ho_p0
    refine qg_X9_62 hx hb hts i_X9 hown hK hP23 0 rfl k_9 fv_25 dX9_keep_111 (q_ist hx hb hK hP23 hDa za_r_keep hS23 4 3 rfl rfl (p1_in (i := 7) (n := 48) (by decide)) dX9_keep_114 (fun H27 lo27 g27 eg27 (hP27 : va_P (dC, dI) vwCl (zW_r_keep p0 f_p0 p0_bLong c_p0_bLong b_p0_bLong p0_bTight c_p0_bTight b_p0_bTight p0_boxMany c_p0_boxMany g2 p0_boxRow c_p0_boxRow g27 p0_boxTight c_p0_boxTight b_p0_boxTight) H27) hS27 => ?_))
    clear hP23 hS23
    refine lv_aload_n hx hb dX9_keep_115 rfl (lv_at hl 1 rfl) (qg_X9_79 hx hb hts i_X9 hown hK hP27 0 rfl k_2 fr_p0_79 dX9_keep_116 (lv_iload_n hx hb dX9_keep_119 rfl (lv_at hl 0 rfl) (lv_bipush (v := 8) hx hb dX9_keep_120 (by decide) (lv_iadd hx hb dX9_keep_122 (lv_topi fun v_28 ev_28 => ?_)))))
    obtain rfl : v_28 = 8 := ev_28.trans (by decide)
    refine lv_aload_n hx hb dX9_keep_123 rfl (lv_at hl 1 rfl) (qg_X9_63 hx hb hts i_X9 hown hK hP27 0 rfl k_10 fv_26 dX9_keep_124 (q_ist hx hb hK hP27 hDa za_r_keep hS27 4 3 rfl rfl (p1_in (i := 8) (n := 48) (by decide)) dX9_keep_127 (fun H29 lo29 g29 eg29 (hP29 : va_P (dC, dI) vwCl (zW_r_keep p0 f_p0 p0_bLong c_p0_bLong b_p0_bLong p0_bTight c_p0_bTight b_p0_bTight p0_boxMany c_p0_boxMany g2 p0_boxRow c_p0_boxRow g29 p0_boxTight c_p0_boxTight b_p0_boxTight) H29) hS29 => ?_)))
    clear hP27 hS27
    have hr_g29 := q_box_u78 (b := 0) hr_g23 (by decide) eg27 eg29 ⟨by omega, by omega, by omega⟩
    refine lv_aload_n hx hb dX9_keep_128 rfl (lv_at hl 1 rfl) (qg_X9_79 hx hb hts i_X9 hown hK hP29 0 rfl k_2 fr_p0_79 dX9_keep_129 (lv_iload_n hx hb dX9_keep_132 rfl (lv_at hl 0 rfl) (lv_bipush (v := 9) hx hb dX9_keep_133 (by decide) (lv_iadd hx hb dX9_keep_135 (lv_topi fun v_30 ev_30 => ?_)))))
    obtain rfl : v_30 = 9 := ev_30.trans (by decide)
    refine lv_aload_n hx hb dX9_keep_136 rfl (lv_at hl 1 rfl) ?_
    obtain ⟨v_31, fv_31⟩ := OKX9_g64 ho_p0
    refine qg_X9_64 hx hb hts i_X9 hown hK hP29 0 rfl k_11 fv_31 dX9_keep_137 (q_ist hx hb hK hP29 hDa za_r_keep hS29 4 3 rfl rfl (p1_in (i := 9) (n := 48) (by decide)) dX9_keep_140 (fun H32 lo32 g32 eg32 (hP32 : va_P (dC, dI) vwCl (zW_r_keep p0 f_p0 p0_bLong c_p0_bLong b_p0_bLong p0_bTight c_p0_bTight b_p0_bTight p0_boxMany c_p0_boxMany g2 p0_boxRow c_p0_boxRow g32 p0_boxTight c_p0_boxTight b_p0_boxTight) H32) hS32 => ?_))
    clear hP29 hS29
    have hr_g32 := q_box_u (b := 0) (m := 9) hr_g29 (by decide) (by decide) eg32
    refine lv_aload_n hx hb dX9_keep_141 rfl (lv_at hl 1 rfl) (qg_X9_79 hx hb hts i_X9 hown hK hP32 0 rfl k_2 fr_p0_79 dX9_keep_142 (lv_iload_n hx hb dX9_keep_145 rfl (lv_at hl 0 rfl) (lv_bipush (v := 10) hx hb dX9_keep_146 (by decide) (lv_iadd hx hb dX9_keep_148 (lv_topi fun v_33 ev_33 => ?_)))))
    obtain rfl : v_33 = 10 := ev_33.trans (by decide)
    refine lv_aload_n hx hb dX9_keep_149 rfl (lv_at hl 1 rfl) ?_
    obtain ⟨v_34, fv_34⟩ := OKX9_g65 ho_p0
    refine qg_X9_65 hx hb hts i_X9 hown hK hP32 0 rfl k_12 fv_34 dX9_keep_150 (q_ist hx hb hK hP32 hDa za_r_keep hS32 4 3 rfl rfl (p1_in (i := 10) (n := 48) (by decide)) dX9_keep_153 (fun H35 lo35 g35 eg35 (hP35 : va_P (dC, dI) vwCl (zW_r_keep p0 f_p0 p0_bLong c_p0_bLong b_p0_bLong p0_bTight c_p0_bTight b_p0_bTight p0_boxMany c_p0_boxMany g2 p0_boxRow c_p0_boxRow g35 p0_boxTight c_p0_boxTight b_p0_boxTight) H35) hS35 => ?_))
    clear hP32 hS32
    have hr_g35 := q_box_u (b := 0) (m := 10) hr_g32 (by decide) (by decide) eg35
    refine lv_iconst (v := 0) hx hb dX9_keep_154 (by decide) (lv_istore_n (lv' := [(3, .int 0), (2, .int 0), (0, .ref p0), (1, .int 0)]) hx hb dX9_keep_155 rfl hl (by decide) rfl (fun ls hl => ?_))
    have key156 : ∀ (fu156 : Nat) (i : Int32) (bz_p0_boxTight : Nat → Int32) (H : Heap) (locs : List Loc) (ls : Array Slot) (hfu156 : 12 - i.toInt ≤ (fu156 : Int)) (ti : (0) ≤ i.toInt ∧ i.toInt ≤ 12), va_P (dC, dI) vwCl (zW_r_keep p0 f_p0 p0_bLong c_p0_bLong b_p0_bLong p0_bTight c_p0_bTight b_p0_bTight p0_boxMany c_p0_boxMany g2 p0_boxRow c_p0_boxRow g35 p0_boxTight c_p0_boxTight bz_p0_boxTight) H → va_S A s.heap H locs → lv_has ls 4 [(3, .int i), (2, .int 0), (0, .ref p0), (1, .int 0)] → W p l e (headSpec zw_r_keep { frames := 0, cells := 0, slots := 0, locals := 0 }).room s m ([.ref p0, .int 0] : List Value).toArray below meth c H locs 0 0 (MQ below (q_Qv (dC, dI) (zG_r_keep p0 f_p0 p0_bLong c_p0_bLong b_p0_bLong p0_bTight c_p0_bTight b_p0_bTight p0_boxMany c_p0_boxMany b_p0_boxMany p0_boxRow c_p0_boxRow b_p0_boxRow p0_boxTight c_p0_boxTight b_p0_boxTight 0) (zA_r_keep p0 p0_bLong p0_bTight p0_boxMany p0_boxRow p0_boxTight) A) ([.ref p0, .int 0] : List Value).toArray s 0 0 A) (F0 m 156 ls []) := by
      intro fu156
      induction fu156 using Nat.strongRecOn with
      | ind fu156 ih156 =>
        intro i bz_p0_boxTight H36 lo36 ls hfu156 ti hP36 hS36 hl
        refine lv_iload_n hx hb dX9_keep_156 rfl (lv_at hl 0 rfl) (lv_bipush (v := 12) hx hb dX9_keep_157 (by decide) ?_)
        refine lv_icmp_ge (tgt := 182) hx hb dX9_keep_159 (by decide) (fun c_37 => ?_) (fun c_37 => ?_)
        · have tc_37 := q_ge c_37
          exact q_vret hx hb hr hlocks hS36 dX9_keep_182 ⟨g2, g35, bz_p0_boxTight, hr_g2, hr_g35, hbm, hP36, za_r_keep⟩
        · have tc_37 := q_ltN c_37
          refine lv_aload_n hx hb dX9_keep_162 rfl (lv_at hl 2 rfl) (qg_X9_80 hx hb hts i_X9 hown hK hP36 0 rfl k_13 fr_p0_80 dX9_keep_163 (lv_iload_n hx hb dX9_keep_166 rfl (lv_at hl 1 rfl) (lv_iload_n hx hb dX9_keep_167 rfl (lv_at hl 0 rfl) (lv_iadd hx hb dX9_keep_168 (lv_topi fun v_38 ev_38 => ?_)))))
          have tv_38 := q_add ev_38 (by omega) (by omega)
          refine lv_aload_n hx hb dX9_keep_169 rfl (lv_at hl 2 rfl) (qg_X9_49 hx hb hts i_X9 hown hK hP36 0 rfl k_14 fr_p0_49 dX9_keep_170 (lv_iload_n hx hb dX9_keep_173 rfl (lv_at hl 0 rfl) (q_ild hx hb hK hP36 2 1 rfl rfl (q_in (by omega) (by omega)) dX9_keep_174 (fun v_39 ev_39 => ?_))))
          refine q_ist hx hb hK hP36 hDa za_r_keep hS36 5 4 rfl rfl (q_in (by omega) (by omega)) dX9_keep_175 (fun H40 lo40 g40 eg40 (hP40 : va_P (dC, dI) vwCl (zW_r_keep p0 f_p0 p0_bLong c_p0_bLong b_p0_bLong p0_bTight c_p0_bTight b_p0_bTight p0_boxMany c_p0_boxMany g2 p0_boxRow c_p0_boxRow g35 p0_boxTight c_p0_boxTight g40) H40) hS40 => ?_)
          clear hP36 hS36
          obtain ⟨v_41, ev_41⟩ : ∃ y : Int32, y = i + 1 := ⟨_, rfl⟩
          have tv_41 := q_add ev_41 (by omega) (by omega)
          refine lv_iinc (v := v_41) (lv' := [(3, .int v_41), (2, .int 0), (0, .ref p0), (1, .int 0)]) hx hb dX9_keep_176 hl (k := 0) rfl (by rw [ev_41]; rfl) (by decide) rfl (fun ls hl => ?_)
          refine lv_goto (tgt := 156) hx hb dX9_keep_179 (by decide) ?_
          exact ih156 (fu156 - 1) (by omega) v_41 g40 _ _ _ (by omega) (by omega) hP40 hS40 (lv_sub hl [0, 1, 2, 3] rfl)
    exact key156 12 0 b_p0_boxTight _ _ _ (by omega) (by omega) hP35 hS35 (lv_sub hl [0, 1, 2, 3] rfl)
  · refine lv_aload_n hx hb dX9_keep_0 rfl (lv_at hl 0 rfl) (qg_X9_78 hx hb hts i_X9 hown hK hP 0 rfl k_0 fr_p0_78 dX9_keep_1 (lv_iload_n hx hb dX9_keep_4 rfl (lv_at hl 1 rfl) (lv_aload_n hx hb dX9_keep_5 rfl (lv_at hl 0 rfl) ?_)))
    obtain ⟨v_42, fv_42, tv_42⟩ := OKX9_g52 ho_p0
    refine qg_X9_52 hx hb hts i_X9 hown hK hP 0 rfl k_1 fv_42 dX9_keep_6 (q_ist hx hb hK hP hDa za_r_keep hS 3 2 rfl rfl (p1_in (i := 1) (n := 4) (by decide)) dX9_keep_9 (fun H43 lo43 g43 eg43 (hP43 : va_P (dC, dI) vwCl (zW_r_keep p0 f_p0 p0_bLong c_p0_bLong b_p0_bLong p0_bTight c_p0_bTight b_p0_bTight p0_boxMany c_p0_boxMany g43 p0_boxRow c_p0_boxRow b_p0_boxRow p0_boxTight c_p0_boxTight b_p0_boxTight) H43) hS43 => ?_))
    clear hP hS
    have hr_g43 := q_up' hr_p0_boxMany eg43 ⟨by omega, by omega⟩
    have hbm : 0 ≤ (g43 (1 : Int32).toNatClampNeg).toInt := by rw [eg43, pk_us]; omega
    refine lv_bipush (v := 12) hx hb dX9_keep_10 (by decide) (lv_iload_n hx hb dX9_keep_12 rfl (lv_at hl 1 rfl) (lv_imul hx hb dX9_keep_13 (lv_topi fun v_44 ev_44 => ?_)))
    obtain rfl : v_44 = 12 := ev_44.trans (by decide)
    refine lv_istore_n (lv' := [(2, .int 12), (0, .ref p0), (1, .int 1)]) hx hb dX9_keep_14 rfl hl (by decide) rfl (fun ls hl => ?_)
    refine lv_aload_n hx hb dX9_keep_15 rfl (lv_at hl 1 rfl) (qg_X9_79 hx hb hts i_X9 hown hK hP43 0 rfl k_2 fr_p0_79 dX9_keep_16 (lv_iload_n hx hb dX9_keep_19 rfl (lv_at hl 0 rfl) (lv_aload_n hx hb dX9_keep_20 rfl (lv_at hl 1 rfl) ?_)))
    obtain ⟨v_45, fv_45⟩ := OKX9_g51 ho_p0
    refine qg_X9_51 hx hb hts i_X9 hown hK hP43 0 rfl k_3 fv_45 dX9_keep_21 (q_ist hx hb hK hP43 hDa za_r_keep hS43 4 3 rfl rfl (p1_in (i := 12) (n := 48) (by decide)) dX9_keep_24 (fun H46 lo46 g46 eg46 (hP46 : va_P (dC, dI) vwCl (zW_r_keep p0 f_p0 p0_bLong c_p0_bLong b_p0_bLong p0_bTight c_p0_bTight b_p0_bTight p0_boxMany c_p0_boxMany g43 p0_boxRow c_p0_boxRow g46 p0_boxTight c_p0_boxTight b_p0_boxTight) H46) hS46 => ?_))
    clear hP43 hS43
    have hr_g46 := q_box_u (b := 1) (m := 0) hr_p0_boxRow (by decide) (by decide) eg46
    refine lv_aload_n hx hb dX9_keep_25 rfl (lv_at hl 1 rfl) (qg_X9_79 hx hb hts i_X9 hown hK hP46 0 rfl k_2 fr_p0_79 dX9_keep_26 (lv_iload_n hx hb dX9_keep_29 rfl (lv_at hl 0 rfl) (lv_iconst (v := 1) hx hb dX9_keep_30 (by decide) (lv_iadd hx hb dX9_keep_31 (lv_topi fun v_47 ev_47 => ?_)))))
    obtain rfl : v_47 = 13 := ev_47.trans (by decide)
    refine lv_aload_n hx hb dX9_keep_32 rfl (lv_at hl 1 rfl) ?_
    obtain ⟨v_48, fv_48, tv_48⟩ := OKX9_g53 ho_p0
    refine qg_X9_53 hx hb hts i_X9 hown hK hP46 0 rfl k_4 fv_48 dX9_keep_33 (q_ist hx hb hK hP46 hDa za_r_keep hS46 4 3 rfl rfl (p1_in (i := 13) (n := 48) (by decide)) dX9_keep_36 (fun H49 lo49 g49 eg49 (hP49 : va_P (dC, dI) vwCl (zW_r_keep p0 f_p0 p0_bLong c_p0_bLong b_p0_bLong p0_bTight c_p0_bTight b_p0_bTight p0_boxMany c_p0_boxMany g43 p0_boxRow c_p0_boxRow g49 p0_boxTight c_p0_boxTight b_p0_boxTight) H49) hS49 => ?_))
    clear hP46 hS46
    have hr_g49 := q_box_u1 (b := 1) hr_g46 (by decide) eg49 ⟨by omega, by omega⟩
    refine lv_aload_n hx hb dX9_keep_37 rfl (lv_at hl 1 rfl) (qg_X9_79 hx hb hts i_X9 hown hK hP49 0 rfl k_2 fr_p0_79 dX9_keep_38 (lv_iload_n hx hb dX9_keep_41 rfl (lv_at hl 0 rfl) (lv_iconst (v := 2) hx hb dX9_keep_42 (by decide) (lv_iadd hx hb dX9_keep_43 (lv_topi fun v_50 ev_50 => ?_)))))
    obtain rfl : v_50 = 14 := ev_50.trans (by decide)
    refine lv_aload_n hx hb dX9_keep_44 rfl (lv_at hl 1 rfl) ?_
    obtain ⟨v_51, fv_51⟩ := OKX9_g54 ho_p0
    refine qg_X9_54 hx hb hts i_X9 hown hK hP49 0 rfl k_5 fv_51 dX9_keep_45 (q_ist hx hb hK hP49 hDa za_r_keep hS49 4 3 rfl rfl (p1_in (i := 14) (n := 48) (by decide)) dX9_keep_48 (fun H52 lo52 g52 eg52 (hP52 : va_P (dC, dI) vwCl (zW_r_keep p0 f_p0 p0_bLong c_p0_bLong b_p0_bLong p0_bTight c_p0_bTight b_p0_bTight p0_boxMany c_p0_boxMany g43 p0_boxRow c_p0_boxRow g52 p0_boxTight c_p0_boxTight b_p0_boxTight) H52) hS52 => ?_))
    clear hP49 hS49
    have hr_g52 := q_box_u (b := 1) (m := 2) hr_g49 (by decide) (by decide) eg52
    refine lv_aload_n hx hb dX9_keep_49 rfl (lv_at hl 1 rfl) (qg_X9_79 hx hb hts i_X9 hown hK hP52 0 rfl k_2 fr_p0_79 dX9_keep_50 (lv_iload_n hx hb dX9_keep_53 rfl (lv_at hl 0 rfl) (lv_iconst (v := 3) hx hb dX9_keep_54 (by decide) (lv_iadd hx hb dX9_keep_55 (lv_topi fun v_53 ev_53 => ?_)))))
    obtain rfl : v_53 = 15 := ev_53.trans (by decide)
    refine lv_aload_n hx hb dX9_keep_56 rfl (lv_at hl 1 rfl) ?_
    obtain ⟨v_54, fv_54⟩ := OKX9_g55 ho_p0
    refine qg_X9_55 hx hb hts i_X9 hown hK hP52 0 rfl k_6 fv_54 dX9_keep_57 (q_ist hx hb hK hP52 hDa za_r_keep hS52 4 3 rfl rfl (p1_in (i := 15) (n := 48) (by decide)) dX9_keep_60 (fun H55 lo55 g55 eg55 (hP55 : va_P (dC, dI) vwCl (zW_r_keep p0 f_p0 p0_bLong c_p0_bLong b_p0_bLong p0_bTight c_p0_bTight b_p0_bTight p0_boxMany c_p0_boxMany g43 p0_boxRow c_p0_boxRow g55 p0_boxTight c_p0_boxTight b_p0_boxTight) H55) hS55 => ?_))
    clear hP52 hS52
    have hr_g55 := q_box_u (b := 1) (m := 3) hr_g52 (by decide) (by decide) eg55
    refine lv_aload_n hx hb dX9_keep_61 rfl (lv_at hl 1 rfl) (qg_X9_79 hx hb hts i_X9 hown hK hP55 0 rfl k_2 fr_p0_79 dX9_keep_62 (lv_iload_n hx hb dX9_keep_65 rfl (lv_at hl 0 rfl) (lv_iconst (v := 4) hx hb dX9_keep_66 (by decide) (lv_iadd hx hb dX9_keep_67 (lv_topi fun v_56 ev_56 => ?_)))))
    obtain rfl : v_56 = 16 := ev_56.trans (by decide)
    refine lv_aload_n hx hb dX9_keep_68 rfl (lv_at hl 1 rfl) (qg_X9_50 hx hb hts i_X9 hown hK hP55 0 rfl k_7 fr_p0_50 dX9_keep_69 (lv_iconst (v := 0) hx hb dX9_keep_72 (by decide) (q_ild hx hb hK hP55 1 0 rfl rfl (p1_in (i := 0) (n := 2) (by decide)) dX9_keep_73 (fun v_57 ev_57 => ?_))))
    refine q_ist hx hb hK hP55 hDa za_r_keep hS55 4 3 rfl rfl (p1_in (i := 16) (n := 48) (by decide)) dX9_keep_74 (fun H58 lo58 g58 eg58 (hP58 : va_P (dC, dI) vwCl (zW_r_keep p0 f_p0 p0_bLong c_p0_bLong b_p0_bLong p0_bTight c_p0_bTight b_p0_bTight p0_boxMany c_p0_boxMany g43 p0_boxRow c_p0_boxRow g58 p0_boxTight c_p0_boxTight b_p0_boxTight) H58) hS58 => ?_)
    clear hP55 hS55
    have hr_g58 := q_box_u (b := 1) (m := 4) hr_g55 (by decide) (by decide) eg58
    refine lv_aload_n hx hb dX9_keep_75 rfl (lv_at hl 1 rfl) (qg_X9_79 hx hb hts i_X9 hown hK hP58 0 rfl k_2 fr_p0_79 dX9_keep_76 (lv_iload_n hx hb dX9_keep_79 rfl (lv_at hl 0 rfl) (lv_iconst (v := 5) hx hb dX9_keep_80 (by decide) (lv_iadd hx hb dX9_keep_81 (lv_topi fun v_59 ev_59 => ?_)))))
    obtain rfl : v_59 = 17 := ev_59.trans (by decide)
    refine lv_aload_n hx hb dX9_keep_82 rfl (lv_at hl 1 rfl) (qg_X9_50 hx hb hts i_X9 hown hK hP58 0 rfl k_7 fr_p0_50 dX9_keep_83 (lv_iconst (v := 1) hx hb dX9_keep_86 (by decide) (q_ild hx hb hK hP58 1 0 rfl rfl (p1_in (i := 1) (n := 2) (by decide)) dX9_keep_87 (fun v_60 ev_60 => ?_))))
    refine q_ist hx hb hK hP58 hDa za_r_keep hS58 4 3 rfl rfl (p1_in (i := 17) (n := 48) (by decide)) dX9_keep_88 (fun H61 lo61 g61 eg61 (hP61 : va_P (dC, dI) vwCl (zW_r_keep p0 f_p0 p0_bLong c_p0_bLong b_p0_bLong p0_bTight c_p0_bTight b_p0_bTight p0_boxMany c_p0_boxMany g43 p0_boxRow c_p0_boxRow g61 p0_boxTight c_p0_boxTight b_p0_boxTight) H61) hS61 => ?_)
    clear hP58 hS58
    have hr_g61 := q_box_u (b := 1) (m := 5) hr_g58 (by decide) (by decide) eg61
    refine lv_aload_n hx hb dX9_keep_89 rfl (lv_at hl 1 rfl) (qg_X9_79 hx hb hts i_X9 hown hK hP61 0 rfl k_2 fr_p0_79 dX9_keep_90 (lv_iload_n hx hb dX9_keep_93 rfl (lv_at hl 0 rfl) (lv_bipush (v := 6) hx hb dX9_keep_94 (by decide) (lv_iadd hx hb dX9_keep_96 (lv_topi fun v_62 ev_62 => ?_)))))
    obtain rfl : v_62 = 18 := ev_62.trans (by decide)
    refine lv_aload_n hx hb dX9_keep_97 rfl (lv_at hl 1 rfl) ?_
    obtain ⟨v_63, fv_63⟩ := OKX9_g61 ho_p0
    refine qg_X9_61 hx hb hts i_X9 hown hK hP61 0 rfl k_8 fv_63 dX9_keep_98 (q_ist hx hb hK hP61 hDa za_r_keep hS61 4 3 rfl rfl (p1_in (i := 18) (n := 48) (by decide)) dX9_keep_101 (fun H64 lo64 g64 eg64 (hP64 : va_P (dC, dI) vwCl (zW_r_keep p0 f_p0 p0_bLong c_p0_bLong b_p0_bLong p0_bTight c_p0_bTight b_p0_bTight p0_boxMany c_p0_boxMany g43 p0_boxRow c_p0_boxRow g64 p0_boxTight c_p0_boxTight b_p0_boxTight) H64) hS64 => ?_))
    clear hP61 hS61
    have hr_g64 := q_box_u (b := 1) (m := 6) hr_g61 (by decide) (by decide) eg64
    refine lv_aload_n hx hb dX9_keep_102 rfl (lv_at hl 1 rfl) (qg_X9_79 hx hb hts i_X9 hown hK hP64 0 rfl k_2 fr_p0_79 dX9_keep_103 (lv_iload_n hx hb dX9_keep_106 rfl (lv_at hl 0 rfl) (lv_bipush (v := 7) hx hb dX9_keep_107 (by decide) (lv_iadd hx hb dX9_keep_109 (lv_topi fun v_65 ev_65 => ?_)))))
    obtain rfl : v_65 = 19 := ev_65.trans (by decide)
    refine lv_aload_n hx hb dX9_keep_110 rfl (lv_at hl 1 rfl) ?_
    obtain ⟨v_66, v_67, fv_66, fv_67, tv_66⟩ := OKX9_g62 ho_p0
    refine qg_X9_62 hx hb hts i_X9 hown hK hP64 0 rfl k_9 fv_66 dX9_keep_111 (q_ist hx hb hK hP64 hDa za_r_keep hS64 4 3 rfl rfl (p1_in (i := 19) (n := 48) (by decide)) dX9_keep_114 (fun H68 lo68 g68 eg68 (hP68 : va_P (dC, dI) vwCl (zW_r_keep p0 f_p0 p0_bLong c_p0_bLong b_p0_bLong p0_bTight c_p0_bTight b_p0_bTight p0_boxMany c_p0_boxMany g43 p0_boxRow c_p0_boxRow g68 p0_boxTight c_p0_boxTight b_p0_boxTight) H68) hS68 => ?_))
    clear hP64 hS64
    refine lv_aload_n hx hb dX9_keep_115 rfl (lv_at hl 1 rfl) (qg_X9_79 hx hb hts i_X9 hown hK hP68 0 rfl k_2 fr_p0_79 dX9_keep_116 (lv_iload_n hx hb dX9_keep_119 rfl (lv_at hl 0 rfl) (lv_bipush (v := 8) hx hb dX9_keep_120 (by decide) (lv_iadd hx hb dX9_keep_122 (lv_topi fun v_69 ev_69 => ?_)))))
    obtain rfl : v_69 = 20 := ev_69.trans (by decide)
    refine lv_aload_n hx hb dX9_keep_123 rfl (lv_at hl 1 rfl) (qg_X9_63 hx hb hts i_X9 hown hK hP68 0 rfl k_10 fv_67 dX9_keep_124 (q_ist hx hb hK hP68 hDa za_r_keep hS68 4 3 rfl rfl (p1_in (i := 20) (n := 48) (by decide)) dX9_keep_127 (fun H70 lo70 g70 eg70 (hP70 : va_P (dC, dI) vwCl (zW_r_keep p0 f_p0 p0_bLong c_p0_bLong b_p0_bLong p0_bTight c_p0_bTight b_p0_bTight p0_boxMany c_p0_boxMany g43 p0_boxRow c_p0_boxRow g70 p0_boxTight c_p0_boxTight b_p0_boxTight) H70) hS70 => ?_)))
    clear hP68 hS68
    have hr_g70 := q_box_u78 (b := 1) hr_g64 (by decide) eg68 eg70 ⟨by omega, by omega, by omega⟩
    refine lv_aload_n hx hb dX9_keep_128 rfl (lv_at hl 1 rfl) (qg_X9_79 hx hb hts i_X9 hown hK hP70 0 rfl k_2 fr_p0_79 dX9_keep_129 (lv_iload_n hx hb dX9_keep_132 rfl (lv_at hl 0 rfl) (lv_bipush (v := 9) hx hb dX9_keep_133 (by decide) (lv_iadd hx hb dX9_keep_135 (lv_topi fun v_71 ev_71 => ?_)))))
    obtain rfl : v_71 = 21 := ev_71.trans (by decide)
    refine lv_aload_n hx hb dX9_keep_136 rfl (lv_at hl 1 rfl) ?_
    obtain ⟨v_72, fv_72⟩ := OKX9_g64 ho_p0
    refine qg_X9_64 hx hb hts i_X9 hown hK hP70 0 rfl k_11 fv_72 dX9_keep_137 (q_ist hx hb hK hP70 hDa za_r_keep hS70 4 3 rfl rfl (p1_in (i := 21) (n := 48) (by decide)) dX9_keep_140 (fun H73 lo73 g73 eg73 (hP73 : va_P (dC, dI) vwCl (zW_r_keep p0 f_p0 p0_bLong c_p0_bLong b_p0_bLong p0_bTight c_p0_bTight b_p0_bTight p0_boxMany c_p0_boxMany g43 p0_boxRow c_p0_boxRow g73 p0_boxTight c_p0_boxTight b_p0_boxTight) H73) hS73 => ?_))
    clear hP70 hS70
    have hr_g73 := q_box_u (b := 1) (m := 9) hr_g70 (by decide) (by decide) eg73
    refine lv_aload_n hx hb dX9_keep_141 rfl (lv_at hl 1 rfl) (qg_X9_79 hx hb hts i_X9 hown hK hP73 0 rfl k_2 fr_p0_79 dX9_keep_142 (lv_iload_n hx hb dX9_keep_145 rfl (lv_at hl 0 rfl) (lv_bipush (v := 10) hx hb dX9_keep_146 (by decide) (lv_iadd hx hb dX9_keep_148 (lv_topi fun v_74 ev_74 => ?_)))))
    obtain rfl : v_74 = 22 := ev_74.trans (by decide)
    refine lv_aload_n hx hb dX9_keep_149 rfl (lv_at hl 1 rfl) ?_
    obtain ⟨v_75, fv_75⟩ := OKX9_g65 ho_p0
    refine qg_X9_65 hx hb hts i_X9 hown hK hP73 0 rfl k_12 fv_75 dX9_keep_150 (q_ist hx hb hK hP73 hDa za_r_keep hS73 4 3 rfl rfl (p1_in (i := 22) (n := 48) (by decide)) dX9_keep_153 (fun H76 lo76 g76 eg76 (hP76 : va_P (dC, dI) vwCl (zW_r_keep p0 f_p0 p0_bLong c_p0_bLong b_p0_bLong p0_bTight c_p0_bTight b_p0_bTight p0_boxMany c_p0_boxMany g43 p0_boxRow c_p0_boxRow g76 p0_boxTight c_p0_boxTight b_p0_boxTight) H76) hS76 => ?_))
    clear hP73 hS73
    have hr_g76 := q_box_u (b := 1) (m := 10) hr_g73 (by decide) (by decide) eg76
    refine lv_iconst (v := 0) hx hb dX9_keep_154 (by decide) (lv_istore_n (lv' := [(3, .int 0), (2, .int 12), (0, .ref p0), (1, .int 1)]) hx hb dX9_keep_155 rfl hl (by decide) rfl (fun ls hl => ?_))
    have key156 : ∀ (fu156 : Nat) (i : Int32) (bz_p0_boxTight : Nat → Int32) (H : Heap) (locs : List Loc) (ls : Array Slot) (hfu156 : 12 - i.toInt ≤ (fu156 : Int)) (ti : (0) ≤ i.toInt ∧ i.toInt ≤ 12), va_P (dC, dI) vwCl (zW_r_keep p0 f_p0 p0_bLong c_p0_bLong b_p0_bLong p0_bTight c_p0_bTight b_p0_bTight p0_boxMany c_p0_boxMany g43 p0_boxRow c_p0_boxRow g76 p0_boxTight c_p0_boxTight bz_p0_boxTight) H → va_S A s.heap H locs → lv_has ls 4 [(3, .int i), (2, .int 12), (0, .ref p0), (1, .int 1)] → W p l e (headSpec zw_r_keep { frames := 0, cells := 0, slots := 0, locals := 0 }).room s m ([.ref p0, .int 1] : List Value).toArray below meth c H locs 0 0 (MQ below (q_Qv (dC, dI) (zG_r_keep p0 f_p0 p0_bLong c_p0_bLong b_p0_bLong p0_bTight c_p0_bTight b_p0_bTight p0_boxMany c_p0_boxMany b_p0_boxMany p0_boxRow c_p0_boxRow b_p0_boxRow p0_boxTight c_p0_boxTight b_p0_boxTight 1) (zA_r_keep p0 p0_bLong p0_bTight p0_boxMany p0_boxRow p0_boxTight) A) ([.ref p0, .int 1] : List Value).toArray s 0 0 A) (F0 m 156 ls []) := by
      intro fu156
      induction fu156 using Nat.strongRecOn with
      | ind fu156 ih156 =>
        intro i bz_p0_boxTight H77 lo77 ls hfu156 ti hP77 hS77 hl
        refine lv_iload_n hx hb dX9_keep_156 rfl (lv_at hl 0 rfl) (lv_bipush (v := 12) hx hb dX9_keep_157 (by decide) ?_)
        refine lv_icmp_ge (tgt := 182) hx hb dX9_keep_159 (by decide) (fun c_78 => ?_) (fun c_78 => ?_)
        · have tc_78 := q_ge c_78
          exact q_vret hx hb hr hlocks hS77 dX9_keep_182 ⟨g43, g76, bz_p0_boxTight, hr_g43, hr_g76, hbm, hP77, za_r_keep⟩
        · have tc_78 := q_ltN c_78
          refine lv_aload_n hx hb dX9_keep_162 rfl (lv_at hl 2 rfl) (qg_X9_80 hx hb hts i_X9 hown hK hP77 0 rfl k_13 fr_p0_80 dX9_keep_163 (lv_iload_n hx hb dX9_keep_166 rfl (lv_at hl 1 rfl) (lv_iload_n hx hb dX9_keep_167 rfl (lv_at hl 0 rfl) (lv_iadd hx hb dX9_keep_168 (lv_topi fun v_79 ev_79 => ?_)))))
          have tv_79 := q_add ev_79 (by omega) (by omega)
          refine lv_aload_n hx hb dX9_keep_169 rfl (lv_at hl 2 rfl) (qg_X9_49 hx hb hts i_X9 hown hK hP77 0 rfl k_14 fr_p0_49 dX9_keep_170 (lv_iload_n hx hb dX9_keep_173 rfl (lv_at hl 0 rfl) (q_ild hx hb hK hP77 2 1 rfl rfl (q_in (by omega) (by omega)) dX9_keep_174 (fun v_80 ev_80 => ?_))))
          refine q_ist hx hb hK hP77 hDa za_r_keep hS77 5 4 rfl rfl (q_in (by omega) (by omega)) dX9_keep_175 (fun H81 lo81 g81 eg81 (hP81 : va_P (dC, dI) vwCl (zW_r_keep p0 f_p0 p0_bLong c_p0_bLong b_p0_bLong p0_bTight c_p0_bTight b_p0_bTight p0_boxMany c_p0_boxMany g43 p0_boxRow c_p0_boxRow g76 p0_boxTight c_p0_boxTight g81) H81) hS81 => ?_)
          clear hP77 hS77
          obtain ⟨v_82, ev_82⟩ : ∃ y : Int32, y = i + 1 := ⟨_, rfl⟩
          have tv_82 := q_add ev_82 (by omega) (by omega)
          refine lv_iinc (v := v_82) (lv' := [(3, .int v_82), (2, .int 12), (0, .ref p0), (1, .int 1)]) hx hb dX9_keep_176 hl (k := 0) rfl (by rw [ev_82]; rfl) (by decide) rfl (fun ls hl => ?_)
          refine lv_goto (tgt := 156) hx hb dX9_keep_179 (by decide) ?_
          exact ih156 (fu156 - 1) (by omega) v_82 g81 _ _ _ (by omega) (by omega) hP81 hS81 (lv_sub hl [0, 1, 2, 3] rfl)
    exact key156 12 0 b_p0_boxTight _ _ _ (by omega) (by omega) hP76 hS76 (lv_sub hl [0, 1, 2, 3] rfl)
  · refine lv_aload_n hx hb dX9_keep_0 rfl (lv_at hl 0 rfl) (qg_X9_78 hx hb hts i_X9 hown hK hP 0 rfl k_0 fr_p0_78 dX9_keep_1 (lv_iload_n hx hb dX9_keep_4 rfl (lv_at hl 1 rfl) (lv_aload_n hx hb dX9_keep_5 rfl (lv_at hl 0 rfl) ?_)))
    obtain ⟨v_83, fv_83, tv_83⟩ := OKX9_g52 ho_p0
    refine qg_X9_52 hx hb hts i_X9 hown hK hP 0 rfl k_1 fv_83 dX9_keep_6 (q_ist hx hb hK hP hDa za_r_keep hS 3 2 rfl rfl (p1_in (i := 2) (n := 4) (by decide)) dX9_keep_9 (fun H84 lo84 g84 eg84 (hP84 : va_P (dC, dI) vwCl (zW_r_keep p0 f_p0 p0_bLong c_p0_bLong b_p0_bLong p0_bTight c_p0_bTight b_p0_bTight p0_boxMany c_p0_boxMany g84 p0_boxRow c_p0_boxRow b_p0_boxRow p0_boxTight c_p0_boxTight b_p0_boxTight) H84) hS84 => ?_))
    clear hP hS
    have hr_g84 := q_up' hr_p0_boxMany eg84 ⟨by omega, by omega⟩
    have hbm : 0 ≤ (g84 (2 : Int32).toNatClampNeg).toInt := by rw [eg84, pk_us]; omega
    refine lv_bipush (v := 12) hx hb dX9_keep_10 (by decide) (lv_iload_n hx hb dX9_keep_12 rfl (lv_at hl 1 rfl) (lv_imul hx hb dX9_keep_13 (lv_topi fun v_85 ev_85 => ?_)))
    obtain rfl : v_85 = 24 := ev_85.trans (by decide)
    refine lv_istore_n (lv' := [(2, .int 24), (0, .ref p0), (1, .int 2)]) hx hb dX9_keep_14 rfl hl (by decide) rfl (fun ls hl => ?_)
    refine lv_aload_n hx hb dX9_keep_15 rfl (lv_at hl 1 rfl) (qg_X9_79 hx hb hts i_X9 hown hK hP84 0 rfl k_2 fr_p0_79 dX9_keep_16 (lv_iload_n hx hb dX9_keep_19 rfl (lv_at hl 0 rfl) (lv_aload_n hx hb dX9_keep_20 rfl (lv_at hl 1 rfl) ?_)))
    obtain ⟨v_86, fv_86⟩ := OKX9_g51 ho_p0
    refine qg_X9_51 hx hb hts i_X9 hown hK hP84 0 rfl k_3 fv_86 dX9_keep_21 (q_ist hx hb hK hP84 hDa za_r_keep hS84 4 3 rfl rfl (p1_in (i := 24) (n := 48) (by decide)) dX9_keep_24 (fun H87 lo87 g87 eg87 (hP87 : va_P (dC, dI) vwCl (zW_r_keep p0 f_p0 p0_bLong c_p0_bLong b_p0_bLong p0_bTight c_p0_bTight b_p0_bTight p0_boxMany c_p0_boxMany g84 p0_boxRow c_p0_boxRow g87 p0_boxTight c_p0_boxTight b_p0_boxTight) H87) hS87 => ?_))
    clear hP84 hS84
    have hr_g87 := q_box_u (b := 2) (m := 0) hr_p0_boxRow (by decide) (by decide) eg87
    refine lv_aload_n hx hb dX9_keep_25 rfl (lv_at hl 1 rfl) (qg_X9_79 hx hb hts i_X9 hown hK hP87 0 rfl k_2 fr_p0_79 dX9_keep_26 (lv_iload_n hx hb dX9_keep_29 rfl (lv_at hl 0 rfl) (lv_iconst (v := 1) hx hb dX9_keep_30 (by decide) (lv_iadd hx hb dX9_keep_31 (lv_topi fun v_88 ev_88 => ?_)))))
    obtain rfl : v_88 = 25 := ev_88.trans (by decide)
    refine lv_aload_n hx hb dX9_keep_32 rfl (lv_at hl 1 rfl) ?_
    obtain ⟨v_89, fv_89, tv_89⟩ := OKX9_g53 ho_p0
    refine qg_X9_53 hx hb hts i_X9 hown hK hP87 0 rfl k_4 fv_89 dX9_keep_33 (q_ist hx hb hK hP87 hDa za_r_keep hS87 4 3 rfl rfl (p1_in (i := 25) (n := 48) (by decide)) dX9_keep_36 (fun H90 lo90 g90 eg90 (hP90 : va_P (dC, dI) vwCl (zW_r_keep p0 f_p0 p0_bLong c_p0_bLong b_p0_bLong p0_bTight c_p0_bTight b_p0_bTight p0_boxMany c_p0_boxMany g84 p0_boxRow c_p0_boxRow g90 p0_boxTight c_p0_boxTight b_p0_boxTight) H90) hS90 => ?_))
    clear hP87 hS87
    have hr_g90 := q_box_u1 (b := 2) hr_g87 (by decide) eg90 ⟨by omega, by omega⟩
    refine lv_aload_n hx hb dX9_keep_37 rfl (lv_at hl 1 rfl) (qg_X9_79 hx hb hts i_X9 hown hK hP90 0 rfl k_2 fr_p0_79 dX9_keep_38 (lv_iload_n hx hb dX9_keep_41 rfl (lv_at hl 0 rfl) (lv_iconst (v := 2) hx hb dX9_keep_42 (by decide) (lv_iadd hx hb dX9_keep_43 (lv_topi fun v_91 ev_91 => ?_)))))
    obtain rfl : v_91 = 26 := ev_91.trans (by decide)
    refine lv_aload_n hx hb dX9_keep_44 rfl (lv_at hl 1 rfl) ?_
    obtain ⟨v_92, fv_92⟩ := OKX9_g54 ho_p0
    refine qg_X9_54 hx hb hts i_X9 hown hK hP90 0 rfl k_5 fv_92 dX9_keep_45 (q_ist hx hb hK hP90 hDa za_r_keep hS90 4 3 rfl rfl (p1_in (i := 26) (n := 48) (by decide)) dX9_keep_48 (fun H93 lo93 g93 eg93 (hP93 : va_P (dC, dI) vwCl (zW_r_keep p0 f_p0 p0_bLong c_p0_bLong b_p0_bLong p0_bTight c_p0_bTight b_p0_bTight p0_boxMany c_p0_boxMany g84 p0_boxRow c_p0_boxRow g93 p0_boxTight c_p0_boxTight b_p0_boxTight) H93) hS93 => ?_))
    clear hP90 hS90
    have hr_g93 := q_box_u (b := 2) (m := 2) hr_g90 (by decide) (by decide) eg93
    refine lv_aload_n hx hb dX9_keep_49 rfl (lv_at hl 1 rfl) (qg_X9_79 hx hb hts i_X9 hown hK hP93 0 rfl k_2 fr_p0_79 dX9_keep_50 (lv_iload_n hx hb dX9_keep_53 rfl (lv_at hl 0 rfl) (lv_iconst (v := 3) hx hb dX9_keep_54 (by decide) (lv_iadd hx hb dX9_keep_55 (lv_topi fun v_94 ev_94 => ?_)))))
    obtain rfl : v_94 = 27 := ev_94.trans (by decide)
    refine lv_aload_n hx hb dX9_keep_56 rfl (lv_at hl 1 rfl) ?_
    obtain ⟨v_95, fv_95⟩ := OKX9_g55 ho_p0
    refine qg_X9_55 hx hb hts i_X9 hown hK hP93 0 rfl k_6 fv_95 dX9_keep_57 (q_ist hx hb hK hP93 hDa za_r_keep hS93 4 3 rfl rfl (p1_in (i := 27) (n := 48) (by decide)) dX9_keep_60 (fun H96 lo96 g96 eg96 (hP96 : va_P (dC, dI) vwCl (zW_r_keep p0 f_p0 p0_bLong c_p0_bLong b_p0_bLong p0_bTight c_p0_bTight b_p0_bTight p0_boxMany c_p0_boxMany g84 p0_boxRow c_p0_boxRow g96 p0_boxTight c_p0_boxTight b_p0_boxTight) H96) hS96 => ?_))
    clear hP93 hS93
    have hr_g96 := q_box_u (b := 2) (m := 3) hr_g93 (by decide) (by decide) eg96
    refine lv_aload_n hx hb dX9_keep_61 rfl (lv_at hl 1 rfl) (qg_X9_79 hx hb hts i_X9 hown hK hP96 0 rfl k_2 fr_p0_79 dX9_keep_62 (lv_iload_n hx hb dX9_keep_65 rfl (lv_at hl 0 rfl) (lv_iconst (v := 4) hx hb dX9_keep_66 (by decide) (lv_iadd hx hb dX9_keep_67 (lv_topi fun v_97 ev_97 => ?_)))))
    obtain rfl : v_97 = 28 := ev_97.trans (by decide)
    refine lv_aload_n hx hb dX9_keep_68 rfl (lv_at hl 1 rfl) (qg_X9_50 hx hb hts i_X9 hown hK hP96 0 rfl k_7 fr_p0_50 dX9_keep_69 (lv_iconst (v := 0) hx hb dX9_keep_72 (by decide) (q_ild hx hb hK hP96 1 0 rfl rfl (p1_in (i := 0) (n := 2) (by decide)) dX9_keep_73 (fun v_98 ev_98 => ?_))))
    refine q_ist hx hb hK hP96 hDa za_r_keep hS96 4 3 rfl rfl (p1_in (i := 28) (n := 48) (by decide)) dX9_keep_74 (fun H99 lo99 g99 eg99 (hP99 : va_P (dC, dI) vwCl (zW_r_keep p0 f_p0 p0_bLong c_p0_bLong b_p0_bLong p0_bTight c_p0_bTight b_p0_bTight p0_boxMany c_p0_boxMany g84 p0_boxRow c_p0_boxRow g99 p0_boxTight c_p0_boxTight b_p0_boxTight) H99) hS99 => ?_)
    clear hP96 hS96
    have hr_g99 := q_box_u (b := 2) (m := 4) hr_g96 (by decide) (by decide) eg99
    refine lv_aload_n hx hb dX9_keep_75 rfl (lv_at hl 1 rfl) (qg_X9_79 hx hb hts i_X9 hown hK hP99 0 rfl k_2 fr_p0_79 dX9_keep_76 (lv_iload_n hx hb dX9_keep_79 rfl (lv_at hl 0 rfl) (lv_iconst (v := 5) hx hb dX9_keep_80 (by decide) (lv_iadd hx hb dX9_keep_81 (lv_topi fun v_100 ev_100 => ?_)))))
    obtain rfl : v_100 = 29 := ev_100.trans (by decide)
    refine lv_aload_n hx hb dX9_keep_82 rfl (lv_at hl 1 rfl) (qg_X9_50 hx hb hts i_X9 hown hK hP99 0 rfl k_7 fr_p0_50 dX9_keep_83 (lv_iconst (v := 1) hx hb dX9_keep_86 (by decide) (q_ild hx hb hK hP99 1 0 rfl rfl (p1_in (i := 1) (n := 2) (by decide)) dX9_keep_87 (fun v_101 ev_101 => ?_))))
    refine q_ist hx hb hK hP99 hDa za_r_keep hS99 4 3 rfl rfl (p1_in (i := 29) (n := 48) (by decide)) dX9_keep_88 (fun H102 lo102 g102 eg102 (hP102 : va_P (dC, dI) vwCl (zW_r_keep p0 f_p0 p0_bLong c_p0_bLong b_p0_bLong p0_bTight c_p0_bTight b_p0_bTight p0_boxMany c_p0_boxMany g84 p0_boxRow c_p0_boxRow g102 p0_boxTight c_p0_boxTight b_p0_boxTight) H102) hS102 => ?_)
    clear hP99 hS99
    have hr_g102 := q_box_u (b := 2) (m := 5) hr_g99 (by decide) (by decide) eg102
    refine lv_aload_n hx hb dX9_keep_89 rfl (lv_at hl 1 rfl) (qg_X9_79 hx hb hts i_X9 hown hK hP102 0 rfl k_2 fr_p0_79 dX9_keep_90 (lv_iload_n hx hb dX9_keep_93 rfl (lv_at hl 0 rfl) (lv_bipush (v := 6) hx hb dX9_keep_94 (by decide) (lv_iadd hx hb dX9_keep_96 (lv_topi fun v_103 ev_103 => ?_)))))
    obtain rfl : v_103 = 30 := ev_103.trans (by decide)
    refine lv_aload_n hx hb dX9_keep_97 rfl (lv_at hl 1 rfl) ?_
    obtain ⟨v_104, fv_104⟩ := OKX9_g61 ho_p0
    refine qg_X9_61 hx hb hts i_X9 hown hK hP102 0 rfl k_8 fv_104 dX9_keep_98 (q_ist hx hb hK hP102 hDa za_r_keep hS102 4 3 rfl rfl (p1_in (i := 30) (n := 48) (by decide)) dX9_keep_101 (fun H105 lo105 g105 eg105 (hP105 : va_P (dC, dI) vwCl (zW_r_keep p0 f_p0 p0_bLong c_p0_bLong b_p0_bLong p0_bTight c_p0_bTight b_p0_bTight p0_boxMany c_p0_boxMany g84 p0_boxRow c_p0_boxRow g105 p0_boxTight c_p0_boxTight b_p0_boxTight) H105) hS105 => ?_))
    clear hP102 hS102
    have hr_g105 := q_box_u (b := 2) (m := 6) hr_g102 (by decide) (by decide) eg105
    refine lv_aload_n hx hb dX9_keep_102 rfl (lv_at hl 1 rfl) (qg_X9_79 hx hb hts i_X9 hown hK hP105 0 rfl k_2 fr_p0_79 dX9_keep_103 (lv_iload_n hx hb dX9_keep_106 rfl (lv_at hl 0 rfl) (lv_bipush (v := 7) hx hb dX9_keep_107 (by decide) (lv_iadd hx hb dX9_keep_109 (lv_topi fun v_106 ev_106 => ?_)))))
    obtain rfl : v_106 = 31 := ev_106.trans (by decide)
    refine lv_aload_n hx hb dX9_keep_110 rfl (lv_at hl 1 rfl) ?_
    obtain ⟨v_107, v_108, fv_107, fv_108, tv_107⟩ := OKX9_g62 ho_p0
    refine qg_X9_62 hx hb hts i_X9 hown hK hP105 0 rfl k_9 fv_107 dX9_keep_111 (q_ist hx hb hK hP105 hDa za_r_keep hS105 4 3 rfl rfl (p1_in (i := 31) (n := 48) (by decide)) dX9_keep_114 (fun H109 lo109 g109 eg109 (hP109 : va_P (dC, dI) vwCl (zW_r_keep p0 f_p0 p0_bLong c_p0_bLong b_p0_bLong p0_bTight c_p0_bTight b_p0_bTight p0_boxMany c_p0_boxMany g84 p0_boxRow c_p0_boxRow g109 p0_boxTight c_p0_boxTight b_p0_boxTight) H109) hS109 => ?_))
    clear hP105 hS105
    refine lv_aload_n hx hb dX9_keep_115 rfl (lv_at hl 1 rfl) (qg_X9_79 hx hb hts i_X9 hown hK hP109 0 rfl k_2 fr_p0_79 dX9_keep_116 (lv_iload_n hx hb dX9_keep_119 rfl (lv_at hl 0 rfl) (lv_bipush (v := 8) hx hb dX9_keep_120 (by decide) (lv_iadd hx hb dX9_keep_122 (lv_topi fun v_110 ev_110 => ?_)))))
    obtain rfl : v_110 = 32 := ev_110.trans (by decide)
    refine lv_aload_n hx hb dX9_keep_123 rfl (lv_at hl 1 rfl) (qg_X9_63 hx hb hts i_X9 hown hK hP109 0 rfl k_10 fv_108 dX9_keep_124 (q_ist hx hb hK hP109 hDa za_r_keep hS109 4 3 rfl rfl (p1_in (i := 32) (n := 48) (by decide)) dX9_keep_127 (fun H111 lo111 g111 eg111 (hP111 : va_P (dC, dI) vwCl (zW_r_keep p0 f_p0 p0_bLong c_p0_bLong b_p0_bLong p0_bTight c_p0_bTight b_p0_bTight p0_boxMany c_p0_boxMany g84 p0_boxRow c_p0_boxRow g111 p0_boxTight c_p0_boxTight b_p0_boxTight) H111) hS111 => ?_)))
    clear hP109 hS109
    have hr_g111 := q_box_u78 (b := 2) hr_g105 (by decide) eg109 eg111 ⟨by omega, by omega, by omega⟩
    refine lv_aload_n hx hb dX9_keep_128 rfl (lv_at hl 1 rfl) (qg_X9_79 hx hb hts i_X9 hown hK hP111 0 rfl k_2 fr_p0_79 dX9_keep_129 (lv_iload_n hx hb dX9_keep_132 rfl (lv_at hl 0 rfl) (lv_bipush (v := 9) hx hb dX9_keep_133 (by decide) (lv_iadd hx hb dX9_keep_135 (lv_topi fun v_112 ev_112 => ?_)))))
    obtain rfl : v_112 = 33 := ev_112.trans (by decide)
    refine lv_aload_n hx hb dX9_keep_136 rfl (lv_at hl 1 rfl) ?_
    obtain ⟨v_113, fv_113⟩ := OKX9_g64 ho_p0
    refine qg_X9_64 hx hb hts i_X9 hown hK hP111 0 rfl k_11 fv_113 dX9_keep_137 (q_ist hx hb hK hP111 hDa za_r_keep hS111 4 3 rfl rfl (p1_in (i := 33) (n := 48) (by decide)) dX9_keep_140 (fun H114 lo114 g114 eg114 (hP114 : va_P (dC, dI) vwCl (zW_r_keep p0 f_p0 p0_bLong c_p0_bLong b_p0_bLong p0_bTight c_p0_bTight b_p0_bTight p0_boxMany c_p0_boxMany g84 p0_boxRow c_p0_boxRow g114 p0_boxTight c_p0_boxTight b_p0_boxTight) H114) hS114 => ?_))
    clear hP111 hS111
    have hr_g114 := q_box_u (b := 2) (m := 9) hr_g111 (by decide) (by decide) eg114
    refine lv_aload_n hx hb dX9_keep_141 rfl (lv_at hl 1 rfl) (qg_X9_79 hx hb hts i_X9 hown hK hP114 0 rfl k_2 fr_p0_79 dX9_keep_142 (lv_iload_n hx hb dX9_keep_145 rfl (lv_at hl 0 rfl) (lv_bipush (v := 10) hx hb dX9_keep_146 (by decide) (lv_iadd hx hb dX9_keep_148 (lv_topi fun v_115 ev_115 => ?_)))))
    obtain rfl : v_115 = 34 := ev_115.trans (by decide)
    refine lv_aload_n hx hb dX9_keep_149 rfl (lv_at hl 1 rfl) ?_
    obtain ⟨v_116, fv_116⟩ := OKX9_g65 ho_p0
    refine qg_X9_65 hx hb hts i_X9 hown hK hP114 0 rfl k_12 fv_116 dX9_keep_150 (q_ist hx hb hK hP114 hDa za_r_keep hS114 4 3 rfl rfl (p1_in (i := 34) (n := 48) (by decide)) dX9_keep_153 (fun H117 lo117 g117 eg117 (hP117 : va_P (dC, dI) vwCl (zW_r_keep p0 f_p0 p0_bLong c_p0_bLong b_p0_bLong p0_bTight c_p0_bTight b_p0_bTight p0_boxMany c_p0_boxMany g84 p0_boxRow c_p0_boxRow g117 p0_boxTight c_p0_boxTight b_p0_boxTight) H117) hS117 => ?_))
    clear hP114 hS114
    have hr_g117 := q_box_u (b := 2) (m := 10) hr_g114 (by decide) (by decide) eg117
    refine lv_iconst (v := 0) hx hb dX9_keep_154 (by decide) (lv_istore_n (lv' := [(3, .int 0), (2, .int 24), (0, .ref p0), (1, .int 2)]) hx hb dX9_keep_155 rfl hl (by decide) rfl (fun ls hl => ?_))
    have key156 : ∀ (fu156 : Nat) (i : Int32) (bz_p0_boxTight : Nat → Int32) (H : Heap) (locs : List Loc) (ls : Array Slot) (hfu156 : 12 - i.toInt ≤ (fu156 : Int)) (ti : (0) ≤ i.toInt ∧ i.toInt ≤ 12), va_P (dC, dI) vwCl (zW_r_keep p0 f_p0 p0_bLong c_p0_bLong b_p0_bLong p0_bTight c_p0_bTight b_p0_bTight p0_boxMany c_p0_boxMany g84 p0_boxRow c_p0_boxRow g117 p0_boxTight c_p0_boxTight bz_p0_boxTight) H → va_S A s.heap H locs → lv_has ls 4 [(3, .int i), (2, .int 24), (0, .ref p0), (1, .int 2)] → W p l e (headSpec zw_r_keep { frames := 0, cells := 0, slots := 0, locals := 0 }).room s m ([.ref p0, .int 2] : List Value).toArray below meth c H locs 0 0 (MQ below (q_Qv (dC, dI) (zG_r_keep p0 f_p0 p0_bLong c_p0_bLong b_p0_bLong p0_bTight c_p0_bTight b_p0_bTight p0_boxMany c_p0_boxMany b_p0_boxMany p0_boxRow c_p0_boxRow b_p0_boxRow p0_boxTight c_p0_boxTight b_p0_boxTight 2) (zA_r_keep p0 p0_bLong p0_bTight p0_boxMany p0_boxRow p0_boxTight) A) ([.ref p0, .int 2] : List Value).toArray s 0 0 A) (F0 m 156 ls []) := by
      intro fu156
      induction fu156 using Nat.strongRecOn with
      | ind fu156 ih156 =>
        intro i bz_p0_boxTight H118 lo118 ls hfu156 ti hP118 hS118 hl
        refine lv_iload_n hx hb dX9_keep_156 rfl (lv_at hl 0 rfl) (lv_bipush (v := 12) hx hb dX9_keep_157 (by decide) ?_)
        refine lv_icmp_ge (tgt := 182) hx hb dX9_keep_159 (by decide) (fun c_119 => ?_) (fun c_119 => ?_)
        · have tc_119 := q_ge c_119
          exact q_vret hx hb hr hlocks hS118 dX9_keep_182 ⟨g84, g117, bz_p0_boxTight, hr_g84, hr_g117, hbm, hP118, za_r_keep⟩
        · have tc_119 := q_ltN c_119
          refine lv_aload_n hx hb dX9_keep_162 rfl (lv_at hl 2 rfl) (qg_X9_80 hx hb hts i_X9 hown hK hP118 0 rfl k_13 fr_p0_80 dX9_keep_163 (lv_iload_n hx hb dX9_keep_166 rfl (lv_at hl 1 rfl) (lv_iload_n hx hb dX9_keep_167 rfl (lv_at hl 0 rfl) (lv_iadd hx hb dX9_keep_168 (lv_topi fun v_120 ev_120 => ?_)))))
          have tv_120 := q_add ev_120 (by omega) (by omega)
          refine lv_aload_n hx hb dX9_keep_169 rfl (lv_at hl 2 rfl) (qg_X9_49 hx hb hts i_X9 hown hK hP118 0 rfl k_14 fr_p0_49 dX9_keep_170 (lv_iload_n hx hb dX9_keep_173 rfl (lv_at hl 0 rfl) (q_ild hx hb hK hP118 2 1 rfl rfl (q_in (by omega) (by omega)) dX9_keep_174 (fun v_121 ev_121 => ?_))))
          refine q_ist hx hb hK hP118 hDa za_r_keep hS118 5 4 rfl rfl (q_in (by omega) (by omega)) dX9_keep_175 (fun H122 lo122 g122 eg122 (hP122 : va_P (dC, dI) vwCl (zW_r_keep p0 f_p0 p0_bLong c_p0_bLong b_p0_bLong p0_bTight c_p0_bTight b_p0_bTight p0_boxMany c_p0_boxMany g84 p0_boxRow c_p0_boxRow g117 p0_boxTight c_p0_boxTight g122) H122) hS122 => ?_)
          clear hP118 hS118
          obtain ⟨v_123, ev_123⟩ : ∃ y : Int32, y = i + 1 := ⟨_, rfl⟩
          have tv_123 := q_add ev_123 (by omega) (by omega)
          refine lv_iinc (v := v_123) (lv' := [(3, .int v_123), (2, .int 24), (0, .ref p0), (1, .int 2)]) hx hb dX9_keep_176 hl (k := 0) rfl (by rw [ev_123]; rfl) (by decide) rfl (fun ls hl => ?_)
          refine lv_goto (tgt := 156) hx hb dX9_keep_179 (by decide) ?_
          exact ih156 (fu156 - 1) (by omega) v_123 g122 _ _ _ (by omega) (by omega) hP122 hS122 (lv_sub hl [0, 1, 2, 3] rfl)
    exact key156 12 0 b_p0_boxTight _ _ _ (by omega) (by omega) hP117 hS117 (lv_sub hl [0, 1, 2, 3] rfl)
  · refine lv_aload_n hx hb dX9_keep_0 rfl (lv_at hl 0 rfl) (qg_X9_78 hx hb hts i_X9 hown hK hP 0 rfl k_0 fr_p0_78 dX9_keep_1 (lv_iload_n hx hb dX9_keep_4 rfl (lv_at hl 1 rfl) (lv_aload_n hx hb dX9_keep_5 rfl (lv_at hl 0 rfl) ?_)))
    obtain ⟨v_124, fv_124, tv_124⟩ := OKX9_g52 ho_p0
    refine qg_X9_52 hx hb hts i_X9 hown hK hP 0 rfl k_1 fv_124 dX9_keep_6 (q_ist hx hb hK hP hDa za_r_keep hS 3 2 rfl rfl (p1_in (i := 3) (n := 4) (by decide)) dX9_keep_9 (fun H125 lo125 g125 eg125 (hP125 : va_P (dC, dI) vwCl (zW_r_keep p0 f_p0 p0_bLong c_p0_bLong b_p0_bLong p0_bTight c_p0_bTight b_p0_bTight p0_boxMany c_p0_boxMany g125 p0_boxRow c_p0_boxRow b_p0_boxRow p0_boxTight c_p0_boxTight b_p0_boxTight) H125) hS125 => ?_))
    clear hP hS
    have hr_g125 := q_up' hr_p0_boxMany eg125 ⟨by omega, by omega⟩
    have hbm : 0 ≤ (g125 (3 : Int32).toNatClampNeg).toInt := by rw [eg125, pk_us]; omega
    refine lv_bipush (v := 12) hx hb dX9_keep_10 (by decide) (lv_iload_n hx hb dX9_keep_12 rfl (lv_at hl 1 rfl) (lv_imul hx hb dX9_keep_13 (lv_topi fun v_126 ev_126 => ?_)))
    obtain rfl : v_126 = 36 := ev_126.trans (by decide)
    refine lv_istore_n (lv' := [(2, .int 36), (0, .ref p0), (1, .int 3)]) hx hb dX9_keep_14 rfl hl (by decide) rfl (fun ls hl => ?_)
    refine lv_aload_n hx hb dX9_keep_15 rfl (lv_at hl 1 rfl) (qg_X9_79 hx hb hts i_X9 hown hK hP125 0 rfl k_2 fr_p0_79 dX9_keep_16 (lv_iload_n hx hb dX9_keep_19 rfl (lv_at hl 0 rfl) (lv_aload_n hx hb dX9_keep_20 rfl (lv_at hl 1 rfl) ?_)))
    obtain ⟨v_127, fv_127⟩ := OKX9_g51 ho_p0
    refine qg_X9_51 hx hb hts i_X9 hown hK hP125 0 rfl k_3 fv_127 dX9_keep_21 (q_ist hx hb hK hP125 hDa za_r_keep hS125 4 3 rfl rfl (p1_in (i := 36) (n := 48) (by decide)) dX9_keep_24 (fun H128 lo128 g128 eg128 (hP128 : va_P (dC, dI) vwCl (zW_r_keep p0 f_p0 p0_bLong c_p0_bLong b_p0_bLong p0_bTight c_p0_bTight b_p0_bTight p0_boxMany c_p0_boxMany g125 p0_boxRow c_p0_boxRow g128 p0_boxTight c_p0_boxTight b_p0_boxTight) H128) hS128 => ?_))
    clear hP125 hS125
    have hr_g128 := q_box_u (b := 3) (m := 0) hr_p0_boxRow (by decide) (by decide) eg128
    refine lv_aload_n hx hb dX9_keep_25 rfl (lv_at hl 1 rfl) (qg_X9_79 hx hb hts i_X9 hown hK hP128 0 rfl k_2 fr_p0_79 dX9_keep_26 (lv_iload_n hx hb dX9_keep_29 rfl (lv_at hl 0 rfl) (lv_iconst (v := 1) hx hb dX9_keep_30 (by decide) (lv_iadd hx hb dX9_keep_31 (lv_topi fun v_129 ev_129 => ?_)))))
    obtain rfl : v_129 = 37 := ev_129.trans (by decide)
    refine lv_aload_n hx hb dX9_keep_32 rfl (lv_at hl 1 rfl) ?_
    obtain ⟨v_130, fv_130, tv_130⟩ := OKX9_g53 ho_p0
    refine qg_X9_53 hx hb hts i_X9 hown hK hP128 0 rfl k_4 fv_130 dX9_keep_33 (q_ist hx hb hK hP128 hDa za_r_keep hS128 4 3 rfl rfl (p1_in (i := 37) (n := 48) (by decide)) dX9_keep_36 (fun H131 lo131 g131 eg131 (hP131 : va_P (dC, dI) vwCl (zW_r_keep p0 f_p0 p0_bLong c_p0_bLong b_p0_bLong p0_bTight c_p0_bTight b_p0_bTight p0_boxMany c_p0_boxMany g125 p0_boxRow c_p0_boxRow g131 p0_boxTight c_p0_boxTight b_p0_boxTight) H131) hS131 => ?_))
    clear hP128 hS128
    have hr_g131 := q_box_u1 (b := 3) hr_g128 (by decide) eg131 ⟨by omega, by omega⟩
    refine lv_aload_n hx hb dX9_keep_37 rfl (lv_at hl 1 rfl) (qg_X9_79 hx hb hts i_X9 hown hK hP131 0 rfl k_2 fr_p0_79 dX9_keep_38 (lv_iload_n hx hb dX9_keep_41 rfl (lv_at hl 0 rfl) (lv_iconst (v := 2) hx hb dX9_keep_42 (by decide) (lv_iadd hx hb dX9_keep_43 (lv_topi fun v_132 ev_132 => ?_)))))
    obtain rfl : v_132 = 38 := ev_132.trans (by decide)
    refine lv_aload_n hx hb dX9_keep_44 rfl (lv_at hl 1 rfl) ?_
    obtain ⟨v_133, fv_133⟩ := OKX9_g54 ho_p0
    refine qg_X9_54 hx hb hts i_X9 hown hK hP131 0 rfl k_5 fv_133 dX9_keep_45 (q_ist hx hb hK hP131 hDa za_r_keep hS131 4 3 rfl rfl (p1_in (i := 38) (n := 48) (by decide)) dX9_keep_48 (fun H134 lo134 g134 eg134 (hP134 : va_P (dC, dI) vwCl (zW_r_keep p0 f_p0 p0_bLong c_p0_bLong b_p0_bLong p0_bTight c_p0_bTight b_p0_bTight p0_boxMany c_p0_boxMany g125 p0_boxRow c_p0_boxRow g134 p0_boxTight c_p0_boxTight b_p0_boxTight) H134) hS134 => ?_))
    clear hP131 hS131
    have hr_g134 := q_box_u (b := 3) (m := 2) hr_g131 (by decide) (by decide) eg134
    refine lv_aload_n hx hb dX9_keep_49 rfl (lv_at hl 1 rfl) (qg_X9_79 hx hb hts i_X9 hown hK hP134 0 rfl k_2 fr_p0_79 dX9_keep_50 (lv_iload_n hx hb dX9_keep_53 rfl (lv_at hl 0 rfl) (lv_iconst (v := 3) hx hb dX9_keep_54 (by decide) (lv_iadd hx hb dX9_keep_55 (lv_topi fun v_135 ev_135 => ?_)))))
    obtain rfl : v_135 = 39 := ev_135.trans (by decide)
    refine lv_aload_n hx hb dX9_keep_56 rfl (lv_at hl 1 rfl) ?_
    obtain ⟨v_136, fv_136⟩ := OKX9_g55 ho_p0
    refine qg_X9_55 hx hb hts i_X9 hown hK hP134 0 rfl k_6 fv_136 dX9_keep_57 (q_ist hx hb hK hP134 hDa za_r_keep hS134 4 3 rfl rfl (p1_in (i := 39) (n := 48) (by decide)) dX9_keep_60 (fun H137 lo137 g137 eg137 (hP137 : va_P (dC, dI) vwCl (zW_r_keep p0 f_p0 p0_bLong c_p0_bLong b_p0_bLong p0_bTight c_p0_bTight b_p0_bTight p0_boxMany c_p0_boxMany g125 p0_boxRow c_p0_boxRow g137 p0_boxTight c_p0_boxTight b_p0_boxTight) H137) hS137 => ?_))
    clear hP134 hS134
    have hr_g137 := q_box_u (b := 3) (m := 3) hr_g134 (by decide) (by decide) eg137
    refine lv_aload_n hx hb dX9_keep_61 rfl (lv_at hl 1 rfl) (qg_X9_79 hx hb hts i_X9 hown hK hP137 0 rfl k_2 fr_p0_79 dX9_keep_62 (lv_iload_n hx hb dX9_keep_65 rfl (lv_at hl 0 rfl) (lv_iconst (v := 4) hx hb dX9_keep_66 (by decide) (lv_iadd hx hb dX9_keep_67 (lv_topi fun v_138 ev_138 => ?_)))))
    obtain rfl : v_138 = 40 := ev_138.trans (by decide)
    refine lv_aload_n hx hb dX9_keep_68 rfl (lv_at hl 1 rfl) (qg_X9_50 hx hb hts i_X9 hown hK hP137 0 rfl k_7 fr_p0_50 dX9_keep_69 (lv_iconst (v := 0) hx hb dX9_keep_72 (by decide) (q_ild hx hb hK hP137 1 0 rfl rfl (p1_in (i := 0) (n := 2) (by decide)) dX9_keep_73 (fun v_139 ev_139 => ?_))))
    refine q_ist hx hb hK hP137 hDa za_r_keep hS137 4 3 rfl rfl (p1_in (i := 40) (n := 48) (by decide)) dX9_keep_74 (fun H140 lo140 g140 eg140 (hP140 : va_P (dC, dI) vwCl (zW_r_keep p0 f_p0 p0_bLong c_p0_bLong b_p0_bLong p0_bTight c_p0_bTight b_p0_bTight p0_boxMany c_p0_boxMany g125 p0_boxRow c_p0_boxRow g140 p0_boxTight c_p0_boxTight b_p0_boxTight) H140) hS140 => ?_)
    clear hP137 hS137
    have hr_g140 := q_box_u (b := 3) (m := 4) hr_g137 (by decide) (by decide) eg140
    refine lv_aload_n hx hb dX9_keep_75 rfl (lv_at hl 1 rfl) (qg_X9_79 hx hb hts i_X9 hown hK hP140 0 rfl k_2 fr_p0_79 dX9_keep_76 (lv_iload_n hx hb dX9_keep_79 rfl (lv_at hl 0 rfl) (lv_iconst (v := 5) hx hb dX9_keep_80 (by decide) (lv_iadd hx hb dX9_keep_81 (lv_topi fun v_141 ev_141 => ?_)))))
    obtain rfl : v_141 = 41 := ev_141.trans (by decide)
    refine lv_aload_n hx hb dX9_keep_82 rfl (lv_at hl 1 rfl) (qg_X9_50 hx hb hts i_X9 hown hK hP140 0 rfl k_7 fr_p0_50 dX9_keep_83 (lv_iconst (v := 1) hx hb dX9_keep_86 (by decide) (q_ild hx hb hK hP140 1 0 rfl rfl (p1_in (i := 1) (n := 2) (by decide)) dX9_keep_87 (fun v_142 ev_142 => ?_))))
    refine q_ist hx hb hK hP140 hDa za_r_keep hS140 4 3 rfl rfl (p1_in (i := 41) (n := 48) (by decide)) dX9_keep_88 (fun H143 lo143 g143 eg143 (hP143 : va_P (dC, dI) vwCl (zW_r_keep p0 f_p0 p0_bLong c_p0_bLong b_p0_bLong p0_bTight c_p0_bTight b_p0_bTight p0_boxMany c_p0_boxMany g125 p0_boxRow c_p0_boxRow g143 p0_boxTight c_p0_boxTight b_p0_boxTight) H143) hS143 => ?_)
    clear hP140 hS140
    have hr_g143 := q_box_u (b := 3) (m := 5) hr_g140 (by decide) (by decide) eg143
    refine lv_aload_n hx hb dX9_keep_89 rfl (lv_at hl 1 rfl) (qg_X9_79 hx hb hts i_X9 hown hK hP143 0 rfl k_2 fr_p0_79 dX9_keep_90 (lv_iload_n hx hb dX9_keep_93 rfl (lv_at hl 0 rfl) (lv_bipush (v := 6) hx hb dX9_keep_94 (by decide) (lv_iadd hx hb dX9_keep_96 (lv_topi fun v_144 ev_144 => ?_)))))
    obtain rfl : v_144 = 42 := ev_144.trans (by decide)
    refine lv_aload_n hx hb dX9_keep_97 rfl (lv_at hl 1 rfl) ?_
    obtain ⟨v_145, fv_145⟩ := OKX9_g61 ho_p0
    refine qg_X9_61 hx hb hts i_X9 hown hK hP143 0 rfl k_8 fv_145 dX9_keep_98 (q_ist hx hb hK hP143 hDa za_r_keep hS143 4 3 rfl rfl (p1_in (i := 42) (n := 48) (by decide)) dX9_keep_101 (fun H146 lo146 g146 eg146 (hP146 : va_P (dC, dI) vwCl (zW_r_keep p0 f_p0 p0_bLong c_p0_bLong b_p0_bLong p0_bTight c_p0_bTight b_p0_bTight p0_boxMany c_p0_boxMany g125 p0_boxRow c_p0_boxRow g146 p0_boxTight c_p0_boxTight b_p0_boxTight) H146) hS146 => ?_))
    clear hP143 hS143
    have hr_g146 := q_box_u (b := 3) (m := 6) hr_g143 (by decide) (by decide) eg146
    refine lv_aload_n hx hb dX9_keep_102 rfl (lv_at hl 1 rfl) (qg_X9_79 hx hb hts i_X9 hown hK hP146 0 rfl k_2 fr_p0_79 dX9_keep_103 (lv_iload_n hx hb dX9_keep_106 rfl (lv_at hl 0 rfl) (lv_bipush (v := 7) hx hb dX9_keep_107 (by decide) (lv_iadd hx hb dX9_keep_109 (lv_topi fun v_147 ev_147 => ?_)))))
    obtain rfl : v_147 = 43 := ev_147.trans (by decide)
    refine lv_aload_n hx hb dX9_keep_110 rfl (lv_at hl 1 rfl) ?_
    obtain ⟨v_148, v_149, fv_148, fv_149, tv_148⟩ := OKX9_g62 ho_p0
    refine qg_X9_62 hx hb hts i_X9 hown hK hP146 0 rfl k_9 fv_148 dX9_keep_111 (q_ist hx hb hK hP146 hDa za_r_keep hS146 4 3 rfl rfl (p1_in (i := 43) (n := 48) (by decide)) dX9_keep_114 (fun H150 lo150 g150 eg150 (hP150 : va_P (dC, dI) vwCl (zW_r_keep p0 f_p0 p0_bLong c_p0_bLong b_p0_bLong p0_bTight c_p0_bTight b_p0_bTight p0_boxMany c_p0_boxMany g125 p0_boxRow c_p0_boxRow g150 p0_boxTight c_p0_boxTight b_p0_boxTight) H150) hS150 => ?_))
    clear hP146 hS146
    refine lv_aload_n hx hb dX9_keep_115 rfl (lv_at hl 1 rfl) (qg_X9_79 hx hb hts i_X9 hown hK hP150 0 rfl k_2 fr_p0_79 dX9_keep_116 (lv_iload_n hx hb dX9_keep_119 rfl (lv_at hl 0 rfl) (lv_bipush (v := 8) hx hb dX9_keep_120 (by decide) (lv_iadd hx hb dX9_keep_122 (lv_topi fun v_151 ev_151 => ?_)))))
    obtain rfl : v_151 = 44 := ev_151.trans (by decide)
    refine lv_aload_n hx hb dX9_keep_123 rfl (lv_at hl 1 rfl) (qg_X9_63 hx hb hts i_X9 hown hK hP150 0 rfl k_10 fv_149 dX9_keep_124 (q_ist hx hb hK hP150 hDa za_r_keep hS150 4 3 rfl rfl (p1_in (i := 44) (n := 48) (by decide)) dX9_keep_127 (fun H152 lo152 g152 eg152 (hP152 : va_P (dC, dI) vwCl (zW_r_keep p0 f_p0 p0_bLong c_p0_bLong b_p0_bLong p0_bTight c_p0_bTight b_p0_bTight p0_boxMany c_p0_boxMany g125 p0_boxRow c_p0_boxRow g152 p0_boxTight c_p0_boxTight b_p0_boxTight) H152) hS152 => ?_)))
    clear hP150 hS150
    have hr_g152 := q_box_u78 (b := 3) hr_g146 (by decide) eg150 eg152 ⟨by omega, by omega, by omega⟩
    refine lv_aload_n hx hb dX9_keep_128 rfl (lv_at hl 1 rfl) (qg_X9_79 hx hb hts i_X9 hown hK hP152 0 rfl k_2 fr_p0_79 dX9_keep_129 (lv_iload_n hx hb dX9_keep_132 rfl (lv_at hl 0 rfl) (lv_bipush (v := 9) hx hb dX9_keep_133 (by decide) (lv_iadd hx hb dX9_keep_135 (lv_topi fun v_153 ev_153 => ?_)))))
    obtain rfl : v_153 = 45 := ev_153.trans (by decide)
    refine lv_aload_n hx hb dX9_keep_136 rfl (lv_at hl 1 rfl) ?_
    obtain ⟨v_154, fv_154⟩ := OKX9_g64 ho_p0
    refine qg_X9_64 hx hb hts i_X9 hown hK hP152 0 rfl k_11 fv_154 dX9_keep_137 (q_ist hx hb hK hP152 hDa za_r_keep hS152 4 3 rfl rfl (p1_in (i := 45) (n := 48) (by decide)) dX9_keep_140 (fun H155 lo155 g155 eg155 (hP155 : va_P (dC, dI) vwCl (zW_r_keep p0 f_p0 p0_bLong c_p0_bLong b_p0_bLong p0_bTight c_p0_bTight b_p0_bTight p0_boxMany c_p0_boxMany g125 p0_boxRow c_p0_boxRow g155 p0_boxTight c_p0_boxTight b_p0_boxTight) H155) hS155 => ?_))
    clear hP152 hS152
    have hr_g155 := q_box_u (b := 3) (m := 9) hr_g152 (by decide) (by decide) eg155
    refine lv_aload_n hx hb dX9_keep_141 rfl (lv_at hl 1 rfl) (qg_X9_79 hx hb hts i_X9 hown hK hP155 0 rfl k_2 fr_p0_79 dX9_keep_142 (lv_iload_n hx hb dX9_keep_145 rfl (lv_at hl 0 rfl) (lv_bipush (v := 10) hx hb dX9_keep_146 (by decide) (lv_iadd hx hb dX9_keep_148 (lv_topi fun v_156 ev_156 => ?_)))))
    obtain rfl : v_156 = 46 := ev_156.trans (by decide)
    refine lv_aload_n hx hb dX9_keep_149 rfl (lv_at hl 1 rfl) ?_
    obtain ⟨v_157, fv_157⟩ := OKX9_g65 ho_p0
    refine qg_X9_65 hx hb hts i_X9 hown hK hP155 0 rfl k_12 fv_157 dX9_keep_150 (q_ist hx hb hK hP155 hDa za_r_keep hS155 4 3 rfl rfl (p1_in (i := 46) (n := 48) (by decide)) dX9_keep_153 (fun H158 lo158 g158 eg158 (hP158 : va_P (dC, dI) vwCl (zW_r_keep p0 f_p0 p0_bLong c_p0_bLong b_p0_bLong p0_bTight c_p0_bTight b_p0_bTight p0_boxMany c_p0_boxMany g125 p0_boxRow c_p0_boxRow g158 p0_boxTight c_p0_boxTight b_p0_boxTight) H158) hS158 => ?_))
    clear hP155 hS155
    have hr_g158 := q_box_u (b := 3) (m := 10) hr_g155 (by decide) (by decide) eg158
    refine lv_iconst (v := 0) hx hb dX9_keep_154 (by decide) (lv_istore_n (lv' := [(3, .int 0), (2, .int 36), (0, .ref p0), (1, .int 3)]) hx hb dX9_keep_155 rfl hl (by decide) rfl (fun ls hl => ?_))
    have key156 : ∀ (fu156 : Nat) (i : Int32) (bz_p0_boxTight : Nat → Int32) (H : Heap) (locs : List Loc) (ls : Array Slot) (hfu156 : 12 - i.toInt ≤ (fu156 : Int)) (ti : (0) ≤ i.toInt ∧ i.toInt ≤ 12), va_P (dC, dI) vwCl (zW_r_keep p0 f_p0 p0_bLong c_p0_bLong b_p0_bLong p0_bTight c_p0_bTight b_p0_bTight p0_boxMany c_p0_boxMany g125 p0_boxRow c_p0_boxRow g158 p0_boxTight c_p0_boxTight bz_p0_boxTight) H → va_S A s.heap H locs → lv_has ls 4 [(3, .int i), (2, .int 36), (0, .ref p0), (1, .int 3)] → W p l e (headSpec zw_r_keep { frames := 0, cells := 0, slots := 0, locals := 0 }).room s m ([.ref p0, .int 3] : List Value).toArray below meth c H locs 0 0 (MQ below (q_Qv (dC, dI) (zG_r_keep p0 f_p0 p0_bLong c_p0_bLong b_p0_bLong p0_bTight c_p0_bTight b_p0_bTight p0_boxMany c_p0_boxMany b_p0_boxMany p0_boxRow c_p0_boxRow b_p0_boxRow p0_boxTight c_p0_boxTight b_p0_boxTight 3) (zA_r_keep p0 p0_bLong p0_bTight p0_boxMany p0_boxRow p0_boxTight) A) ([.ref p0, .int 3] : List Value).toArray s 0 0 A) (F0 m 156 ls []) := by
      intro fu156
      induction fu156 using Nat.strongRecOn with
      | ind fu156 ih156 =>
        intro i bz_p0_boxTight H159 lo159 ls hfu156 ti hP159 hS159 hl
        refine lv_iload_n hx hb dX9_keep_156 rfl (lv_at hl 0 rfl) (lv_bipush (v := 12) hx hb dX9_keep_157 (by decide) ?_)
        refine lv_icmp_ge (tgt := 182) hx hb dX9_keep_159 (by decide) (fun c_160 => ?_) (fun c_160 => ?_)
        · have tc_160 := q_ge c_160
          exact q_vret hx hb hr hlocks hS159 dX9_keep_182 ⟨g125, g158, bz_p0_boxTight, hr_g125, hr_g158, hbm, hP159, za_r_keep⟩
        · have tc_160 := q_ltN c_160
          refine lv_aload_n hx hb dX9_keep_162 rfl (lv_at hl 2 rfl) (qg_X9_80 hx hb hts i_X9 hown hK hP159 0 rfl k_13 fr_p0_80 dX9_keep_163 (lv_iload_n hx hb dX9_keep_166 rfl (lv_at hl 1 rfl) (lv_iload_n hx hb dX9_keep_167 rfl (lv_at hl 0 rfl) (lv_iadd hx hb dX9_keep_168 (lv_topi fun v_161 ev_161 => ?_)))))
          have tv_161 := q_add ev_161 (by omega) (by omega)
          refine lv_aload_n hx hb dX9_keep_169 rfl (lv_at hl 2 rfl) (qg_X9_49 hx hb hts i_X9 hown hK hP159 0 rfl k_14 fr_p0_49 dX9_keep_170 (lv_iload_n hx hb dX9_keep_173 rfl (lv_at hl 0 rfl) (q_ild hx hb hK hP159 2 1 rfl rfl (q_in (by omega) (by omega)) dX9_keep_174 (fun v_162 ev_162 => ?_))))
          refine q_ist hx hb hK hP159 hDa za_r_keep hS159 5 4 rfl rfl (q_in (by omega) (by omega)) dX9_keep_175 (fun H163 lo163 g163 eg163 (hP163 : va_P (dC, dI) vwCl (zW_r_keep p0 f_p0 p0_bLong c_p0_bLong b_p0_bLong p0_bTight c_p0_bTight b_p0_bTight p0_boxMany c_p0_boxMany g125 p0_boxRow c_p0_boxRow g158 p0_boxTight c_p0_boxTight g163) H163) hS163 => ?_)
          clear hP159 hS159
          obtain ⟨v_164, ev_164⟩ : ∃ y : Int32, y = i + 1 := ⟨_, rfl⟩
          have tv_164 := q_add ev_164 (by omega) (by omega)
          refine lv_iinc (v := v_164) (lv' := [(3, .int v_164), (2, .int 36), (0, .ref p0), (1, .int 3)]) hx hb dX9_keep_176 hl (k := 0) rfl (by rw [ev_164]; rfl) (by decide) rfl (fun ls hl => ?_)
          refine lv_goto (tgt := 156) hx hb dX9_keep_179 (by decide) ?_
          exact ih156 (fu156 - 1) (by omega) v_164 g163 _ _ _ (by omega) (by omega) hP163 hS163 (lv_sub hl [0, 1, 2, 3] rfl)
    exact key156 12 0 b_p0_boxTight _ _ _ (by omega) (by omega) hP158 hS158 (lv_sub hl [0, 1, 2, 3] rfl)
def zo_r_bring : List Cond := [.code yX9_bring cX9_bring 4 none, .fieldLink RX9 158 "BowWalkModel" "boxMany" "[I", .fieldLink RX9 396 "BowWalkModel" "bMany" "I", .fieldLink RX9 161 "BowWalkModel" "boxRow" "[I", .fieldLink RX9 393 "BowWalkModel" "bSides" "I", .fieldLink RX9 399 "BowWalkModel" "bAll" "I", .fieldLink RX9 370 "BowWalkModel" "bSmooth" "I", .fieldLink RX9 373 "BowWalkModel" "bWeight" "I", .fieldLink RX9 122 "BowWalkModel" "bLong" "[I", .fieldLink RX9 440 "BowWalkModel" "walked" "I", .fieldLink RX9 443 "BowWalkModel" "place" "I", .fieldLink RX9 446 "BowWalkModel" "stepsDone" "I", .fieldLink RX9 449 "BowWalkModel" "slipped" "I", .fieldLink RX9 125 "BowWalkModel" "w" "I", .fieldLink RX9 119 "BowWalkModel" "bTight" "[I", .fieldLink RX9 164 "BowWalkModel" "boxTight" "[I"]
def zw_r_bring : List Cond := zo_r_bring ++ (wsX90 ++ [])
theorem gz_r_bring : zw_r_bring.all goodWord = true := p1_ga (by decide +kernel) (p1_ga gk_X9 p1_g0)
theorem iz_r_bring : ∀ w ∈ zw_r_bring, w ∈ lw_tbl := p1_ia (p1_all [1557, 1115, 1089, 1116, 1088, 1090, 1091, 1092, 1087, 1098, 1099, 1100, 1101, 1102, 1086, 1117] (by decide +kernel)) (p1_ia ik_X9 p1_i0)
def zW_r_bring (p0 : Nat) (f_p0 : List Value) (p0_bLong : Nat) (c_p0_bLong : ClassId) (b_p0_bLong : Nat → Int32) (p0_bTight : Nat) (c_p0_bTight : ClassId) (b_p0_bTight : Nat → Int32) (p0_boxMany : Nat) (c_p0_boxMany : ClassId) (b_p0_boxMany : Nat → Int32) (p0_boxRow : Nat) (c_p0_boxRow : ClassId) (b_p0_boxRow : Nat → Int32) (p0_boxTight : Nat) (c_p0_boxTight : ClassId) (b_p0_boxTight : Nat → Int32) : va_W := [(p0, .inr (8, f_p0)), (p0_bLong, .inl (c_p0_bLong, 2, .inl b_p0_bLong)), (p0_bTight, .inl (c_p0_bTight, 12, .inl b_p0_bTight)), (p0_boxMany, .inl (c_p0_boxMany, 4, .inl b_p0_boxMany)), (p0_boxRow, .inl (c_p0_boxRow, 48, .inl b_p0_boxRow)), (p0_boxTight, .inl (c_p0_boxTight, 48, .inl b_p0_boxTight))]
def zT_r_bring (c_p0_bLong : ClassId) (c_p0_bTight : ClassId) (c_p0_boxMany : ClassId) (c_p0_boxRow : ClassId) (c_p0_boxTight : ClassId) : List (ClassId × FieldType) := [(c_p0_bLong, .int), (c_p0_bTight, .int), (c_p0_boxMany, .int), (c_p0_boxRow, .int), (c_p0_boxTight, .int)]
def zA_r_bring (p0 : Nat) (p0_bLong : Nat) (p0_bTight : Nat) (p0_boxMany : Nat) (p0_boxRow : Nat) (p0_boxTight : Nat) : List Nat := [p0, p0_bLong, p0_bTight, p0_boxMany, p0_boxRow, p0_boxTight]
theorem za_r_bring {p0 : Nat} {f_p0 : List Value} {p0_bLong : Nat} {c_p0_bLong : ClassId} {b_p0_bLong : Nat → Int32} {p0_bTight : Nat} {c_p0_bTight : ClassId} {b_p0_bTight : Nat → Int32} {p0_boxMany : Nat} {c_p0_boxMany : ClassId} {b_p0_boxMany : Nat → Int32} {p0_boxRow : Nat} {c_p0_boxRow : ClassId} {b_p0_boxRow : Nat → Int32} {p0_boxTight : Nat} {c_p0_boxTight : ClassId} {b_p0_boxTight : Nat → Int32} : (zW_r_bring p0 f_p0 p0_bLong c_p0_bLong b_p0_bLong p0_bTight c_p0_bTight b_p0_bTight p0_boxMany c_p0_boxMany b_p0_boxMany p0_boxRow c_p0_boxRow b_p0_boxRow p0_boxTight c_p0_boxTight b_p0_boxTight).map Prod.fst = (zA_r_bring p0 p0_bLong p0_bTight p0_boxMany p0_boxRow p0_boxTight) := rfl
def zG_r_bring (p0 : Nat) (f_p0 : List Value) (p0_bLong : Nat) (c_p0_bLong : ClassId) (b_p0_bLong : Nat → Int32) (p0_bTight : Nat) (c_p0_bTight : ClassId) (b_p0_bTight : Nat → Int32) (p0_boxMany : Nat) (c_p0_boxMany : ClassId) (b_p0_boxMany : Nat → Int32) (p0_boxRow : Nat) (c_p0_boxRow : ClassId) (b_p0_boxRow : Nat → Int32) (p0_boxTight : Nat) (c_p0_boxTight : ClassId) (b_p0_boxTight : Nat → Int32) (a1 : Int32) (X : va_W → Prop) : Prop := ∃ (y_p0 : List Value) (y_p0_bLong : Nat → Int32) (y_p0_bTight : Nat → Int32), OKX9 y_p0 ∧ q_fr [51, 52, 53, 54, 55, 61, 62, 63, 64, 65] f_p0 y_p0 ∧ X (zW_r_bring p0 y_p0 p0_bLong c_p0_bLong y_p0_bLong p0_bTight c_p0_bTight y_p0_bTight p0_boxMany c_p0_boxMany b_p0_boxMany p0_boxRow c_p0_boxRow b_p0_boxRow p0_boxTight c_p0_boxTight b_p0_boxTight)
theorem zm_r_bring {p0 : Nat} {f_p0 : List Value} {p0_bLong : Nat} {c_p0_bLong : ClassId} {b_p0_bLong : Nat → Int32} {p0_bTight : Nat} {c_p0_bTight : ClassId} {b_p0_bTight : Nat → Int32} {p0_boxMany : Nat} {c_p0_boxMany : ClassId} {b_p0_boxMany : Nat → Int32} {p0_boxRow : Nat} {c_p0_boxRow : ClassId} {b_p0_boxRow : Nat → Int32} {p0_boxTight : Nat} {c_p0_boxTight : ClassId} {b_p0_boxTight : Nat → Int32} {a1 : Int32} : ∀ X Y : va_W → Prop, (∀ w, X w → Y w) → zG_r_bring p0 f_p0 p0_bLong c_p0_bLong b_p0_bLong p0_bTight c_p0_bTight b_p0_bTight p0_boxMany c_p0_boxMany b_p0_boxMany p0_boxRow c_p0_boxRow b_p0_boxRow p0_boxTight c_p0_boxTight b_p0_boxTight a1 X → zG_r_bring p0 f_p0 p0_bLong c_p0_bLong b_p0_bLong p0_bTight c_p0_bTight b_p0_bTight p0_boxMany c_p0_boxMany b_p0_boxMany p0_boxRow c_p0_boxRow b_p0_boxRow p0_boxTight c_p0_boxTight b_p0_boxTight a1 Y := fun X Y h h1 => by obtain ⟨x0, x1, x2, x3, x4, hx⟩ := h1; exact ⟨x0, x1, x2, x3, x4, h _ hx⟩
set_option maxHeartbeats 4000000 in
set_option maxRecDepth 100000 in
theorem r_bring (l : Launch) (dC : Nat → ClassId) (dI : Nat → Nat → Nat) (sz : Nat) (p0 : Nat) (f_p0 : List Value) (p0_bLong : Nat) (c_p0_bLong : ClassId) (b_p0_bLong : Nat → Int32) (p0_bTight : Nat) (c_p0_bTight : ClassId) (b_p0_bTight : Nat → Int32) (p0_boxMany : Nat) (c_p0_boxMany : ClassId) (b_p0_boxMany : Nat → Int32) (p0_boxRow : Nat) (c_p0_boxRow : ClassId) (b_p0_boxRow : Nat → Int32) (p0_boxTight : Nat) (c_p0_boxTight : ClassId) (b_p0_boxTight : Nat → Int32) (a1 : Int32) (ho_p0 : OKX9 f_p0) (fr_p0_49 : q_rf f_p0 49 p0_bTight) (fr_p0_50 : q_rf f_p0 50 p0_bLong) (fr_p0_78 : q_rf f_p0 78 p0_boxMany) (fr_p0_79 : q_rf f_p0 79 p0_boxRow) (fr_p0_80 : q_rf f_p0 80 p0_boxTight) (hr_p0_boxMany : q_rg 4 (-1) 12 b_p0_boxMany) (hr_p0_boxRow : q_box b_p0_boxRow) (ta1 : (0) ≤ a1.toInt ∧ a1.toInt ≤ 3) (hbm : 0 ≤ (b_p0_boxMany a1.toNatClampNeg).toInt) : Met l yX9_bring zw_r_bring ({ frames := 0, cells := 0, slots := 0, locals := 0 }) (va_Pc [.ref p0, .int a1] (q_pre (dC, dI) (zW_r_bring p0 f_p0 p0_bLong c_p0_bLong b_p0_bLong p0_bTight c_p0_bTight b_p0_bTight p0_boxMany c_p0_boxMany b_p0_boxMany p0_boxRow c_p0_boxRow b_p0_boxRow p0_boxTight c_p0_boxTight b_p0_boxTight) (zT_r_bring c_p0_bLong c_p0_bTight c_p0_boxMany c_p0_boxRow c_p0_boxTight) q_E0 sz)) (q_Qv (dC, dI) (zG_r_bring p0 f_p0 p0_bLong c_p0_bLong b_p0_bLong p0_bTight c_p0_bTight b_p0_bTight p0_boxMany c_p0_boxMany b_p0_boxMany p0_boxRow c_p0_boxRow b_p0_boxRow p0_boxTight c_p0_boxTight b_p0_boxTight a1) (zA_r_bring p0 p0_bLong p0_bTight p0_boxMany p0_boxRow p0_boxTight) (va_A (zW_r_bring p0 f_p0 p0_bLong c_p0_bLong b_p0_bLong p0_bTight c_p0_bTight b_p0_bTight p0_boxMany c_p0_boxMany b_p0_boxMany p0_boxRow c_p0_boxRow b_p0_boxRow p0_boxTight c_p0_boxTight b_p0_boxTight) sz)) 0 0 (va_A (zW_r_bring p0 f_p0 p0_bLong c_p0_bLong b_p0_bLong p0_bTight c_p0_bTight b_p0_bTight p0_boxMany c_p0_boxMany b_p0_boxMany p0_boxRow c_p0_boxRow b_p0_boxRow p0_boxTight c_p0_boxTight b_p0_boxTight) sz) := by
  refine Met.ofW (cc := cX9_bring) (maxL := 4) (ret := none) (by decide) rfl ?_
  intro p e s m args below meth c s₁ B hml hv
  obtain ⟨rfl, hsz, hP, hK, hD0, hE⟩ := hv
  have hx := B.exec
  have hb := B.bytes
  have hr := B.returns
  have hts := atoms_spec (ws := zw_r_bring) B.pre
  have hown : s.vm.findClass RX9 = some m.cls := findClass_of_methodNamed B.named
  have hlocks := B.notSynchronized
  subst hsz
  have hD := hD0.self (sz := s.heap.size)
  generalize hAe : va_A (zW_r_bring p0 f_p0 p0_bLong c_p0_bLong b_p0_bLong p0_bTight c_p0_bTight b_p0_bTight p0_boxMany c_p0_boxMany b_p0_boxMany p0_boxRow c_p0_boxRow b_p0_boxRow p0_boxTight c_p0_boxTight b_p0_boxTight) s.heap.size = A at hD hE ⊢
  have hA : ∀ q : Nat, s.heap.size ≤ q → A q := fun q h => by rw [← hAe]; exact Or.inr h
  have hDa : q_DA A (zA_r_bring p0 p0_bLong p0_bTight p0_boxMany p0_boxRow p0_boxTight) := q_DA.mk hD za_r_bring
  clear hAe hD0 hD
  have hS : va_S A s.heap s.heap [] := va_S.rf
  have m_0 : (.fieldLink RX9 158 "BowWalkModel" "boxMany" "[I" : Cond) ∈ zw_r_bring := List.mem_append_left _ (List.mem_of_getElem? (i := 1) rfl)
  have k_0 := hts _ m_0
  have m_1 : (.fieldLink RX9 396 "BowWalkModel" "bMany" "I" : Cond) ∈ zw_r_bring := List.mem_append_left _ (List.mem_of_getElem? (i := 2) rfl)
  have k_1 := hts _ m_1
  have m_2 : (.fieldLink RX9 161 "BowWalkModel" "boxRow" "[I" : Cond) ∈ zw_r_bring := List.mem_append_left _ (List.mem_of_getElem? (i := 3) rfl)
  have k_2 := hts _ m_2
  have m_3 : (.fieldLink RX9 393 "BowWalkModel" "bSides" "I" : Cond) ∈ zw_r_bring := List.mem_append_left _ (List.mem_of_getElem? (i := 4) rfl)
  have k_3 := hts _ m_3
  have m_4 : (.fieldLink RX9 399 "BowWalkModel" "bAll" "I" : Cond) ∈ zw_r_bring := List.mem_append_left _ (List.mem_of_getElem? (i := 5) rfl)
  have k_4 := hts _ m_4
  have m_5 : (.fieldLink RX9 370 "BowWalkModel" "bSmooth" "I" : Cond) ∈ zw_r_bring := List.mem_append_left _ (List.mem_of_getElem? (i := 6) rfl)
  have k_5 := hts _ m_5
  have m_6 : (.fieldLink RX9 373 "BowWalkModel" "bWeight" "I" : Cond) ∈ zw_r_bring := List.mem_append_left _ (List.mem_of_getElem? (i := 7) rfl)
  have k_6 := hts _ m_6
  have m_7 : (.fieldLink RX9 122 "BowWalkModel" "bLong" "[I" : Cond) ∈ zw_r_bring := List.mem_append_left _ (List.mem_of_getElem? (i := 8) rfl)
  have k_7 := hts _ m_7
  have m_8 : (.fieldLink RX9 440 "BowWalkModel" "walked" "I" : Cond) ∈ zw_r_bring := List.mem_append_left _ (List.mem_of_getElem? (i := 9) rfl)
  have k_8 := hts _ m_8
  have m_9 : (.fieldLink RX9 443 "BowWalkModel" "place" "I" : Cond) ∈ zw_r_bring := List.mem_append_left _ (List.mem_of_getElem? (i := 10) rfl)
  have k_9 := hts _ m_9
  have m_10 : (.fieldLink RX9 446 "BowWalkModel" "stepsDone" "I" : Cond) ∈ zw_r_bring := List.mem_append_left _ (List.mem_of_getElem? (i := 11) rfl)
  have k_10 := hts _ m_10
  have m_11 : (.fieldLink RX9 449 "BowWalkModel" "slipped" "I" : Cond) ∈ zw_r_bring := List.mem_append_left _ (List.mem_of_getElem? (i := 12) rfl)
  have k_11 := hts _ m_11
  have m_12 : (.fieldLink RX9 125 "BowWalkModel" "w" "I" : Cond) ∈ zw_r_bring := List.mem_append_left _ (List.mem_of_getElem? (i := 13) rfl)
  have k_12 := hts _ m_12
  have m_13 : (.fieldLink RX9 119 "BowWalkModel" "bTight" "[I" : Cond) ∈ zw_r_bring := List.mem_append_left _ (List.mem_of_getElem? (i := 14) rfl)
  have k_13 := hts _ m_13
  have m_14 : (.fieldLink RX9 164 "BowWalkModel" "boxTight" "[I" : Cond) ∈ zw_r_bring := List.mem_append_left _ (List.mem_of_getElem? (i := 15) rfl)
  have k_14 := hts _ m_14
  have i_X9 : ∀ w ∈ u_ws RX9 TX9 81, w ∈ zw_r_bring := fun w h => List.mem_append_right _ (List.mem_append_left _ h)
  have lt_0 : (0 : Int32).toInt = 0 := by decide
  have lt_1 : (1 : Int32).toInt = 1 := by decide
  have lt_2 : (2 : Int32).toInt = 2 := by decide
  have lt_3 : (3 : Int32).toInt = 3 := by decide
  have lt_4 : (4 : Int32).toInt = 4 := by decide
  have lt_5 : (5 : Int32).toInt = 5 := by decide
  have lt_6 : (6 : Int32).toInt = 6 := by decide
  have lt_7 : (7 : Int32).toInt = 7 := by decide
  have lt_8 : (8 : Int32).toInt = 8 := by decide
  have lt_9 : (9 : Int32).toInt = 9 := by decide
  have lt_10 : (10 : Int32).toInt = 10 := by decide
  have lt_12 : (12 : Int32).toInt = 12 := by decide
  have lt_13 : (13 : Int32).toInt = 13 := by decide
  have lt_14 : (14 : Int32).toInt = 14 := by decide
  have lt_15 : (15 : Int32).toInt = 15 := by decide
  have lt_16 : (16 : Int32).toInt = 16 := by decide
  have lt_17 : (17 : Int32).toInt = 17 := by decide
  have lt_18 : (18 : Int32).toInt = 18 := by decide
  have lt_19 : (19 : Int32).toInt = 19 := by decide
  have lt_20 : (20 : Int32).toInt = 20 := by decide
  have lt_21 : (21 : Int32).toInt = 21 := by decide
  have lt_22 : (22 : Int32).toInt = 22 := by decide
  have lt_24 : (24 : Int32).toInt = 24 := by decide
  have lt_25 : (25 : Int32).toInt = 25 := by decide
  have lt_26 : (26 : Int32).toInt = 26 := by decide
  have lt_27 : (27 : Int32).toInt = 27 := by decide
  have lt_28 : (28 : Int32).toInt = 28 := by decide
  have lt_29 : (29 : Int32).toInt = 29 := by decide
  have lt_30 : (30 : Int32).toInt = 30 := by decide
  have lt_31 : (31 : Int32).toInt = 31 := by decide
  have lt_32 : (32 : Int32).toInt = 32 := by decide
  have lt_33 : (33 : Int32).toInt = 33 := by decide
  have lt_34 : (34 : Int32).toInt = 34 := by decide
  have lt_36 : (36 : Int32).toInt = 36 := by decide
  have lt_37 : (37 : Int32).toInt = 37 := by decide
  have lt_38 : (38 : Int32).toInt = 38 := by decide
  have lt_39 : (39 : Int32).toInt = 39 := by decide
  have lt_40 : (40 : Int32).toInt = 40 := by decide
  have lt_41 : (41 : Int32).toInt = 41 := by decide
  have lt_42 : (42 : Int32).toInt = 42 := by decide
  have lt_43 : (43 : Int32).toInt = 43 := by decide
  have lt_44 : (44 : Int32).toInt = 44 := by decide
  have lt_45 : (45 : Int32).toInt = 45 := by decide
  have lt_46 : (46 : Int32).toInt = 46 := by decide
  have hl := lv_entry ([.ref p0, .int a1]) (n := 4) (Nat.le_of_ble_eq_true rfl)
  rw [lg_entry_eq]
  generalize (lg_sl ([.ref p0, .int a1]) ++ List.replicate (4 - (lg_sl ([.ref p0, .int a1])).length) Slot.unset).toArray = ls at hl ⊢
  have hl : lv_has ls 4 [(0, .ref p0), (1, .int a1)] := hl
  rcases q_c4 (i := a1) (by omega) (by omega) with rfl | rfl | rfl | rfl
  · refine lv_aload_n hx hb dX9_bring_0 rfl (lv_at hl 0 rfl) (lv_aload_n hx hb dX9_bring_1 rfl (lv_at hl 0 rfl) (qg_X9_78 hx hb hts i_X9 hown hK hP 0 rfl k_0 fr_p0_78 dX9_bring_2 (lv_iload_n hx hb dX9_bring_5 rfl (lv_at hl 1 rfl) (q_ild hx hb hK hP 3 2 rfl rfl (p1_in (i := 0) (n := 4) (by decide)) dX9_bring_6 (fun v_1 ev_1 => ?_)))))
    have uv_1 : v_1.toInt = (b_p0_boxMany (0 : Int32).toNatClampNeg).toInt := by rw [ev_1]
    have tv_1 := q_rd' hr_p0_boxMany (p1_in (i := 0) (n := 4) (by decide)) ev_1
    refine qp_X9_52 hx hb hts i_X9 hown hK hP hDa za_r_bring hS 0 rfl k_1 (OKX9_l ho_p0) dX9_bring_7 (fun H2 lo2 fs2 efs2 (hP2 : va_P (dC, dI) vwCl (zW_r_bring p0 fs2 p0_bLong c_p0_bLong b_p0_bLong p0_bTight c_p0_bTight b_p0_bTight p0_boxMany c_p0_boxMany b_p0_boxMany p0_boxRow c_p0_boxRow b_p0_boxRow p0_boxTight c_p0_boxTight b_p0_boxTight) H2) hS2 => ?_)
    have ho2 := OKX9_p52 ho_p0 efs2 ⟨by omega, by omega⟩
    clear hP hS
    refine lv_bipush (v := 12) hx hb dX9_bring_10 (by decide) (lv_iload_n hx hb dX9_bring_12 rfl (lv_at hl 1 rfl) (lv_imul hx hb dX9_bring_13 (lv_topi fun v_3 ev_3 => ?_)))
    obtain rfl : v_3 = 0 := ev_3.trans (by decide)
    refine lv_istore_n (lv' := [(2, .int 0), (0, .ref p0), (1, .int 0)]) hx hb dX9_bring_14 rfl hl (by decide) rfl (fun ls hl => ?_)
    refine lv_aload_n hx hb dX9_bring_15 rfl (lv_at hl 1 rfl) (lv_aload_n hx hb dX9_bring_16 rfl (lv_at hl 1 rfl) (qg_X9_79 hx hb hts i_X9 hown hK hP2 0 rfl k_2 (q_sn efs2 (by decide) fr_p0_79) dX9_bring_17 (lv_iload_n hx hb dX9_bring_20 rfl (lv_at hl 0 rfl) (q_ild hx hb hK hP2 4 3 rfl rfl (p1_in (i := 0) (n := 48) (by decide)) dX9_bring_21 (fun v_4 ev_4 => ?_)))))
    refine qp_X9_51 hx hb hts i_X9 hown hK hP2 hDa za_r_bring hS2 0 rfl k_3 (OKX9_l ho2) dX9_bring_22 (fun H5 lo5 fs5 efs5 (hP5 : va_P (dC, dI) vwCl (zW_r_bring p0 fs5 p0_bLong c_p0_bLong b_p0_bLong p0_bTight c_p0_bTight b_p0_bTight p0_boxMany c_p0_boxMany b_p0_boxMany p0_boxRow c_p0_boxRow b_p0_boxRow p0_boxTight c_p0_boxTight b_p0_boxTight) H5) hS5 => ?_)
    have ho5 := OKX9_p51 ho2 efs5
    clear hP2 hS2
    refine lv_aload_n hx hb dX9_bring_25 rfl (lv_at hl 1 rfl) (lv_aload_n hx hb dX9_bring_26 rfl (lv_at hl 1 rfl) (qg_X9_79 hx hb hts i_X9 hown hK hP5 0 rfl k_2 (q_sn efs5 (by decide) (q_sn efs2 (by decide) fr_p0_79)) dX9_bring_27 (lv_iload_n hx hb dX9_bring_30 rfl (lv_at hl 0 rfl) (lv_iconst (v := 1) hx hb dX9_bring_31 (by decide) (lv_iadd hx hb dX9_bring_32 (lv_topi fun v_6 ev_6 => ?_))))))
    obtain rfl : v_6 = 1 := ev_6.trans (by decide)
    refine q_ild hx hb hK hP5 4 3 rfl rfl (p1_in (i := 1) (n := 48) (by decide)) dX9_bring_33 (fun v_7 ev_7 => ?_)
    have tv_7 : 0 ≤ v_7.toInt ∧ v_7.toInt ≤ 12 := by rw [ev_7]; exact q_box_1 hr_p0_boxRow 0 (by decide)
    refine qp_X9_53 hx hb hts i_X9 hown hK hP5 hDa za_r_bring hS5 0 rfl k_4 (OKX9_l ho5) dX9_bring_34 (fun H8 lo8 fs8 efs8 (hP8 : va_P (dC, dI) vwCl (zW_r_bring p0 fs8 p0_bLong c_p0_bLong b_p0_bLong p0_bTight c_p0_bTight b_p0_bTight p0_boxMany c_p0_boxMany b_p0_boxMany p0_boxRow c_p0_boxRow b_p0_boxRow p0_boxTight c_p0_boxTight b_p0_boxTight) H8) hS8 => ?_)
    have ho8 := OKX9_p53 ho5 efs8 ⟨by omega, by omega⟩
    clear hP5 hS5
    refine lv_aload_n hx hb dX9_bring_37 rfl (lv_at hl 1 rfl) (lv_aload_n hx hb dX9_bring_38 rfl (lv_at hl 1 rfl) (qg_X9_79 hx hb hts i_X9 hown hK hP8 0 rfl k_2 (q_sn efs8 (by decide) (q_sn efs5 (by decide) (q_sn efs2 (by decide) fr_p0_79))) dX9_bring_39 (lv_iload_n hx hb dX9_bring_42 rfl (lv_at hl 0 rfl) (lv_iconst (v := 2) hx hb dX9_bring_43 (by decide) (lv_iadd hx hb dX9_bring_44 (lv_topi fun v_9 ev_9 => ?_))))))
    obtain rfl : v_9 = 2 := ev_9.trans (by decide)
    refine q_ild hx hb hK hP8 4 3 rfl rfl (p1_in (i := 2) (n := 48) (by decide)) dX9_bring_45 (fun v_10 ev_10 => ?_)
    refine qp_X9_54 hx hb hts i_X9 hown hK hP8 hDa za_r_bring hS8 0 rfl k_5 (OKX9_l ho8) dX9_bring_46 (fun H11 lo11 fs11 efs11 (hP11 : va_P (dC, dI) vwCl (zW_r_bring p0 fs11 p0_bLong c_p0_bLong b_p0_bLong p0_bTight c_p0_bTight b_p0_bTight p0_boxMany c_p0_boxMany b_p0_boxMany p0_boxRow c_p0_boxRow b_p0_boxRow p0_boxTight c_p0_boxTight b_p0_boxTight) H11) hS11 => ?_)
    have ho11 := OKX9_p54 ho8 efs11
    clear hP8 hS8
    refine lv_aload_n hx hb dX9_bring_49 rfl (lv_at hl 1 rfl) (lv_aload_n hx hb dX9_bring_50 rfl (lv_at hl 1 rfl) (qg_X9_79 hx hb hts i_X9 hown hK hP11 0 rfl k_2 (q_sn efs11 (by decide) (q_sn efs8 (by decide) (q_sn efs5 (by decide) (q_sn efs2 (by decide) fr_p0_79)))) dX9_bring_51 (lv_iload_n hx hb dX9_bring_54 rfl (lv_at hl 0 rfl) (lv_iconst (v := 3) hx hb dX9_bring_55 (by decide) (lv_iadd hx hb dX9_bring_56 (lv_topi fun v_12 ev_12 => ?_))))))
    obtain rfl : v_12 = 3 := ev_12.trans (by decide)
    refine q_ild hx hb hK hP11 4 3 rfl rfl (p1_in (i := 3) (n := 48) (by decide)) dX9_bring_57 (fun v_13 ev_13 => ?_)
    refine qp_X9_55 hx hb hts i_X9 hown hK hP11 hDa za_r_bring hS11 0 rfl k_6 (OKX9_l ho11) dX9_bring_58 (fun H14 lo14 fs14 efs14 (hP14 : va_P (dC, dI) vwCl (zW_r_bring p0 fs14 p0_bLong c_p0_bLong b_p0_bLong p0_bTight c_p0_bTight b_p0_bTight p0_boxMany c_p0_boxMany b_p0_boxMany p0_boxRow c_p0_boxRow b_p0_boxRow p0_boxTight c_p0_boxTight b_p0_boxTight) H14) hS14 => ?_)
    have ho14 := OKX9_p55 ho11 efs14
    clear hP11 hS11
    refine lv_aload_n hx hb dX9_bring_61 rfl (lv_at hl 1 rfl) (qg_X9_50 hx hb hts i_X9 hown hK hP14 0 rfl k_7 (q_sn efs14 (by decide) (q_sn efs11 (by decide) (q_sn efs8 (by decide) (q_sn efs5 (by decide) (q_sn efs2 (by decide) fr_p0_50))))) dX9_bring_62 (lv_iconst (v := 0) hx hb dX9_bring_65 (by decide) (lv_aload_n hx hb dX9_bring_66 rfl (lv_at hl 1 rfl) (qg_X9_79 hx hb hts i_X9 hown hK hP14 0 rfl k_2 (q_sn efs14 (by decide) (q_sn efs11 (by decide) (q_sn efs8 (by decide) (q_sn efs5 (by decide) (q_sn efs2 (by decide) fr_p0_79))))) dX9_bring_67 (lv_iload_n hx hb dX9_bring_70 rfl (lv_at hl 0 rfl) (lv_iconst (v := 4) hx hb dX9_bring_71 (by decide) (lv_iadd hx hb dX9_bring_72 (lv_topi fun v_15 ev_15 => ?_))))))))
    obtain rfl : v_15 = 4 := ev_15.trans (by decide)
    refine q_ild hx hb hK hP14 4 3 rfl rfl (p1_in (i := 4) (n := 48) (by decide)) dX9_bring_73 (fun v_16 ev_16 => ?_)
    refine q_ist hx hb hK hP14 hDa za_r_bring hS14 1 0 rfl rfl (p1_in (i := 0) (n := 2) (by decide)) dX9_bring_74 (fun H17 lo17 g17 eg17 (hP17 : va_P (dC, dI) vwCl (zW_r_bring p0 fs14 p0_bLong c_p0_bLong g17 p0_bTight c_p0_bTight b_p0_bTight p0_boxMany c_p0_boxMany b_p0_boxMany p0_boxRow c_p0_boxRow b_p0_boxRow p0_boxTight c_p0_boxTight b_p0_boxTight) H17) hS17 => ?_)
    clear hP14 hS14
    refine lv_aload_n hx hb dX9_bring_75 rfl (lv_at hl 1 rfl) (qg_X9_50 hx hb hts i_X9 hown hK hP17 0 rfl k_7 (q_sn efs14 (by decide) (q_sn efs11 (by decide) (q_sn efs8 (by decide) (q_sn efs5 (by decide) (q_sn efs2 (by decide) fr_p0_50))))) dX9_bring_76 (lv_iconst (v := 1) hx hb dX9_bring_79 (by decide) (lv_aload_n hx hb dX9_bring_80 rfl (lv_at hl 1 rfl) (qg_X9_79 hx hb hts i_X9 hown hK hP17 0 rfl k_2 (q_sn efs14 (by decide) (q_sn efs11 (by decide) (q_sn efs8 (by decide) (q_sn efs5 (by decide) (q_sn efs2 (by decide) fr_p0_79))))) dX9_bring_81 (lv_iload_n hx hb dX9_bring_84 rfl (lv_at hl 0 rfl) (lv_iconst (v := 5) hx hb dX9_bring_85 (by decide) (lv_iadd hx hb dX9_bring_86 (lv_topi fun v_18 ev_18 => ?_))))))))
    obtain rfl : v_18 = 5 := ev_18.trans (by decide)
    refine q_ild hx hb hK hP17 4 3 rfl rfl (p1_in (i := 5) (n := 48) (by decide)) dX9_bring_87 (fun v_19 ev_19 => ?_)
    refine q_ist hx hb hK hP17 hDa za_r_bring hS17 1 0 rfl rfl (p1_in (i := 1) (n := 2) (by decide)) dX9_bring_88 (fun H20 lo20 g20 eg20 (hP20 : va_P (dC, dI) vwCl (zW_r_bring p0 fs14 p0_bLong c_p0_bLong g20 p0_bTight c_p0_bTight b_p0_bTight p0_boxMany c_p0_boxMany b_p0_boxMany p0_boxRow c_p0_boxRow b_p0_boxRow p0_boxTight c_p0_boxTight b_p0_boxTight) H20) hS20 => ?_)
    clear hP17 hS17
    refine lv_aload_n hx hb dX9_bring_89 rfl (lv_at hl 1 rfl) (lv_aload_n hx hb dX9_bring_90 rfl (lv_at hl 1 rfl) (qg_X9_79 hx hb hts i_X9 hown hK hP20 0 rfl k_2 (q_sn efs14 (by decide) (q_sn efs11 (by decide) (q_sn efs8 (by decide) (q_sn efs5 (by decide) (q_sn efs2 (by decide) fr_p0_79))))) dX9_bring_91 (lv_iload_n hx hb dX9_bring_94 rfl (lv_at hl 0 rfl) (lv_bipush (v := 6) hx hb dX9_bring_95 (by decide) (lv_iadd hx hb dX9_bring_97 (lv_topi fun v_21 ev_21 => ?_))))))
    obtain rfl : v_21 = 6 := ev_21.trans (by decide)
    refine q_ild hx hb hK hP20 4 3 rfl rfl (p1_in (i := 6) (n := 48) (by decide)) dX9_bring_98 (fun v_22 ev_22 => ?_)
    refine qp_X9_61 hx hb hts i_X9 hown hK hP20 hDa za_r_bring hS20 0 rfl k_8 (OKX9_l ho14) dX9_bring_99 (fun H23 lo23 fs23 efs23 (hP23 : va_P (dC, dI) vwCl (zW_r_bring p0 fs23 p0_bLong c_p0_bLong g20 p0_bTight c_p0_bTight b_p0_bTight p0_boxMany c_p0_boxMany b_p0_boxMany p0_boxRow c_p0_boxRow b_p0_boxRow p0_boxTight c_p0_boxTight b_p0_boxTight) H23) hS23 => ?_)
    have ho23 := OKX9_p61 ho14 efs23
    clear hP20 hS20
    refine lv_aload_n hx hb dX9_bring_102 rfl (lv_at hl 1 rfl) (lv_aload_n hx hb dX9_bring_103 rfl (lv_at hl 1 rfl) (qg_X9_79 hx hb hts i_X9 hown hK hP23 0 rfl k_2 (q_sn efs23 (by decide) (q_sn efs14 (by decide) (q_sn efs11 (by decide) (q_sn efs8 (by decide) (q_sn efs5 (by decide) (q_sn efs2 (by decide) fr_p0_79)))))) dX9_bring_104 (lv_iload_n hx hb dX9_bring_107 rfl (lv_at hl 0 rfl) (lv_bipush (v := 7) hx hb dX9_bring_108 (by decide) (lv_iadd hx hb dX9_bring_110 (lv_topi fun v_24 ev_24 => ?_))))))
    obtain rfl : v_24 = 7 := ev_24.trans (by decide)
    refine q_ild hx hb hK hP23 4 3 rfl rfl (p1_in (i := 7) (n := 48) (by decide)) dX9_bring_111 (fun v_25 ev_25 => ?_)
    obtain ⟨v_26, v_27, fv_26, fv_27, tv_26⟩ := OKX9_g62 ho23
    refine qp_X9_62 hx hb hts i_X9 hown hK hP23 hDa za_r_bring hS23 0 rfl k_9 (OKX9_l ho23) dX9_bring_112 (fun H28 lo28 fs28 efs28 (hP28 : va_P (dC, dI) vwCl (zW_r_bring p0 fs28 p0_bLong c_p0_bLong g20 p0_bTight c_p0_bTight b_p0_bTight p0_boxMany c_p0_boxMany b_p0_boxMany p0_boxRow c_p0_boxRow b_p0_boxRow p0_boxTight c_p0_boxTight b_p0_boxTight) H28) hS28 => ?_)
    clear hP23 hS23
    refine lv_aload_n hx hb dX9_bring_115 rfl (lv_at hl 1 rfl) (lv_aload_n hx hb dX9_bring_116 rfl (lv_at hl 1 rfl) (qg_X9_79 hx hb hts i_X9 hown hK hP28 0 rfl k_2 (q_sn efs28 (by decide) (q_sn efs23 (by decide) (q_sn efs14 (by decide) (q_sn efs11 (by decide) (q_sn efs8 (by decide) (q_sn efs5 (by decide) (q_sn efs2 (by decide) fr_p0_79))))))) dX9_bring_117 (lv_iload_n hx hb dX9_bring_120 rfl (lv_at hl 0 rfl) (lv_bipush (v := 8) hx hb dX9_bring_121 (by decide) (lv_iadd hx hb dX9_bring_123 (lv_topi fun v_29 ev_29 => ?_))))))
    obtain rfl : v_29 = 8 := ev_29.trans (by decide)
    refine q_ild hx hb hK hP28 4 3 rfl rfl (p1_in (i := 8) (n := 48) (by decide)) dX9_bring_124 (fun v_30 ev_30 => ?_)
    have tv_30 : 0 ≤ v_25.toInt ∧ v_25.toInt ≤ v_30.toInt ∧ v_30.toInt ≤ 100000 := by rw [ev_25, ev_30]; exact q_box_7 hr_p0_boxRow 0 (by decide)
    refine qp_X9_63 hx hb hts i_X9 hown hK hP28 hDa za_r_bring hS28 0 rfl k_10 (q_sl efs28 (OKX9_l ho23)) dX9_bring_125 (fun H31 lo31 fs31 efs31 (hP31 : va_P (dC, dI) vwCl (zW_r_bring p0 fs31 p0_bLong c_p0_bLong g20 p0_bTight c_p0_bTight b_p0_bTight p0_boxMany c_p0_boxMany b_p0_boxMany p0_boxRow c_p0_boxRow b_p0_boxRow p0_boxTight c_p0_boxTight b_p0_boxTight) H31) hS31 => ?_)
    have ho31 := OKX9_pp ho23 efs28 efs31 ⟨by omega, by omega, by omega⟩
    clear hP28 hS28
    refine lv_aload_n hx hb dX9_bring_128 rfl (lv_at hl 1 rfl) (lv_aload_n hx hb dX9_bring_129 rfl (lv_at hl 1 rfl) (qg_X9_79 hx hb hts i_X9 hown hK hP31 0 rfl k_2 (q_sn efs31 (by decide) (q_sn efs28 (by decide) (q_sn efs23 (by decide) (q_sn efs14 (by decide) (q_sn efs11 (by decide) (q_sn efs8 (by decide) (q_sn efs5 (by decide) (q_sn efs2 (by decide) fr_p0_79)))))))) dX9_bring_130 (lv_iload_n hx hb dX9_bring_133 rfl (lv_at hl 0 rfl) (lv_bipush (v := 9) hx hb dX9_bring_134 (by decide) (lv_iadd hx hb dX9_bring_136 (lv_topi fun v_32 ev_32 => ?_))))))
    obtain rfl : v_32 = 9 := ev_32.trans (by decide)
    refine q_ild hx hb hK hP31 4 3 rfl rfl (p1_in (i := 9) (n := 48) (by decide)) dX9_bring_137 (fun v_33 ev_33 => ?_)
    refine qp_X9_64 hx hb hts i_X9 hown hK hP31 hDa za_r_bring hS31 0 rfl k_11 (OKX9_l ho31) dX9_bring_138 (fun H34 lo34 fs34 efs34 (hP34 : va_P (dC, dI) vwCl (zW_r_bring p0 fs34 p0_bLong c_p0_bLong g20 p0_bTight c_p0_bTight b_p0_bTight p0_boxMany c_p0_boxMany b_p0_boxMany p0_boxRow c_p0_boxRow b_p0_boxRow p0_boxTight c_p0_boxTight b_p0_boxTight) H34) hS34 => ?_)
    have ho34 := OKX9_p64 ho31 efs34
    clear hP31 hS31
    refine lv_aload_n hx hb dX9_bring_141 rfl (lv_at hl 1 rfl) (lv_aload_n hx hb dX9_bring_142 rfl (lv_at hl 1 rfl) (qg_X9_79 hx hb hts i_X9 hown hK hP34 0 rfl k_2 (q_sn efs34 (by decide) (q_sn efs31 (by decide) (q_sn efs28 (by decide) (q_sn efs23 (by decide) (q_sn efs14 (by decide) (q_sn efs11 (by decide) (q_sn efs8 (by decide) (q_sn efs5 (by decide) (q_sn efs2 (by decide) fr_p0_79))))))))) dX9_bring_143 (lv_iload_n hx hb dX9_bring_146 rfl (lv_at hl 0 rfl) (lv_bipush (v := 10) hx hb dX9_bring_147 (by decide) (lv_iadd hx hb dX9_bring_149 (lv_topi fun v_35 ev_35 => ?_))))))
    obtain rfl : v_35 = 10 := ev_35.trans (by decide)
    refine q_ild hx hb hK hP34 4 3 rfl rfl (p1_in (i := 10) (n := 48) (by decide)) dX9_bring_150 (fun v_36 ev_36 => ?_)
    refine qp_X9_65 hx hb hts i_X9 hown hK hP34 hDa za_r_bring hS34 0 rfl k_12 (OKX9_l ho34) dX9_bring_151 (fun H37 lo37 fs37 efs37 (hP37 : va_P (dC, dI) vwCl (zW_r_bring p0 fs37 p0_bLong c_p0_bLong g20 p0_bTight c_p0_bTight b_p0_bTight p0_boxMany c_p0_boxMany b_p0_boxMany p0_boxRow c_p0_boxRow b_p0_boxRow p0_boxTight c_p0_boxTight b_p0_boxTight) H37) hS37 => ?_)
    have ho37 := OKX9_p65 ho34 efs37
    clear hP34 hS34
    refine lv_iconst (v := 0) hx hb dX9_bring_154 (by decide) (lv_istore_n (lv' := [(3, .int 0), (2, .int 0), (0, .ref p0), (1, .int 0)]) hx hb dX9_bring_155 rfl hl (by decide) rfl (fun ls hl => ?_))
    have key156 : ∀ (fu156 : Nat) (i : Int32) (bz_p0_bTight : Nat → Int32) (H : Heap) (locs : List Loc) (ls : Array Slot) (hfu156 : 12 - i.toInt ≤ (fu156 : Int)) (ti : (0) ≤ i.toInt ∧ i.toInt ≤ 12), va_P (dC, dI) vwCl (zW_r_bring p0 fs37 p0_bLong c_p0_bLong g20 p0_bTight c_p0_bTight bz_p0_bTight p0_boxMany c_p0_boxMany b_p0_boxMany p0_boxRow c_p0_boxRow b_p0_boxRow p0_boxTight c_p0_boxTight b_p0_boxTight) H → va_S A s.heap H locs → lv_has ls 4 [(3, .int i), (2, .int 0), (0, .ref p0), (1, .int 0)] → W p l e (headSpec zw_r_bring { frames := 0, cells := 0, slots := 0, locals := 0 }).room s m ([.ref p0, .int 0] : List Value).toArray below meth c H locs 0 0 (MQ below (q_Qv (dC, dI) (zG_r_bring p0 f_p0 p0_bLong c_p0_bLong b_p0_bLong p0_bTight c_p0_bTight b_p0_bTight p0_boxMany c_p0_boxMany b_p0_boxMany p0_boxRow c_p0_boxRow b_p0_boxRow p0_boxTight c_p0_boxTight b_p0_boxTight 0) (zA_r_bring p0 p0_bLong p0_bTight p0_boxMany p0_boxRow p0_boxTight) A) ([.ref p0, .int 0] : List Value).toArray s 0 0 A) (F0 m 156 ls []) := by
      intro fu156
      induction fu156 using Nat.strongRecOn with
      | ind fu156 ih156 =>
        intro i bz_p0_bTight H38 lo38 ls hfu156 ti hP38 hS38 hl
        refine lv_iload_n hx hb dX9_bring_156 rfl (lv_at hl 0 rfl) (lv_bipush (v := 12) hx hb dX9_bring_157 (by decide) ?_)
        refine lv_icmp_ge (tgt := 182) hx hb dX9_bring_159 (by decide) (fun c_39 => ?_) (fun c_39 => ?_)
        · have tc_39 := q_ge c_39
          exact q_vret hx hb hr hlocks hS38 dX9_bring_182 ⟨fs37, g20, bz_p0_bTight, ho37, ((((((((((q_fr.rf.st efs2 (by decide)).st efs5 (by decide)).st efs8 (by decide)).st efs11 (by decide)).st efs14 (by decide)).st efs23 (by decide)).st efs28 (by decide)).st efs31 (by decide)).st efs34 (by decide)).st efs37 (by decide)), hP38, za_r_bring⟩
        · have tc_39 := q_ltN c_39
          refine lv_aload_n hx hb dX9_bring_162 rfl (lv_at hl 2 rfl) (qg_X9_49 hx hb hts i_X9 hown hK hP38 0 rfl k_13 (q_sn efs37 (by decide) (q_sn efs34 (by decide) (q_sn efs31 (by decide) (q_sn efs28 (by decide) (q_sn efs23 (by decide) (q_sn efs14 (by decide) (q_sn efs11 (by decide) (q_sn efs8 (by decide) (q_sn efs5 (by decide) (q_sn efs2 (by decide) fr_p0_49)))))))))) dX9_bring_163 (lv_iload_n hx hb dX9_bring_166 rfl (lv_at hl 0 rfl) (lv_aload_n hx hb dX9_bring_167 rfl (lv_at hl 2 rfl) (qg_X9_80 hx hb hts i_X9 hown hK hP38 0 rfl k_14 (q_sn efs37 (by decide) (q_sn efs34 (by decide) (q_sn efs31 (by decide) (q_sn efs28 (by decide) (q_sn efs23 (by decide) (q_sn efs14 (by decide) (q_sn efs11 (by decide) (q_sn efs8 (by decide) (q_sn efs5 (by decide) (q_sn efs2 (by decide) fr_p0_80)))))))))) dX9_bring_168 (lv_iload_n hx hb dX9_bring_171 rfl (lv_at hl 1 rfl) (lv_iload_n hx hb dX9_bring_172 rfl (lv_at hl 0 rfl) (lv_iadd hx hb dX9_bring_173 (lv_topi fun v_40 ev_40 => ?_))))))))
          have tv_40 := q_add ev_40 (by omega) (by omega)
          refine q_ild hx hb hK hP38 5 4 rfl rfl (q_in (by omega) (by omega)) dX9_bring_174 (fun v_41 ev_41 => ?_)
          refine q_ist hx hb hK hP38 hDa za_r_bring hS38 2 1 rfl rfl (q_in (by omega) (by omega)) dX9_bring_175 (fun H42 lo42 g42 eg42 (hP42 : va_P (dC, dI) vwCl (zW_r_bring p0 fs37 p0_bLong c_p0_bLong g20 p0_bTight c_p0_bTight g42 p0_boxMany c_p0_boxMany b_p0_boxMany p0_boxRow c_p0_boxRow b_p0_boxRow p0_boxTight c_p0_boxTight b_p0_boxTight) H42) hS42 => ?_)
          clear hP38 hS38
          obtain ⟨v_43, ev_43⟩ : ∃ y : Int32, y = i + 1 := ⟨_, rfl⟩
          have tv_43 := q_add ev_43 (by omega) (by omega)
          refine lv_iinc (v := v_43) (lv' := [(3, .int v_43), (2, .int 0), (0, .ref p0), (1, .int 0)]) hx hb dX9_bring_176 hl (k := 0) rfl (by rw [ev_43]; rfl) (by decide) rfl (fun ls hl => ?_)
          refine lv_goto (tgt := 156) hx hb dX9_bring_179 (by decide) ?_
          exact ih156 (fu156 - 1) (by omega) v_43 g42 _ _ _ (by omega) (by omega) hP42 hS42 (lv_sub hl [0, 1, 2, 3] rfl)
    exact key156 12 0 b_p0_bTight _ _ _ (by omega) (by omega) hP37 hS37 (lv_sub hl [0, 1, 2, 3] rfl)
  · refine lv_aload_n hx hb dX9_bring_0 rfl (lv_at hl 0 rfl) (lv_aload_n hx hb dX9_bring_1 rfl (lv_at hl 0 rfl) (qg_X9_78 hx hb hts i_X9 hown hK hP 0 rfl k_0 fr_p0_78 dX9_bring_2 (lv_iload_n hx hb dX9_bring_5 rfl (lv_at hl 1 rfl) (q_ild hx hb hK hP 3 2 rfl rfl (p1_in (i := 1) (n := 4) (by decide)) dX9_bring_6 (fun v_44 ev_44 => ?_)))))
    have uv_44 : v_44.toInt = (b_p0_boxMany (1 : Int32).toNatClampNeg).toInt := by rw [ev_44]
    have tv_44 := q_rd' hr_p0_boxMany (p1_in (i := 1) (n := 4) (by decide)) ev_44
    refine qp_X9_52 hx hb hts i_X9 hown hK hP hDa za_r_bring hS 0 rfl k_1 (OKX9_l ho_p0) dX9_bring_7 (fun H45 lo45 fs45 efs45 (hP45 : va_P (dC, dI) vwCl (zW_r_bring p0 fs45 p0_bLong c_p0_bLong b_p0_bLong p0_bTight c_p0_bTight b_p0_bTight p0_boxMany c_p0_boxMany b_p0_boxMany p0_boxRow c_p0_boxRow b_p0_boxRow p0_boxTight c_p0_boxTight b_p0_boxTight) H45) hS45 => ?_)
    have ho45 := OKX9_p52 ho_p0 efs45 ⟨by omega, by omega⟩
    clear hP hS
    refine lv_bipush (v := 12) hx hb dX9_bring_10 (by decide) (lv_iload_n hx hb dX9_bring_12 rfl (lv_at hl 1 rfl) (lv_imul hx hb dX9_bring_13 (lv_topi fun v_46 ev_46 => ?_)))
    obtain rfl : v_46 = 12 := ev_46.trans (by decide)
    refine lv_istore_n (lv' := [(2, .int 12), (0, .ref p0), (1, .int 1)]) hx hb dX9_bring_14 rfl hl (by decide) rfl (fun ls hl => ?_)
    refine lv_aload_n hx hb dX9_bring_15 rfl (lv_at hl 1 rfl) (lv_aload_n hx hb dX9_bring_16 rfl (lv_at hl 1 rfl) (qg_X9_79 hx hb hts i_X9 hown hK hP45 0 rfl k_2 (q_sn efs45 (by decide) fr_p0_79) dX9_bring_17 (lv_iload_n hx hb dX9_bring_20 rfl (lv_at hl 0 rfl) (q_ild hx hb hK hP45 4 3 rfl rfl (p1_in (i := 12) (n := 48) (by decide)) dX9_bring_21 (fun v_47 ev_47 => ?_)))))
    refine qp_X9_51 hx hb hts i_X9 hown hK hP45 hDa za_r_bring hS45 0 rfl k_3 (OKX9_l ho45) dX9_bring_22 (fun H48 lo48 fs48 efs48 (hP48 : va_P (dC, dI) vwCl (zW_r_bring p0 fs48 p0_bLong c_p0_bLong b_p0_bLong p0_bTight c_p0_bTight b_p0_bTight p0_boxMany c_p0_boxMany b_p0_boxMany p0_boxRow c_p0_boxRow b_p0_boxRow p0_boxTight c_p0_boxTight b_p0_boxTight) H48) hS48 => ?_)
    have ho48 := OKX9_p51 ho45 efs48
    clear hP45 hS45
    refine lv_aload_n hx hb dX9_bring_25 rfl (lv_at hl 1 rfl) (lv_aload_n hx hb dX9_bring_26 rfl (lv_at hl 1 rfl) (qg_X9_79 hx hb hts i_X9 hown hK hP48 0 rfl k_2 (q_sn efs48 (by decide) (q_sn efs45 (by decide) fr_p0_79)) dX9_bring_27 (lv_iload_n hx hb dX9_bring_30 rfl (lv_at hl 0 rfl) (lv_iconst (v := 1) hx hb dX9_bring_31 (by decide) (lv_iadd hx hb dX9_bring_32 (lv_topi fun v_49 ev_49 => ?_))))))
    obtain rfl : v_49 = 13 := ev_49.trans (by decide)
    refine q_ild hx hb hK hP48 4 3 rfl rfl (p1_in (i := 13) (n := 48) (by decide)) dX9_bring_33 (fun v_50 ev_50 => ?_)
    have tv_50 : 0 ≤ v_50.toInt ∧ v_50.toInt ≤ 12 := by rw [ev_50]; exact q_box_1 hr_p0_boxRow 1 (by decide)
    refine qp_X9_53 hx hb hts i_X9 hown hK hP48 hDa za_r_bring hS48 0 rfl k_4 (OKX9_l ho48) dX9_bring_34 (fun H51 lo51 fs51 efs51 (hP51 : va_P (dC, dI) vwCl (zW_r_bring p0 fs51 p0_bLong c_p0_bLong b_p0_bLong p0_bTight c_p0_bTight b_p0_bTight p0_boxMany c_p0_boxMany b_p0_boxMany p0_boxRow c_p0_boxRow b_p0_boxRow p0_boxTight c_p0_boxTight b_p0_boxTight) H51) hS51 => ?_)
    have ho51 := OKX9_p53 ho48 efs51 ⟨by omega, by omega⟩
    clear hP48 hS48
    refine lv_aload_n hx hb dX9_bring_37 rfl (lv_at hl 1 rfl) (lv_aload_n hx hb dX9_bring_38 rfl (lv_at hl 1 rfl) (qg_X9_79 hx hb hts i_X9 hown hK hP51 0 rfl k_2 (q_sn efs51 (by decide) (q_sn efs48 (by decide) (q_sn efs45 (by decide) fr_p0_79))) dX9_bring_39 (lv_iload_n hx hb dX9_bring_42 rfl (lv_at hl 0 rfl) (lv_iconst (v := 2) hx hb dX9_bring_43 (by decide) (lv_iadd hx hb dX9_bring_44 (lv_topi fun v_52 ev_52 => ?_))))))
    obtain rfl : v_52 = 14 := ev_52.trans (by decide)
    refine q_ild hx hb hK hP51 4 3 rfl rfl (p1_in (i := 14) (n := 48) (by decide)) dX9_bring_45 (fun v_53 ev_53 => ?_)
    refine qp_X9_54 hx hb hts i_X9 hown hK hP51 hDa za_r_bring hS51 0 rfl k_5 (OKX9_l ho51) dX9_bring_46 (fun H54 lo54 fs54 efs54 (hP54 : va_P (dC, dI) vwCl (zW_r_bring p0 fs54 p0_bLong c_p0_bLong b_p0_bLong p0_bTight c_p0_bTight b_p0_bTight p0_boxMany c_p0_boxMany b_p0_boxMany p0_boxRow c_p0_boxRow b_p0_boxRow p0_boxTight c_p0_boxTight b_p0_boxTight) H54) hS54 => ?_)
    have ho54 := OKX9_p54 ho51 efs54
    clear hP51 hS51
    refine lv_aload_n hx hb dX9_bring_49 rfl (lv_at hl 1 rfl) (lv_aload_n hx hb dX9_bring_50 rfl (lv_at hl 1 rfl) (qg_X9_79 hx hb hts i_X9 hown hK hP54 0 rfl k_2 (q_sn efs54 (by decide) (q_sn efs51 (by decide) (q_sn efs48 (by decide) (q_sn efs45 (by decide) fr_p0_79)))) dX9_bring_51 (lv_iload_n hx hb dX9_bring_54 rfl (lv_at hl 0 rfl) (lv_iconst (v := 3) hx hb dX9_bring_55 (by decide) (lv_iadd hx hb dX9_bring_56 (lv_topi fun v_55 ev_55 => ?_))))))
    obtain rfl : v_55 = 15 := ev_55.trans (by decide)
    refine q_ild hx hb hK hP54 4 3 rfl rfl (p1_in (i := 15) (n := 48) (by decide)) dX9_bring_57 (fun v_56 ev_56 => ?_)
    refine qp_X9_55 hx hb hts i_X9 hown hK hP54 hDa za_r_bring hS54 0 rfl k_6 (OKX9_l ho54) dX9_bring_58 (fun H57 lo57 fs57 efs57 (hP57 : va_P (dC, dI) vwCl (zW_r_bring p0 fs57 p0_bLong c_p0_bLong b_p0_bLong p0_bTight c_p0_bTight b_p0_bTight p0_boxMany c_p0_boxMany b_p0_boxMany p0_boxRow c_p0_boxRow b_p0_boxRow p0_boxTight c_p0_boxTight b_p0_boxTight) H57) hS57 => ?_)
    have ho57 := OKX9_p55 ho54 efs57
    clear hP54 hS54
    refine lv_aload_n hx hb dX9_bring_61 rfl (lv_at hl 1 rfl) (qg_X9_50 hx hb hts i_X9 hown hK hP57 0 rfl k_7 (q_sn efs57 (by decide) (q_sn efs54 (by decide) (q_sn efs51 (by decide) (q_sn efs48 (by decide) (q_sn efs45 (by decide) fr_p0_50))))) dX9_bring_62 (lv_iconst (v := 0) hx hb dX9_bring_65 (by decide) (lv_aload_n hx hb dX9_bring_66 rfl (lv_at hl 1 rfl) (qg_X9_79 hx hb hts i_X9 hown hK hP57 0 rfl k_2 (q_sn efs57 (by decide) (q_sn efs54 (by decide) (q_sn efs51 (by decide) (q_sn efs48 (by decide) (q_sn efs45 (by decide) fr_p0_79))))) dX9_bring_67 (lv_iload_n hx hb dX9_bring_70 rfl (lv_at hl 0 rfl) (lv_iconst (v := 4) hx hb dX9_bring_71 (by decide) (lv_iadd hx hb dX9_bring_72 (lv_topi fun v_58 ev_58 => ?_))))))))
    obtain rfl : v_58 = 16 := ev_58.trans (by decide)
    refine q_ild hx hb hK hP57 4 3 rfl rfl (p1_in (i := 16) (n := 48) (by decide)) dX9_bring_73 (fun v_59 ev_59 => ?_)
    refine q_ist hx hb hK hP57 hDa za_r_bring hS57 1 0 rfl rfl (p1_in (i := 0) (n := 2) (by decide)) dX9_bring_74 (fun H60 lo60 g60 eg60 (hP60 : va_P (dC, dI) vwCl (zW_r_bring p0 fs57 p0_bLong c_p0_bLong g60 p0_bTight c_p0_bTight b_p0_bTight p0_boxMany c_p0_boxMany b_p0_boxMany p0_boxRow c_p0_boxRow b_p0_boxRow p0_boxTight c_p0_boxTight b_p0_boxTight) H60) hS60 => ?_)
    clear hP57 hS57
    refine lv_aload_n hx hb dX9_bring_75 rfl (lv_at hl 1 rfl) (qg_X9_50 hx hb hts i_X9 hown hK hP60 0 rfl k_7 (q_sn efs57 (by decide) (q_sn efs54 (by decide) (q_sn efs51 (by decide) (q_sn efs48 (by decide) (q_sn efs45 (by decide) fr_p0_50))))) dX9_bring_76 (lv_iconst (v := 1) hx hb dX9_bring_79 (by decide) (lv_aload_n hx hb dX9_bring_80 rfl (lv_at hl 1 rfl) (qg_X9_79 hx hb hts i_X9 hown hK hP60 0 rfl k_2 (q_sn efs57 (by decide) (q_sn efs54 (by decide) (q_sn efs51 (by decide) (q_sn efs48 (by decide) (q_sn efs45 (by decide) fr_p0_79))))) dX9_bring_81 (lv_iload_n hx hb dX9_bring_84 rfl (lv_at hl 0 rfl) (lv_iconst (v := 5) hx hb dX9_bring_85 (by decide) (lv_iadd hx hb dX9_bring_86 (lv_topi fun v_61 ev_61 => ?_))))))))
    obtain rfl : v_61 = 17 := ev_61.trans (by decide)
    refine q_ild hx hb hK hP60 4 3 rfl rfl (p1_in (i := 17) (n := 48) (by decide)) dX9_bring_87 (fun v_62 ev_62 => ?_)
    refine q_ist hx hb hK hP60 hDa za_r_bring hS60 1 0 rfl rfl (p1_in (i := 1) (n := 2) (by decide)) dX9_bring_88 (fun H63 lo63 g63 eg63 (hP63 : va_P (dC, dI) vwCl (zW_r_bring p0 fs57 p0_bLong c_p0_bLong g63 p0_bTight c_p0_bTight b_p0_bTight p0_boxMany c_p0_boxMany b_p0_boxMany p0_boxRow c_p0_boxRow b_p0_boxRow p0_boxTight c_p0_boxTight b_p0_boxTight) H63) hS63 => ?_)
    clear hP60 hS60
    refine lv_aload_n hx hb dX9_bring_89 rfl (lv_at hl 1 rfl) (lv_aload_n hx hb dX9_bring_90 rfl (lv_at hl 1 rfl) (qg_X9_79 hx hb hts i_X9 hown hK hP63 0 rfl k_2 (q_sn efs57 (by decide) (q_sn efs54 (by decide) (q_sn efs51 (by decide) (q_sn efs48 (by decide) (q_sn efs45 (by decide) fr_p0_79))))) dX9_bring_91 (lv_iload_n hx hb dX9_bring_94 rfl (lv_at hl 0 rfl) (lv_bipush (v := 6) hx hb dX9_bring_95 (by decide) (lv_iadd hx hb dX9_bring_97 (lv_topi fun v_64 ev_64 => ?_))))))
    obtain rfl : v_64 = 18 := ev_64.trans (by decide)
    refine q_ild hx hb hK hP63 4 3 rfl rfl (p1_in (i := 18) (n := 48) (by decide)) dX9_bring_98 (fun v_65 ev_65 => ?_)
    refine qp_X9_61 hx hb hts i_X9 hown hK hP63 hDa za_r_bring hS63 0 rfl k_8 (OKX9_l ho57) dX9_bring_99 (fun H66 lo66 fs66 efs66 (hP66 : va_P (dC, dI) vwCl (zW_r_bring p0 fs66 p0_bLong c_p0_bLong g63 p0_bTight c_p0_bTight b_p0_bTight p0_boxMany c_p0_boxMany b_p0_boxMany p0_boxRow c_p0_boxRow b_p0_boxRow p0_boxTight c_p0_boxTight b_p0_boxTight) H66) hS66 => ?_)
    have ho66 := OKX9_p61 ho57 efs66
    clear hP63 hS63
    refine lv_aload_n hx hb dX9_bring_102 rfl (lv_at hl 1 rfl) (lv_aload_n hx hb dX9_bring_103 rfl (lv_at hl 1 rfl) (qg_X9_79 hx hb hts i_X9 hown hK hP66 0 rfl k_2 (q_sn efs66 (by decide) (q_sn efs57 (by decide) (q_sn efs54 (by decide) (q_sn efs51 (by decide) (q_sn efs48 (by decide) (q_sn efs45 (by decide) fr_p0_79)))))) dX9_bring_104 (lv_iload_n hx hb dX9_bring_107 rfl (lv_at hl 0 rfl) (lv_bipush (v := 7) hx hb dX9_bring_108 (by decide) (lv_iadd hx hb dX9_bring_110 (lv_topi fun v_67 ev_67 => ?_))))))
    obtain rfl : v_67 = 19 := ev_67.trans (by decide)
    refine q_ild hx hb hK hP66 4 3 rfl rfl (p1_in (i := 19) (n := 48) (by decide)) dX9_bring_111 (fun v_68 ev_68 => ?_)
    obtain ⟨v_69, v_70, fv_69, fv_70, tv_69⟩ := OKX9_g62 ho66
    refine qp_X9_62 hx hb hts i_X9 hown hK hP66 hDa za_r_bring hS66 0 rfl k_9 (OKX9_l ho66) dX9_bring_112 (fun H71 lo71 fs71 efs71 (hP71 : va_P (dC, dI) vwCl (zW_r_bring p0 fs71 p0_bLong c_p0_bLong g63 p0_bTight c_p0_bTight b_p0_bTight p0_boxMany c_p0_boxMany b_p0_boxMany p0_boxRow c_p0_boxRow b_p0_boxRow p0_boxTight c_p0_boxTight b_p0_boxTight) H71) hS71 => ?_)
    clear hP66 hS66
    refine lv_aload_n hx hb dX9_bring_115 rfl (lv_at hl 1 rfl) (lv_aload_n hx hb dX9_bring_116 rfl (lv_at hl 1 rfl) (qg_X9_79 hx hb hts i_X9 hown hK hP71 0 rfl k_2 (q_sn efs71 (by decide) (q_sn efs66 (by decide) (q_sn efs57 (by decide) (q_sn efs54 (by decide) (q_sn efs51 (by decide) (q_sn efs48 (by decide) (q_sn efs45 (by decide) fr_p0_79))))))) dX9_bring_117 (lv_iload_n hx hb dX9_bring_120 rfl (lv_at hl 0 rfl) (lv_bipush (v := 8) hx hb dX9_bring_121 (by decide) (lv_iadd hx hb dX9_bring_123 (lv_topi fun v_72 ev_72 => ?_))))))
    obtain rfl : v_72 = 20 := ev_72.trans (by decide)
    refine q_ild hx hb hK hP71 4 3 rfl rfl (p1_in (i := 20) (n := 48) (by decide)) dX9_bring_124 (fun v_73 ev_73 => ?_)
    have tv_73 : 0 ≤ v_68.toInt ∧ v_68.toInt ≤ v_73.toInt ∧ v_73.toInt ≤ 100000 := by rw [ev_68, ev_73]; exact q_box_7 hr_p0_boxRow 1 (by decide)
    refine qp_X9_63 hx hb hts i_X9 hown hK hP71 hDa za_r_bring hS71 0 rfl k_10 (q_sl efs71 (OKX9_l ho66)) dX9_bring_125 (fun H74 lo74 fs74 efs74 (hP74 : va_P (dC, dI) vwCl (zW_r_bring p0 fs74 p0_bLong c_p0_bLong g63 p0_bTight c_p0_bTight b_p0_bTight p0_boxMany c_p0_boxMany b_p0_boxMany p0_boxRow c_p0_boxRow b_p0_boxRow p0_boxTight c_p0_boxTight b_p0_boxTight) H74) hS74 => ?_)
    have ho74 := OKX9_pp ho66 efs71 efs74 ⟨by omega, by omega, by omega⟩
    clear hP71 hS71
    refine lv_aload_n hx hb dX9_bring_128 rfl (lv_at hl 1 rfl) (lv_aload_n hx hb dX9_bring_129 rfl (lv_at hl 1 rfl) (qg_X9_79 hx hb hts i_X9 hown hK hP74 0 rfl k_2 (q_sn efs74 (by decide) (q_sn efs71 (by decide) (q_sn efs66 (by decide) (q_sn efs57 (by decide) (q_sn efs54 (by decide) (q_sn efs51 (by decide) (q_sn efs48 (by decide) (q_sn efs45 (by decide) fr_p0_79)))))))) dX9_bring_130 (lv_iload_n hx hb dX9_bring_133 rfl (lv_at hl 0 rfl) (lv_bipush (v := 9) hx hb dX9_bring_134 (by decide) (lv_iadd hx hb dX9_bring_136 (lv_topi fun v_75 ev_75 => ?_))))))
    obtain rfl : v_75 = 21 := ev_75.trans (by decide)
    refine q_ild hx hb hK hP74 4 3 rfl rfl (p1_in (i := 21) (n := 48) (by decide)) dX9_bring_137 (fun v_76 ev_76 => ?_)
    refine qp_X9_64 hx hb hts i_X9 hown hK hP74 hDa za_r_bring hS74 0 rfl k_11 (OKX9_l ho74) dX9_bring_138 (fun H77 lo77 fs77 efs77 (hP77 : va_P (dC, dI) vwCl (zW_r_bring p0 fs77 p0_bLong c_p0_bLong g63 p0_bTight c_p0_bTight b_p0_bTight p0_boxMany c_p0_boxMany b_p0_boxMany p0_boxRow c_p0_boxRow b_p0_boxRow p0_boxTight c_p0_boxTight b_p0_boxTight) H77) hS77 => ?_)
    have ho77 := OKX9_p64 ho74 efs77
    clear hP74 hS74
    refine lv_aload_n hx hb dX9_bring_141 rfl (lv_at hl 1 rfl) (lv_aload_n hx hb dX9_bring_142 rfl (lv_at hl 1 rfl) (qg_X9_79 hx hb hts i_X9 hown hK hP77 0 rfl k_2 (q_sn efs77 (by decide) (q_sn efs74 (by decide) (q_sn efs71 (by decide) (q_sn efs66 (by decide) (q_sn efs57 (by decide) (q_sn efs54 (by decide) (q_sn efs51 (by decide) (q_sn efs48 (by decide) (q_sn efs45 (by decide) fr_p0_79))))))))) dX9_bring_143 (lv_iload_n hx hb dX9_bring_146 rfl (lv_at hl 0 rfl) (lv_bipush (v := 10) hx hb dX9_bring_147 (by decide) (lv_iadd hx hb dX9_bring_149 (lv_topi fun v_78 ev_78 => ?_))))))
    obtain rfl : v_78 = 22 := ev_78.trans (by decide)
    refine q_ild hx hb hK hP77 4 3 rfl rfl (p1_in (i := 22) (n := 48) (by decide)) dX9_bring_150 (fun v_79 ev_79 => ?_)
    refine qp_X9_65 hx hb hts i_X9 hown hK hP77 hDa za_r_bring hS77 0 rfl k_12 (OKX9_l ho77) dX9_bring_151 (fun H80 lo80 fs80 efs80 (hP80 : va_P (dC, dI) vwCl (zW_r_bring p0 fs80 p0_bLong c_p0_bLong g63 p0_bTight c_p0_bTight b_p0_bTight p0_boxMany c_p0_boxMany b_p0_boxMany p0_boxRow c_p0_boxRow b_p0_boxRow p0_boxTight c_p0_boxTight b_p0_boxTight) H80) hS80 => ?_)
    have ho80 := OKX9_p65 ho77 efs80
    clear hP77 hS77
    refine lv_iconst (v := 0) hx hb dX9_bring_154 (by decide) (lv_istore_n (lv' := [(3, .int 0), (2, .int 12), (0, .ref p0), (1, .int 1)]) hx hb dX9_bring_155 rfl hl (by decide) rfl (fun ls hl => ?_))
    have key156 : ∀ (fu156 : Nat) (i : Int32) (bz_p0_bTight : Nat → Int32) (H : Heap) (locs : List Loc) (ls : Array Slot) (hfu156 : 12 - i.toInt ≤ (fu156 : Int)) (ti : (0) ≤ i.toInt ∧ i.toInt ≤ 12), va_P (dC, dI) vwCl (zW_r_bring p0 fs80 p0_bLong c_p0_bLong g63 p0_bTight c_p0_bTight bz_p0_bTight p0_boxMany c_p0_boxMany b_p0_boxMany p0_boxRow c_p0_boxRow b_p0_boxRow p0_boxTight c_p0_boxTight b_p0_boxTight) H → va_S A s.heap H locs → lv_has ls 4 [(3, .int i), (2, .int 12), (0, .ref p0), (1, .int 1)] → W p l e (headSpec zw_r_bring { frames := 0, cells := 0, slots := 0, locals := 0 }).room s m ([.ref p0, .int 1] : List Value).toArray below meth c H locs 0 0 (MQ below (q_Qv (dC, dI) (zG_r_bring p0 f_p0 p0_bLong c_p0_bLong b_p0_bLong p0_bTight c_p0_bTight b_p0_bTight p0_boxMany c_p0_boxMany b_p0_boxMany p0_boxRow c_p0_boxRow b_p0_boxRow p0_boxTight c_p0_boxTight b_p0_boxTight 1) (zA_r_bring p0 p0_bLong p0_bTight p0_boxMany p0_boxRow p0_boxTight) A) ([.ref p0, .int 1] : List Value).toArray s 0 0 A) (F0 m 156 ls []) := by
      intro fu156
      induction fu156 using Nat.strongRecOn with
      | ind fu156 ih156 =>
        intro i bz_p0_bTight H81 lo81 ls hfu156 ti hP81 hS81 hl
        refine lv_iload_n hx hb dX9_bring_156 rfl (lv_at hl 0 rfl) (lv_bipush (v := 12) hx hb dX9_bring_157 (by decide) ?_)
        refine lv_icmp_ge (tgt := 182) hx hb dX9_bring_159 (by decide) (fun c_82 => ?_) (fun c_82 => ?_)
        · have tc_82 := q_ge c_82
          exact q_vret hx hb hr hlocks hS81 dX9_bring_182 ⟨fs80, g63, bz_p0_bTight, ho80, ((((((((((q_fr.rf.st efs45 (by decide)).st efs48 (by decide)).st efs51 (by decide)).st efs54 (by decide)).st efs57 (by decide)).st efs66 (by decide)).st efs71 (by decide)).st efs74 (by decide)).st efs77 (by decide)).st efs80 (by decide)), hP81, za_r_bring⟩
        · have tc_82 := q_ltN c_82
          refine lv_aload_n hx hb dX9_bring_162 rfl (lv_at hl 2 rfl) (qg_X9_49 hx hb hts i_X9 hown hK hP81 0 rfl k_13 (q_sn efs80 (by decide) (q_sn efs77 (by decide) (q_sn efs74 (by decide) (q_sn efs71 (by decide) (q_sn efs66 (by decide) (q_sn efs57 (by decide) (q_sn efs54 (by decide) (q_sn efs51 (by decide) (q_sn efs48 (by decide) (q_sn efs45 (by decide) fr_p0_49)))))))))) dX9_bring_163 (lv_iload_n hx hb dX9_bring_166 rfl (lv_at hl 0 rfl) (lv_aload_n hx hb dX9_bring_167 rfl (lv_at hl 2 rfl) (qg_X9_80 hx hb hts i_X9 hown hK hP81 0 rfl k_14 (q_sn efs80 (by decide) (q_sn efs77 (by decide) (q_sn efs74 (by decide) (q_sn efs71 (by decide) (q_sn efs66 (by decide) (q_sn efs57 (by decide) (q_sn efs54 (by decide) (q_sn efs51 (by decide) (q_sn efs48 (by decide) (q_sn efs45 (by decide) fr_p0_80)))))))))) dX9_bring_168 (lv_iload_n hx hb dX9_bring_171 rfl (lv_at hl 1 rfl) (lv_iload_n hx hb dX9_bring_172 rfl (lv_at hl 0 rfl) (lv_iadd hx hb dX9_bring_173 (lv_topi fun v_83 ev_83 => ?_))))))))
          have tv_83 := q_add ev_83 (by omega) (by omega)
          refine q_ild hx hb hK hP81 5 4 rfl rfl (q_in (by omega) (by omega)) dX9_bring_174 (fun v_84 ev_84 => ?_)
          refine q_ist hx hb hK hP81 hDa za_r_bring hS81 2 1 rfl rfl (q_in (by omega) (by omega)) dX9_bring_175 (fun H85 lo85 g85 eg85 (hP85 : va_P (dC, dI) vwCl (zW_r_bring p0 fs80 p0_bLong c_p0_bLong g63 p0_bTight c_p0_bTight g85 p0_boxMany c_p0_boxMany b_p0_boxMany p0_boxRow c_p0_boxRow b_p0_boxRow p0_boxTight c_p0_boxTight b_p0_boxTight) H85) hS85 => ?_)
          clear hP81 hS81
          obtain ⟨v_86, ev_86⟩ : ∃ y : Int32, y = i + 1 := ⟨_, rfl⟩
          have tv_86 := q_add ev_86 (by omega) (by omega)
          refine lv_iinc (v := v_86) (lv' := [(3, .int v_86), (2, .int 12), (0, .ref p0), (1, .int 1)]) hx hb dX9_bring_176 hl (k := 0) rfl (by rw [ev_86]; rfl) (by decide) rfl (fun ls hl => ?_)
          refine lv_goto (tgt := 156) hx hb dX9_bring_179 (by decide) ?_
          exact ih156 (fu156 - 1) (by omega) v_86 g85 _ _ _ (by omega) (by omega) hP85 hS85 (lv_sub hl [0, 1, 2, 3] rfl)
    exact key156 12 0 b_p0_bTight _ _ _ (by omega) (by omega) hP80 hS80 (lv_sub hl [0, 1, 2, 3] rfl)
  · refine lv_aload_n hx hb dX9_bring_0 rfl (lv_at hl 0 rfl) (lv_aload_n hx hb dX9_bring_1 rfl (lv_at hl 0 rfl) (qg_X9_78 hx hb hts i_X9 hown hK hP 0 rfl k_0 fr_p0_78 dX9_bring_2 (lv_iload_n hx hb dX9_bring_5 rfl (lv_at hl 1 rfl) (q_ild hx hb hK hP 3 2 rfl rfl (p1_in (i := 2) (n := 4) (by decide)) dX9_bring_6 (fun v_87 ev_87 => ?_)))))
    have uv_87 : v_87.toInt = (b_p0_boxMany (2 : Int32).toNatClampNeg).toInt := by rw [ev_87]
    have tv_87 := q_rd' hr_p0_boxMany (p1_in (i := 2) (n := 4) (by decide)) ev_87
    refine qp_X9_52 hx hb hts i_X9 hown hK hP hDa za_r_bring hS 0 rfl k_1 (OKX9_l ho_p0) dX9_bring_7 (fun H88 lo88 fs88 efs88 (hP88 : va_P (dC, dI) vwCl (zW_r_bring p0 fs88 p0_bLong c_p0_bLong b_p0_bLong p0_bTight c_p0_bTight b_p0_bTight p0_boxMany c_p0_boxMany b_p0_boxMany p0_boxRow c_p0_boxRow b_p0_boxRow p0_boxTight c_p0_boxTight b_p0_boxTight) H88) hS88 => ?_)
    have ho88 := OKX9_p52 ho_p0 efs88 ⟨by omega, by omega⟩
    clear hP hS
    refine lv_bipush (v := 12) hx hb dX9_bring_10 (by decide) (lv_iload_n hx hb dX9_bring_12 rfl (lv_at hl 1 rfl) (lv_imul hx hb dX9_bring_13 (lv_topi fun v_89 ev_89 => ?_)))
    obtain rfl : v_89 = 24 := ev_89.trans (by decide)
    refine lv_istore_n (lv' := [(2, .int 24), (0, .ref p0), (1, .int 2)]) hx hb dX9_bring_14 rfl hl (by decide) rfl (fun ls hl => ?_)
    refine lv_aload_n hx hb dX9_bring_15 rfl (lv_at hl 1 rfl) (lv_aload_n hx hb dX9_bring_16 rfl (lv_at hl 1 rfl) (qg_X9_79 hx hb hts i_X9 hown hK hP88 0 rfl k_2 (q_sn efs88 (by decide) fr_p0_79) dX9_bring_17 (lv_iload_n hx hb dX9_bring_20 rfl (lv_at hl 0 rfl) (q_ild hx hb hK hP88 4 3 rfl rfl (p1_in (i := 24) (n := 48) (by decide)) dX9_bring_21 (fun v_90 ev_90 => ?_)))))
    refine qp_X9_51 hx hb hts i_X9 hown hK hP88 hDa za_r_bring hS88 0 rfl k_3 (OKX9_l ho88) dX9_bring_22 (fun H91 lo91 fs91 efs91 (hP91 : va_P (dC, dI) vwCl (zW_r_bring p0 fs91 p0_bLong c_p0_bLong b_p0_bLong p0_bTight c_p0_bTight b_p0_bTight p0_boxMany c_p0_boxMany b_p0_boxMany p0_boxRow c_p0_boxRow b_p0_boxRow p0_boxTight c_p0_boxTight b_p0_boxTight) H91) hS91 => ?_)
    have ho91 := OKX9_p51 ho88 efs91
    clear hP88 hS88
    refine lv_aload_n hx hb dX9_bring_25 rfl (lv_at hl 1 rfl) (lv_aload_n hx hb dX9_bring_26 rfl (lv_at hl 1 rfl) (qg_X9_79 hx hb hts i_X9 hown hK hP91 0 rfl k_2 (q_sn efs91 (by decide) (q_sn efs88 (by decide) fr_p0_79)) dX9_bring_27 (lv_iload_n hx hb dX9_bring_30 rfl (lv_at hl 0 rfl) (lv_iconst (v := 1) hx hb dX9_bring_31 (by decide) (lv_iadd hx hb dX9_bring_32 (lv_topi fun v_92 ev_92 => ?_))))))
    obtain rfl : v_92 = 25 := ev_92.trans (by decide)
    refine q_ild hx hb hK hP91 4 3 rfl rfl (p1_in (i := 25) (n := 48) (by decide)) dX9_bring_33 (fun v_93 ev_93 => ?_)
    have tv_93 : 0 ≤ v_93.toInt ∧ v_93.toInt ≤ 12 := by rw [ev_93]; exact q_box_1 hr_p0_boxRow 2 (by decide)
    refine qp_X9_53 hx hb hts i_X9 hown hK hP91 hDa za_r_bring hS91 0 rfl k_4 (OKX9_l ho91) dX9_bring_34 (fun H94 lo94 fs94 efs94 (hP94 : va_P (dC, dI) vwCl (zW_r_bring p0 fs94 p0_bLong c_p0_bLong b_p0_bLong p0_bTight c_p0_bTight b_p0_bTight p0_boxMany c_p0_boxMany b_p0_boxMany p0_boxRow c_p0_boxRow b_p0_boxRow p0_boxTight c_p0_boxTight b_p0_boxTight) H94) hS94 => ?_)
    have ho94 := OKX9_p53 ho91 efs94 ⟨by omega, by omega⟩
    clear hP91 hS91
    refine lv_aload_n hx hb dX9_bring_37 rfl (lv_at hl 1 rfl) (lv_aload_n hx hb dX9_bring_38 rfl (lv_at hl 1 rfl) (qg_X9_79 hx hb hts i_X9 hown hK hP94 0 rfl k_2 (q_sn efs94 (by decide) (q_sn efs91 (by decide) (q_sn efs88 (by decide) fr_p0_79))) dX9_bring_39 (lv_iload_n hx hb dX9_bring_42 rfl (lv_at hl 0 rfl) (lv_iconst (v := 2) hx hb dX9_bring_43 (by decide) (lv_iadd hx hb dX9_bring_44 (lv_topi fun v_95 ev_95 => ?_))))))
    obtain rfl : v_95 = 26 := ev_95.trans (by decide)
    refine q_ild hx hb hK hP94 4 3 rfl rfl (p1_in (i := 26) (n := 48) (by decide)) dX9_bring_45 (fun v_96 ev_96 => ?_)
    refine qp_X9_54 hx hb hts i_X9 hown hK hP94 hDa za_r_bring hS94 0 rfl k_5 (OKX9_l ho94) dX9_bring_46 (fun H97 lo97 fs97 efs97 (hP97 : va_P (dC, dI) vwCl (zW_r_bring p0 fs97 p0_bLong c_p0_bLong b_p0_bLong p0_bTight c_p0_bTight b_p0_bTight p0_boxMany c_p0_boxMany b_p0_boxMany p0_boxRow c_p0_boxRow b_p0_boxRow p0_boxTight c_p0_boxTight b_p0_boxTight) H97) hS97 => ?_)
    have ho97 := OKX9_p54 ho94 efs97
    clear hP94 hS94
    refine lv_aload_n hx hb dX9_bring_49 rfl (lv_at hl 1 rfl) (lv_aload_n hx hb dX9_bring_50 rfl (lv_at hl 1 rfl) (qg_X9_79 hx hb hts i_X9 hown hK hP97 0 rfl k_2 (q_sn efs97 (by decide) (q_sn efs94 (by decide) (q_sn efs91 (by decide) (q_sn efs88 (by decide) fr_p0_79)))) dX9_bring_51 (lv_iload_n hx hb dX9_bring_54 rfl (lv_at hl 0 rfl) (lv_iconst (v := 3) hx hb dX9_bring_55 (by decide) (lv_iadd hx hb dX9_bring_56 (lv_topi fun v_98 ev_98 => ?_))))))
    obtain rfl : v_98 = 27 := ev_98.trans (by decide)
    refine q_ild hx hb hK hP97 4 3 rfl rfl (p1_in (i := 27) (n := 48) (by decide)) dX9_bring_57 (fun v_99 ev_99 => ?_)
    refine qp_X9_55 hx hb hts i_X9 hown hK hP97 hDa za_r_bring hS97 0 rfl k_6 (OKX9_l ho97) dX9_bring_58 (fun H100 lo100 fs100 efs100 (hP100 : va_P (dC, dI) vwCl (zW_r_bring p0 fs100 p0_bLong c_p0_bLong b_p0_bLong p0_bTight c_p0_bTight b_p0_bTight p0_boxMany c_p0_boxMany b_p0_boxMany p0_boxRow c_p0_boxRow b_p0_boxRow p0_boxTight c_p0_boxTight b_p0_boxTight) H100) hS100 => ?_)
    have ho100 := OKX9_p55 ho97 efs100
    clear hP97 hS97
    refine lv_aload_n hx hb dX9_bring_61 rfl (lv_at hl 1 rfl) (qg_X9_50 hx hb hts i_X9 hown hK hP100 0 rfl k_7 (q_sn efs100 (by decide) (q_sn efs97 (by decide) (q_sn efs94 (by decide) (q_sn efs91 (by decide) (q_sn efs88 (by decide) fr_p0_50))))) dX9_bring_62 (lv_iconst (v := 0) hx hb dX9_bring_65 (by decide) (lv_aload_n hx hb dX9_bring_66 rfl (lv_at hl 1 rfl) (qg_X9_79 hx hb hts i_X9 hown hK hP100 0 rfl k_2 (q_sn efs100 (by decide) (q_sn efs97 (by decide) (q_sn efs94 (by decide) (q_sn efs91 (by decide) (q_sn efs88 (by decide) fr_p0_79))))) dX9_bring_67 (lv_iload_n hx hb dX9_bring_70 rfl (lv_at hl 0 rfl) (lv_iconst (v := 4) hx hb dX9_bring_71 (by decide) (lv_iadd hx hb dX9_bring_72 (lv_topi fun v_101 ev_101 => ?_))))))))
    obtain rfl : v_101 = 28 := ev_101.trans (by decide)
    refine q_ild hx hb hK hP100 4 3 rfl rfl (p1_in (i := 28) (n := 48) (by decide)) dX9_bring_73 (fun v_102 ev_102 => ?_)
    refine q_ist hx hb hK hP100 hDa za_r_bring hS100 1 0 rfl rfl (p1_in (i := 0) (n := 2) (by decide)) dX9_bring_74 (fun H103 lo103 g103 eg103 (hP103 : va_P (dC, dI) vwCl (zW_r_bring p0 fs100 p0_bLong c_p0_bLong g103 p0_bTight c_p0_bTight b_p0_bTight p0_boxMany c_p0_boxMany b_p0_boxMany p0_boxRow c_p0_boxRow b_p0_boxRow p0_boxTight c_p0_boxTight b_p0_boxTight) H103) hS103 => ?_)
    clear hP100 hS100
    refine lv_aload_n hx hb dX9_bring_75 rfl (lv_at hl 1 rfl) (qg_X9_50 hx hb hts i_X9 hown hK hP103 0 rfl k_7 (q_sn efs100 (by decide) (q_sn efs97 (by decide) (q_sn efs94 (by decide) (q_sn efs91 (by decide) (q_sn efs88 (by decide) fr_p0_50))))) dX9_bring_76 (lv_iconst (v := 1) hx hb dX9_bring_79 (by decide) (lv_aload_n hx hb dX9_bring_80 rfl (lv_at hl 1 rfl) (qg_X9_79 hx hb hts i_X9 hown hK hP103 0 rfl k_2 (q_sn efs100 (by decide) (q_sn efs97 (by decide) (q_sn efs94 (by decide) (q_sn efs91 (by decide) (q_sn efs88 (by decide) fr_p0_79))))) dX9_bring_81 (lv_iload_n hx hb dX9_bring_84 rfl (lv_at hl 0 rfl) (lv_iconst (v := 5) hx hb dX9_bring_85 (by decide) (lv_iadd hx hb dX9_bring_86 (lv_topi fun v_104 ev_104 => ?_))))))))
    obtain rfl : v_104 = 29 := ev_104.trans (by decide)
    refine q_ild hx hb hK hP103 4 3 rfl rfl (p1_in (i := 29) (n := 48) (by decide)) dX9_bring_87 (fun v_105 ev_105 => ?_)
    refine q_ist hx hb hK hP103 hDa za_r_bring hS103 1 0 rfl rfl (p1_in (i := 1) (n := 2) (by decide)) dX9_bring_88 (fun H106 lo106 g106 eg106 (hP106 : va_P (dC, dI) vwCl (zW_r_bring p0 fs100 p0_bLong c_p0_bLong g106 p0_bTight c_p0_bTight b_p0_bTight p0_boxMany c_p0_boxMany b_p0_boxMany p0_boxRow c_p0_boxRow b_p0_boxRow p0_boxTight c_p0_boxTight b_p0_boxTight) H106) hS106 => ?_)
    clear hP103 hS103
    refine lv_aload_n hx hb dX9_bring_89 rfl (lv_at hl 1 rfl) (lv_aload_n hx hb dX9_bring_90 rfl (lv_at hl 1 rfl) (qg_X9_79 hx hb hts i_X9 hown hK hP106 0 rfl k_2 (q_sn efs100 (by decide) (q_sn efs97 (by decide) (q_sn efs94 (by decide) (q_sn efs91 (by decide) (q_sn efs88 (by decide) fr_p0_79))))) dX9_bring_91 (lv_iload_n hx hb dX9_bring_94 rfl (lv_at hl 0 rfl) (lv_bipush (v := 6) hx hb dX9_bring_95 (by decide) (lv_iadd hx hb dX9_bring_97 (lv_topi fun v_107 ev_107 => ?_))))))
    obtain rfl : v_107 = 30 := ev_107.trans (by decide)
    refine q_ild hx hb hK hP106 4 3 rfl rfl (p1_in (i := 30) (n := 48) (by decide)) dX9_bring_98 (fun v_108 ev_108 => ?_)
    refine qp_X9_61 hx hb hts i_X9 hown hK hP106 hDa za_r_bring hS106 0 rfl k_8 (OKX9_l ho100) dX9_bring_99 (fun H109 lo109 fs109 efs109 (hP109 : va_P (dC, dI) vwCl (zW_r_bring p0 fs109 p0_bLong c_p0_bLong g106 p0_bTight c_p0_bTight b_p0_bTight p0_boxMany c_p0_boxMany b_p0_boxMany p0_boxRow c_p0_boxRow b_p0_boxRow p0_boxTight c_p0_boxTight b_p0_boxTight) H109) hS109 => ?_)
    have ho109 := OKX9_p61 ho100 efs109
    clear hP106 hS106
    refine lv_aload_n hx hb dX9_bring_102 rfl (lv_at hl 1 rfl) (lv_aload_n hx hb dX9_bring_103 rfl (lv_at hl 1 rfl) (qg_X9_79 hx hb hts i_X9 hown hK hP109 0 rfl k_2 (q_sn efs109 (by decide) (q_sn efs100 (by decide) (q_sn efs97 (by decide) (q_sn efs94 (by decide) (q_sn efs91 (by decide) (q_sn efs88 (by decide) fr_p0_79)))))) dX9_bring_104 (lv_iload_n hx hb dX9_bring_107 rfl (lv_at hl 0 rfl) (lv_bipush (v := 7) hx hb dX9_bring_108 (by decide) (lv_iadd hx hb dX9_bring_110 (lv_topi fun v_110 ev_110 => ?_))))))
    obtain rfl : v_110 = 31 := ev_110.trans (by decide)
    refine q_ild hx hb hK hP109 4 3 rfl rfl (p1_in (i := 31) (n := 48) (by decide)) dX9_bring_111 (fun v_111 ev_111 => ?_)
    obtain ⟨v_112, v_113, fv_112, fv_113, tv_112⟩ := OKX9_g62 ho109
    refine qp_X9_62 hx hb hts i_X9 hown hK hP109 hDa za_r_bring hS109 0 rfl k_9 (OKX9_l ho109) dX9_bring_112 (fun H114 lo114 fs114 efs114 (hP114 : va_P (dC, dI) vwCl (zW_r_bring p0 fs114 p0_bLong c_p0_bLong g106 p0_bTight c_p0_bTight b_p0_bTight p0_boxMany c_p0_boxMany b_p0_boxMany p0_boxRow c_p0_boxRow b_p0_boxRow p0_boxTight c_p0_boxTight b_p0_boxTight) H114) hS114 => ?_)
    clear hP109 hS109
    refine lv_aload_n hx hb dX9_bring_115 rfl (lv_at hl 1 rfl) (lv_aload_n hx hb dX9_bring_116 rfl (lv_at hl 1 rfl) (qg_X9_79 hx hb hts i_X9 hown hK hP114 0 rfl k_2 (q_sn efs114 (by decide) (q_sn efs109 (by decide) (q_sn efs100 (by decide) (q_sn efs97 (by decide) (q_sn efs94 (by decide) (q_sn efs91 (by decide) (q_sn efs88 (by decide) fr_p0_79))))))) dX9_bring_117 (lv_iload_n hx hb dX9_bring_120 rfl (lv_at hl 0 rfl) (lv_bipush (v := 8) hx hb dX9_bring_121 (by decide) (lv_iadd hx hb dX9_bring_123 (lv_topi fun v_115 ev_115 => ?_))))))
    obtain rfl : v_115 = 32 := ev_115.trans (by decide)
    refine q_ild hx hb hK hP114 4 3 rfl rfl (p1_in (i := 32) (n := 48) (by decide)) dX9_bring_124 (fun v_116 ev_116 => ?_)
    have tv_116 : 0 ≤ v_111.toInt ∧ v_111.toInt ≤ v_116.toInt ∧ v_116.toInt ≤ 100000 := by rw [ev_111, ev_116]; exact q_box_7 hr_p0_boxRow 2 (by decide)
    refine qp_X9_63 hx hb hts i_X9 hown hK hP114 hDa za_r_bring hS114 0 rfl k_10 (q_sl efs114 (OKX9_l ho109)) dX9_bring_125 (fun H117 lo117 fs117 efs117 (hP117 : va_P (dC, dI) vwCl (zW_r_bring p0 fs117 p0_bLong c_p0_bLong g106 p0_bTight c_p0_bTight b_p0_bTight p0_boxMany c_p0_boxMany b_p0_boxMany p0_boxRow c_p0_boxRow b_p0_boxRow p0_boxTight c_p0_boxTight b_p0_boxTight) H117) hS117 => ?_)
    have ho117 := OKX9_pp ho109 efs114 efs117 ⟨by omega, by omega, by omega⟩
    clear hP114 hS114
    refine lv_aload_n hx hb dX9_bring_128 rfl (lv_at hl 1 rfl) (lv_aload_n hx hb dX9_bring_129 rfl (lv_at hl 1 rfl) (qg_X9_79 hx hb hts i_X9 hown hK hP117 0 rfl k_2 (q_sn efs117 (by decide) (q_sn efs114 (by decide) (q_sn efs109 (by decide) (q_sn efs100 (by decide) (q_sn efs97 (by decide) (q_sn efs94 (by decide) (q_sn efs91 (by decide) (q_sn efs88 (by decide) fr_p0_79)))))))) dX9_bring_130 (lv_iload_n hx hb dX9_bring_133 rfl (lv_at hl 0 rfl) (lv_bipush (v := 9) hx hb dX9_bring_134 (by decide) (lv_iadd hx hb dX9_bring_136 (lv_topi fun v_118 ev_118 => ?_))))))
    obtain rfl : v_118 = 33 := ev_118.trans (by decide)
    refine q_ild hx hb hK hP117 4 3 rfl rfl (p1_in (i := 33) (n := 48) (by decide)) dX9_bring_137 (fun v_119 ev_119 => ?_)
    refine qp_X9_64 hx hb hts i_X9 hown hK hP117 hDa za_r_bring hS117 0 rfl k_11 (OKX9_l ho117) dX9_bring_138 (fun H120 lo120 fs120 efs120 (hP120 : va_P (dC, dI) vwCl (zW_r_bring p0 fs120 p0_bLong c_p0_bLong g106 p0_bTight c_p0_bTight b_p0_bTight p0_boxMany c_p0_boxMany b_p0_boxMany p0_boxRow c_p0_boxRow b_p0_boxRow p0_boxTight c_p0_boxTight b_p0_boxTight) H120) hS120 => ?_)
    have ho120 := OKX9_p64 ho117 efs120
    clear hP117 hS117
    refine lv_aload_n hx hb dX9_bring_141 rfl (lv_at hl 1 rfl) (lv_aload_n hx hb dX9_bring_142 rfl (lv_at hl 1 rfl) (qg_X9_79 hx hb hts i_X9 hown hK hP120 0 rfl k_2 (q_sn efs120 (by decide) (q_sn efs117 (by decide) (q_sn efs114 (by decide) (q_sn efs109 (by decide) (q_sn efs100 (by decide) (q_sn efs97 (by decide) (q_sn efs94 (by decide) (q_sn efs91 (by decide) (q_sn efs88 (by decide) fr_p0_79))))))))) dX9_bring_143 (lv_iload_n hx hb dX9_bring_146 rfl (lv_at hl 0 rfl) (lv_bipush (v := 10) hx hb dX9_bring_147 (by decide) (lv_iadd hx hb dX9_bring_149 (lv_topi fun v_121 ev_121 => ?_))))))
    obtain rfl : v_121 = 34 := ev_121.trans (by decide)
    refine q_ild hx hb hK hP120 4 3 rfl rfl (p1_in (i := 34) (n := 48) (by decide)) dX9_bring_150 (fun v_122 ev_122 => ?_)
    refine qp_X9_65 hx hb hts i_X9 hown hK hP120 hDa za_r_bring hS120 0 rfl k_12 (OKX9_l ho120) dX9_bring_151 (fun H123 lo123 fs123 efs123 (hP123 : va_P (dC, dI) vwCl (zW_r_bring p0 fs123 p0_bLong c_p0_bLong g106 p0_bTight c_p0_bTight b_p0_bTight p0_boxMany c_p0_boxMany b_p0_boxMany p0_boxRow c_p0_boxRow b_p0_boxRow p0_boxTight c_p0_boxTight b_p0_boxTight) H123) hS123 => ?_)
    have ho123 := OKX9_p65 ho120 efs123
    clear hP120 hS120
    refine lv_iconst (v := 0) hx hb dX9_bring_154 (by decide) (lv_istore_n (lv' := [(3, .int 0), (2, .int 24), (0, .ref p0), (1, .int 2)]) hx hb dX9_bring_155 rfl hl (by decide) rfl (fun ls hl => ?_))
    have key156 : ∀ (fu156 : Nat) (i : Int32) (bz_p0_bTight : Nat → Int32) (H : Heap) (locs : List Loc) (ls : Array Slot) (hfu156 : 12 - i.toInt ≤ (fu156 : Int)) (ti : (0) ≤ i.toInt ∧ i.toInt ≤ 12), va_P (dC, dI) vwCl (zW_r_bring p0 fs123 p0_bLong c_p0_bLong g106 p0_bTight c_p0_bTight bz_p0_bTight p0_boxMany c_p0_boxMany b_p0_boxMany p0_boxRow c_p0_boxRow b_p0_boxRow p0_boxTight c_p0_boxTight b_p0_boxTight) H → va_S A s.heap H locs → lv_has ls 4 [(3, .int i), (2, .int 24), (0, .ref p0), (1, .int 2)] → W p l e (headSpec zw_r_bring { frames := 0, cells := 0, slots := 0, locals := 0 }).room s m ([.ref p0, .int 2] : List Value).toArray below meth c H locs 0 0 (MQ below (q_Qv (dC, dI) (zG_r_bring p0 f_p0 p0_bLong c_p0_bLong b_p0_bLong p0_bTight c_p0_bTight b_p0_bTight p0_boxMany c_p0_boxMany b_p0_boxMany p0_boxRow c_p0_boxRow b_p0_boxRow p0_boxTight c_p0_boxTight b_p0_boxTight 2) (zA_r_bring p0 p0_bLong p0_bTight p0_boxMany p0_boxRow p0_boxTight) A) ([.ref p0, .int 2] : List Value).toArray s 0 0 A) (F0 m 156 ls []) := by
      intro fu156
      induction fu156 using Nat.strongRecOn with
      | ind fu156 ih156 =>
        intro i bz_p0_bTight H124 lo124 ls hfu156 ti hP124 hS124 hl
        refine lv_iload_n hx hb dX9_bring_156 rfl (lv_at hl 0 rfl) (lv_bipush (v := 12) hx hb dX9_bring_157 (by decide) ?_)
        refine lv_icmp_ge (tgt := 182) hx hb dX9_bring_159 (by decide) (fun c_125 => ?_) (fun c_125 => ?_)
        · have tc_125 := q_ge c_125
          exact q_vret hx hb hr hlocks hS124 dX9_bring_182 ⟨fs123, g106, bz_p0_bTight, ho123, ((((((((((q_fr.rf.st efs88 (by decide)).st efs91 (by decide)).st efs94 (by decide)).st efs97 (by decide)).st efs100 (by decide)).st efs109 (by decide)).st efs114 (by decide)).st efs117 (by decide)).st efs120 (by decide)).st efs123 (by decide)), hP124, za_r_bring⟩
        · have tc_125 := q_ltN c_125
          refine lv_aload_n hx hb dX9_bring_162 rfl (lv_at hl 2 rfl) (qg_X9_49 hx hb hts i_X9 hown hK hP124 0 rfl k_13 (q_sn efs123 (by decide) (q_sn efs120 (by decide) (q_sn efs117 (by decide) (q_sn efs114 (by decide) (q_sn efs109 (by decide) (q_sn efs100 (by decide) (q_sn efs97 (by decide) (q_sn efs94 (by decide) (q_sn efs91 (by decide) (q_sn efs88 (by decide) fr_p0_49)))))))))) dX9_bring_163 (lv_iload_n hx hb dX9_bring_166 rfl (lv_at hl 0 rfl) (lv_aload_n hx hb dX9_bring_167 rfl (lv_at hl 2 rfl) (qg_X9_80 hx hb hts i_X9 hown hK hP124 0 rfl k_14 (q_sn efs123 (by decide) (q_sn efs120 (by decide) (q_sn efs117 (by decide) (q_sn efs114 (by decide) (q_sn efs109 (by decide) (q_sn efs100 (by decide) (q_sn efs97 (by decide) (q_sn efs94 (by decide) (q_sn efs91 (by decide) (q_sn efs88 (by decide) fr_p0_80)))))))))) dX9_bring_168 (lv_iload_n hx hb dX9_bring_171 rfl (lv_at hl 1 rfl) (lv_iload_n hx hb dX9_bring_172 rfl (lv_at hl 0 rfl) (lv_iadd hx hb dX9_bring_173 (lv_topi fun v_126 ev_126 => ?_))))))))
          have tv_126 := q_add ev_126 (by omega) (by omega)
          refine q_ild hx hb hK hP124 5 4 rfl rfl (q_in (by omega) (by omega)) dX9_bring_174 (fun v_127 ev_127 => ?_)
          refine q_ist hx hb hK hP124 hDa za_r_bring hS124 2 1 rfl rfl (q_in (by omega) (by omega)) dX9_bring_175 (fun H128 lo128 g128 eg128 (hP128 : va_P (dC, dI) vwCl (zW_r_bring p0 fs123 p0_bLong c_p0_bLong g106 p0_bTight c_p0_bTight g128 p0_boxMany c_p0_boxMany b_p0_boxMany p0_boxRow c_p0_boxRow b_p0_boxRow p0_boxTight c_p0_boxTight b_p0_boxTight) H128) hS128 => ?_)
          clear hP124 hS124
          obtain ⟨v_129, ev_129⟩ : ∃ y : Int32, y = i + 1 := ⟨_, rfl⟩
          have tv_129 := q_add ev_129 (by omega) (by omega)
          refine lv_iinc (v := v_129) (lv' := [(3, .int v_129), (2, .int 24), (0, .ref p0), (1, .int 2)]) hx hb dX9_bring_176 hl (k := 0) rfl (by rw [ev_129]; rfl) (by decide) rfl (fun ls hl => ?_)
          refine lv_goto (tgt := 156) hx hb dX9_bring_179 (by decide) ?_
          exact ih156 (fu156 - 1) (by omega) v_129 g128 _ _ _ (by omega) (by omega) hP128 hS128 (lv_sub hl [0, 1, 2, 3] rfl)
    exact key156 12 0 b_p0_bTight _ _ _ (by omega) (by omega) hP123 hS123 (lv_sub hl [0, 1, 2, 3] rfl)
  · refine lv_aload_n hx hb dX9_bring_0 rfl (lv_at hl 0 rfl) (lv_aload_n hx hb dX9_bring_1 rfl (lv_at hl 0 rfl) (qg_X9_78 hx hb hts i_X9 hown hK hP 0 rfl k_0 fr_p0_78 dX9_bring_2 (lv_iload_n hx hb dX9_bring_5 rfl (lv_at hl 1 rfl) (q_ild hx hb hK hP 3 2 rfl rfl (p1_in (i := 3) (n := 4) (by decide)) dX9_bring_6 (fun v_130 ev_130 => ?_)))))
    have uv_130 : v_130.toInt = (b_p0_boxMany (3 : Int32).toNatClampNeg).toInt := by rw [ev_130]
    have tv_130 := q_rd' hr_p0_boxMany (p1_in (i := 3) (n := 4) (by decide)) ev_130
    refine qp_X9_52 hx hb hts i_X9 hown hK hP hDa za_r_bring hS 0 rfl k_1 (OKX9_l ho_p0) dX9_bring_7 (fun H131 lo131 fs131 efs131 (hP131 : va_P (dC, dI) vwCl (zW_r_bring p0 fs131 p0_bLong c_p0_bLong b_p0_bLong p0_bTight c_p0_bTight b_p0_bTight p0_boxMany c_p0_boxMany b_p0_boxMany p0_boxRow c_p0_boxRow b_p0_boxRow p0_boxTight c_p0_boxTight b_p0_boxTight) H131) hS131 => ?_)
    have ho131 := OKX9_p52 ho_p0 efs131 ⟨by omega, by omega⟩
    clear hP hS
    refine lv_bipush (v := 12) hx hb dX9_bring_10 (by decide) (lv_iload_n hx hb dX9_bring_12 rfl (lv_at hl 1 rfl) (lv_imul hx hb dX9_bring_13 (lv_topi fun v_132 ev_132 => ?_)))
    obtain rfl : v_132 = 36 := ev_132.trans (by decide)
    refine lv_istore_n (lv' := [(2, .int 36), (0, .ref p0), (1, .int 3)]) hx hb dX9_bring_14 rfl hl (by decide) rfl (fun ls hl => ?_)
    refine lv_aload_n hx hb dX9_bring_15 rfl (lv_at hl 1 rfl) (lv_aload_n hx hb dX9_bring_16 rfl (lv_at hl 1 rfl) (qg_X9_79 hx hb hts i_X9 hown hK hP131 0 rfl k_2 (q_sn efs131 (by decide) fr_p0_79) dX9_bring_17 (lv_iload_n hx hb dX9_bring_20 rfl (lv_at hl 0 rfl) (q_ild hx hb hK hP131 4 3 rfl rfl (p1_in (i := 36) (n := 48) (by decide)) dX9_bring_21 (fun v_133 ev_133 => ?_)))))
    refine qp_X9_51 hx hb hts i_X9 hown hK hP131 hDa za_r_bring hS131 0 rfl k_3 (OKX9_l ho131) dX9_bring_22 (fun H134 lo134 fs134 efs134 (hP134 : va_P (dC, dI) vwCl (zW_r_bring p0 fs134 p0_bLong c_p0_bLong b_p0_bLong p0_bTight c_p0_bTight b_p0_bTight p0_boxMany c_p0_boxMany b_p0_boxMany p0_boxRow c_p0_boxRow b_p0_boxRow p0_boxTight c_p0_boxTight b_p0_boxTight) H134) hS134 => ?_)
    have ho134 := OKX9_p51 ho131 efs134
    clear hP131 hS131
    refine lv_aload_n hx hb dX9_bring_25 rfl (lv_at hl 1 rfl) (lv_aload_n hx hb dX9_bring_26 rfl (lv_at hl 1 rfl) (qg_X9_79 hx hb hts i_X9 hown hK hP134 0 rfl k_2 (q_sn efs134 (by decide) (q_sn efs131 (by decide) fr_p0_79)) dX9_bring_27 (lv_iload_n hx hb dX9_bring_30 rfl (lv_at hl 0 rfl) (lv_iconst (v := 1) hx hb dX9_bring_31 (by decide) (lv_iadd hx hb dX9_bring_32 (lv_topi fun v_135 ev_135 => ?_))))))
    obtain rfl : v_135 = 37 := ev_135.trans (by decide)
    refine q_ild hx hb hK hP134 4 3 rfl rfl (p1_in (i := 37) (n := 48) (by decide)) dX9_bring_33 (fun v_136 ev_136 => ?_)
    have tv_136 : 0 ≤ v_136.toInt ∧ v_136.toInt ≤ 12 := by rw [ev_136]; exact q_box_1 hr_p0_boxRow 3 (by decide)
    refine qp_X9_53 hx hb hts i_X9 hown hK hP134 hDa za_r_bring hS134 0 rfl k_4 (OKX9_l ho134) dX9_bring_34 (fun H137 lo137 fs137 efs137 (hP137 : va_P (dC, dI) vwCl (zW_r_bring p0 fs137 p0_bLong c_p0_bLong b_p0_bLong p0_bTight c_p0_bTight b_p0_bTight p0_boxMany c_p0_boxMany b_p0_boxMany p0_boxRow c_p0_boxRow b_p0_boxRow p0_boxTight c_p0_boxTight b_p0_boxTight) H137) hS137 => ?_)
    have ho137 := OKX9_p53 ho134 efs137 ⟨by omega, by omega⟩
    clear hP134 hS134
    refine lv_aload_n hx hb dX9_bring_37 rfl (lv_at hl 1 rfl) (lv_aload_n hx hb dX9_bring_38 rfl (lv_at hl 1 rfl) (qg_X9_79 hx hb hts i_X9 hown hK hP137 0 rfl k_2 (q_sn efs137 (by decide) (q_sn efs134 (by decide) (q_sn efs131 (by decide) fr_p0_79))) dX9_bring_39 (lv_iload_n hx hb dX9_bring_42 rfl (lv_at hl 0 rfl) (lv_iconst (v := 2) hx hb dX9_bring_43 (by decide) (lv_iadd hx hb dX9_bring_44 (lv_topi fun v_138 ev_138 => ?_))))))
    obtain rfl : v_138 = 38 := ev_138.trans (by decide)
    refine q_ild hx hb hK hP137 4 3 rfl rfl (p1_in (i := 38) (n := 48) (by decide)) dX9_bring_45 (fun v_139 ev_139 => ?_)
    refine qp_X9_54 hx hb hts i_X9 hown hK hP137 hDa za_r_bring hS137 0 rfl k_5 (OKX9_l ho137) dX9_bring_46 (fun H140 lo140 fs140 efs140 (hP140 : va_P (dC, dI) vwCl (zW_r_bring p0 fs140 p0_bLong c_p0_bLong b_p0_bLong p0_bTight c_p0_bTight b_p0_bTight p0_boxMany c_p0_boxMany b_p0_boxMany p0_boxRow c_p0_boxRow b_p0_boxRow p0_boxTight c_p0_boxTight b_p0_boxTight) H140) hS140 => ?_)
    have ho140 := OKX9_p54 ho137 efs140
    clear hP137 hS137
    refine lv_aload_n hx hb dX9_bring_49 rfl (lv_at hl 1 rfl) (lv_aload_n hx hb dX9_bring_50 rfl (lv_at hl 1 rfl) (qg_X9_79 hx hb hts i_X9 hown hK hP140 0 rfl k_2 (q_sn efs140 (by decide) (q_sn efs137 (by decide) (q_sn efs134 (by decide) (q_sn efs131 (by decide) fr_p0_79)))) dX9_bring_51 (lv_iload_n hx hb dX9_bring_54 rfl (lv_at hl 0 rfl) (lv_iconst (v := 3) hx hb dX9_bring_55 (by decide) (lv_iadd hx hb dX9_bring_56 (lv_topi fun v_141 ev_141 => ?_))))))
    obtain rfl : v_141 = 39 := ev_141.trans (by decide)
    refine q_ild hx hb hK hP140 4 3 rfl rfl (p1_in (i := 39) (n := 48) (by decide)) dX9_bring_57 (fun v_142 ev_142 => ?_)
    refine qp_X9_55 hx hb hts i_X9 hown hK hP140 hDa za_r_bring hS140 0 rfl k_6 (OKX9_l ho140) dX9_bring_58 (fun H143 lo143 fs143 efs143 (hP143 : va_P (dC, dI) vwCl (zW_r_bring p0 fs143 p0_bLong c_p0_bLong b_p0_bLong p0_bTight c_p0_bTight b_p0_bTight p0_boxMany c_p0_boxMany b_p0_boxMany p0_boxRow c_p0_boxRow b_p0_boxRow p0_boxTight c_p0_boxTight b_p0_boxTight) H143) hS143 => ?_)
    have ho143 := OKX9_p55 ho140 efs143
    clear hP140 hS140
    refine lv_aload_n hx hb dX9_bring_61 rfl (lv_at hl 1 rfl) (qg_X9_50 hx hb hts i_X9 hown hK hP143 0 rfl k_7 (q_sn efs143 (by decide) (q_sn efs140 (by decide) (q_sn efs137 (by decide) (q_sn efs134 (by decide) (q_sn efs131 (by decide) fr_p0_50))))) dX9_bring_62 (lv_iconst (v := 0) hx hb dX9_bring_65 (by decide) (lv_aload_n hx hb dX9_bring_66 rfl (lv_at hl 1 rfl) (qg_X9_79 hx hb hts i_X9 hown hK hP143 0 rfl k_2 (q_sn efs143 (by decide) (q_sn efs140 (by decide) (q_sn efs137 (by decide) (q_sn efs134 (by decide) (q_sn efs131 (by decide) fr_p0_79))))) dX9_bring_67 (lv_iload_n hx hb dX9_bring_70 rfl (lv_at hl 0 rfl) (lv_iconst (v := 4) hx hb dX9_bring_71 (by decide) (lv_iadd hx hb dX9_bring_72 (lv_topi fun v_144 ev_144 => ?_))))))))
    obtain rfl : v_144 = 40 := ev_144.trans (by decide)
    refine q_ild hx hb hK hP143 4 3 rfl rfl (p1_in (i := 40) (n := 48) (by decide)) dX9_bring_73 (fun v_145 ev_145 => ?_)
    refine q_ist hx hb hK hP143 hDa za_r_bring hS143 1 0 rfl rfl (p1_in (i := 0) (n := 2) (by decide)) dX9_bring_74 (fun H146 lo146 g146 eg146 (hP146 : va_P (dC, dI) vwCl (zW_r_bring p0 fs143 p0_bLong c_p0_bLong g146 p0_bTight c_p0_bTight b_p0_bTight p0_boxMany c_p0_boxMany b_p0_boxMany p0_boxRow c_p0_boxRow b_p0_boxRow p0_boxTight c_p0_boxTight b_p0_boxTight) H146) hS146 => ?_)
    clear hP143 hS143
    refine lv_aload_n hx hb dX9_bring_75 rfl (lv_at hl 1 rfl) (qg_X9_50 hx hb hts i_X9 hown hK hP146 0 rfl k_7 (q_sn efs143 (by decide) (q_sn efs140 (by decide) (q_sn efs137 (by decide) (q_sn efs134 (by decide) (q_sn efs131 (by decide) fr_p0_50))))) dX9_bring_76 (lv_iconst (v := 1) hx hb dX9_bring_79 (by decide) (lv_aload_n hx hb dX9_bring_80 rfl (lv_at hl 1 rfl) (qg_X9_79 hx hb hts i_X9 hown hK hP146 0 rfl k_2 (q_sn efs143 (by decide) (q_sn efs140 (by decide) (q_sn efs137 (by decide) (q_sn efs134 (by decide) (q_sn efs131 (by decide) fr_p0_79))))) dX9_bring_81 (lv_iload_n hx hb dX9_bring_84 rfl (lv_at hl 0 rfl) (lv_iconst (v := 5) hx hb dX9_bring_85 (by decide) (lv_iadd hx hb dX9_bring_86 (lv_topi fun v_147 ev_147 => ?_))))))))
    obtain rfl : v_147 = 41 := ev_147.trans (by decide)
    refine q_ild hx hb hK hP146 4 3 rfl rfl (p1_in (i := 41) (n := 48) (by decide)) dX9_bring_87 (fun v_148 ev_148 => ?_)
    refine q_ist hx hb hK hP146 hDa za_r_bring hS146 1 0 rfl rfl (p1_in (i := 1) (n := 2) (by decide)) dX9_bring_88 (fun H149 lo149 g149 eg149 (hP149 : va_P (dC, dI) vwCl (zW_r_bring p0 fs143 p0_bLong c_p0_bLong g149 p0_bTight c_p0_bTight b_p0_bTight p0_boxMany c_p0_boxMany b_p0_boxMany p0_boxRow c_p0_boxRow b_p0_boxRow p0_boxTight c_p0_boxTight b_p0_boxTight) H149) hS149 => ?_)
    clear hP146 hS146
    refine lv_aload_n hx hb dX9_bring_89 rfl (lv_at hl 1 rfl) (lv_aload_n hx hb dX9_bring_90 rfl (lv_at hl 1 rfl) (qg_X9_79 hx hb hts i_X9 hown hK hP149 0 rfl k_2 (q_sn efs143 (by decide) (q_sn efs140 (by decide) (q_sn efs137 (by decide) (q_sn efs134 (by decide) (q_sn efs131 (by decide) fr_p0_79))))) dX9_bring_91 (lv_iload_n hx hb dX9_bring_94 rfl (lv_at hl 0 rfl) (lv_bipush (v := 6) hx hb dX9_bring_95 (by decide) (lv_iadd hx hb dX9_bring_97 (lv_topi fun v_150 ev_150 => ?_))))))
    obtain rfl : v_150 = 42 := ev_150.trans (by decide)
    refine q_ild hx hb hK hP149 4 3 rfl rfl (p1_in (i := 42) (n := 48) (by decide)) dX9_bring_98 (fun v_151 ev_151 => ?_)
    refine qp_X9_61 hx hb hts i_X9 hown hK hP149 hDa za_r_bring hS149 0 rfl k_8 (OKX9_l ho143) dX9_bring_99 (fun H152 lo152 fs152 efs152 (hP152 : va_P (dC, dI) vwCl (zW_r_bring p0 fs152 p0_bLong c_p0_bLong g149 p0_bTight c_p0_bTight b_p0_bTight p0_boxMany c_p0_boxMany b_p0_boxMany p0_boxRow c_p0_boxRow b_p0_boxRow p0_boxTight c_p0_boxTight b_p0_boxTight) H152) hS152 => ?_)
    have ho152 := OKX9_p61 ho143 efs152
    clear hP149 hS149
    refine lv_aload_n hx hb dX9_bring_102 rfl (lv_at hl 1 rfl) (lv_aload_n hx hb dX9_bring_103 rfl (lv_at hl 1 rfl) (qg_X9_79 hx hb hts i_X9 hown hK hP152 0 rfl k_2 (q_sn efs152 (by decide) (q_sn efs143 (by decide) (q_sn efs140 (by decide) (q_sn efs137 (by decide) (q_sn efs134 (by decide) (q_sn efs131 (by decide) fr_p0_79)))))) dX9_bring_104 (lv_iload_n hx hb dX9_bring_107 rfl (lv_at hl 0 rfl) (lv_bipush (v := 7) hx hb dX9_bring_108 (by decide) (lv_iadd hx hb dX9_bring_110 (lv_topi fun v_153 ev_153 => ?_))))))
    obtain rfl : v_153 = 43 := ev_153.trans (by decide)
    refine q_ild hx hb hK hP152 4 3 rfl rfl (p1_in (i := 43) (n := 48) (by decide)) dX9_bring_111 (fun v_154 ev_154 => ?_)
    obtain ⟨v_155, v_156, fv_155, fv_156, tv_155⟩ := OKX9_g62 ho152
    refine qp_X9_62 hx hb hts i_X9 hown hK hP152 hDa za_r_bring hS152 0 rfl k_9 (OKX9_l ho152) dX9_bring_112 (fun H157 lo157 fs157 efs157 (hP157 : va_P (dC, dI) vwCl (zW_r_bring p0 fs157 p0_bLong c_p0_bLong g149 p0_bTight c_p0_bTight b_p0_bTight p0_boxMany c_p0_boxMany b_p0_boxMany p0_boxRow c_p0_boxRow b_p0_boxRow p0_boxTight c_p0_boxTight b_p0_boxTight) H157) hS157 => ?_)
    clear hP152 hS152
    refine lv_aload_n hx hb dX9_bring_115 rfl (lv_at hl 1 rfl) (lv_aload_n hx hb dX9_bring_116 rfl (lv_at hl 1 rfl) (qg_X9_79 hx hb hts i_X9 hown hK hP157 0 rfl k_2 (q_sn efs157 (by decide) (q_sn efs152 (by decide) (q_sn efs143 (by decide) (q_sn efs140 (by decide) (q_sn efs137 (by decide) (q_sn efs134 (by decide) (q_sn efs131 (by decide) fr_p0_79))))))) dX9_bring_117 (lv_iload_n hx hb dX9_bring_120 rfl (lv_at hl 0 rfl) (lv_bipush (v := 8) hx hb dX9_bring_121 (by decide) (lv_iadd hx hb dX9_bring_123 (lv_topi fun v_158 ev_158 => ?_))))))
    obtain rfl : v_158 = 44 := ev_158.trans (by decide)
    refine q_ild hx hb hK hP157 4 3 rfl rfl (p1_in (i := 44) (n := 48) (by decide)) dX9_bring_124 (fun v_159 ev_159 => ?_)
    have tv_159 : 0 ≤ v_154.toInt ∧ v_154.toInt ≤ v_159.toInt ∧ v_159.toInt ≤ 100000 := by rw [ev_154, ev_159]; exact q_box_7 hr_p0_boxRow 3 (by decide)
    refine qp_X9_63 hx hb hts i_X9 hown hK hP157 hDa za_r_bring hS157 0 rfl k_10 (q_sl efs157 (OKX9_l ho152)) dX9_bring_125 (fun H160 lo160 fs160 efs160 (hP160 : va_P (dC, dI) vwCl (zW_r_bring p0 fs160 p0_bLong c_p0_bLong g149 p0_bTight c_p0_bTight b_p0_bTight p0_boxMany c_p0_boxMany b_p0_boxMany p0_boxRow c_p0_boxRow b_p0_boxRow p0_boxTight c_p0_boxTight b_p0_boxTight) H160) hS160 => ?_)
    have ho160 := OKX9_pp ho152 efs157 efs160 ⟨by omega, by omega, by omega⟩
    clear hP157 hS157
    refine lv_aload_n hx hb dX9_bring_128 rfl (lv_at hl 1 rfl) (lv_aload_n hx hb dX9_bring_129 rfl (lv_at hl 1 rfl) (qg_X9_79 hx hb hts i_X9 hown hK hP160 0 rfl k_2 (q_sn efs160 (by decide) (q_sn efs157 (by decide) (q_sn efs152 (by decide) (q_sn efs143 (by decide) (q_sn efs140 (by decide) (q_sn efs137 (by decide) (q_sn efs134 (by decide) (q_sn efs131 (by decide) fr_p0_79)))))))) dX9_bring_130 (lv_iload_n hx hb dX9_bring_133 rfl (lv_at hl 0 rfl) (lv_bipush (v := 9) hx hb dX9_bring_134 (by decide) (lv_iadd hx hb dX9_bring_136 (lv_topi fun v_161 ev_161 => ?_))))))
    obtain rfl : v_161 = 45 := ev_161.trans (by decide)
    refine q_ild hx hb hK hP160 4 3 rfl rfl (p1_in (i := 45) (n := 48) (by decide)) dX9_bring_137 (fun v_162 ev_162 => ?_)
    refine qp_X9_64 hx hb hts i_X9 hown hK hP160 hDa za_r_bring hS160 0 rfl k_11 (OKX9_l ho160) dX9_bring_138 (fun H163 lo163 fs163 efs163 (hP163 : va_P (dC, dI) vwCl (zW_r_bring p0 fs163 p0_bLong c_p0_bLong g149 p0_bTight c_p0_bTight b_p0_bTight p0_boxMany c_p0_boxMany b_p0_boxMany p0_boxRow c_p0_boxRow b_p0_boxRow p0_boxTight c_p0_boxTight b_p0_boxTight) H163) hS163 => ?_)
    have ho163 := OKX9_p64 ho160 efs163
    clear hP160 hS160
    refine lv_aload_n hx hb dX9_bring_141 rfl (lv_at hl 1 rfl) (lv_aload_n hx hb dX9_bring_142 rfl (lv_at hl 1 rfl) (qg_X9_79 hx hb hts i_X9 hown hK hP163 0 rfl k_2 (q_sn efs163 (by decide) (q_sn efs160 (by decide) (q_sn efs157 (by decide) (q_sn efs152 (by decide) (q_sn efs143 (by decide) (q_sn efs140 (by decide) (q_sn efs137 (by decide) (q_sn efs134 (by decide) (q_sn efs131 (by decide) fr_p0_79))))))))) dX9_bring_143 (lv_iload_n hx hb dX9_bring_146 rfl (lv_at hl 0 rfl) (lv_bipush (v := 10) hx hb dX9_bring_147 (by decide) (lv_iadd hx hb dX9_bring_149 (lv_topi fun v_164 ev_164 => ?_))))))
    obtain rfl : v_164 = 46 := ev_164.trans (by decide)
    refine q_ild hx hb hK hP163 4 3 rfl rfl (p1_in (i := 46) (n := 48) (by decide)) dX9_bring_150 (fun v_165 ev_165 => ?_)
    refine qp_X9_65 hx hb hts i_X9 hown hK hP163 hDa za_r_bring hS163 0 rfl k_12 (OKX9_l ho163) dX9_bring_151 (fun H166 lo166 fs166 efs166 (hP166 : va_P (dC, dI) vwCl (zW_r_bring p0 fs166 p0_bLong c_p0_bLong g149 p0_bTight c_p0_bTight b_p0_bTight p0_boxMany c_p0_boxMany b_p0_boxMany p0_boxRow c_p0_boxRow b_p0_boxRow p0_boxTight c_p0_boxTight b_p0_boxTight) H166) hS166 => ?_)
    have ho166 := OKX9_p65 ho163 efs166
    clear hP163 hS163
    refine lv_iconst (v := 0) hx hb dX9_bring_154 (by decide) (lv_istore_n (lv' := [(3, .int 0), (2, .int 36), (0, .ref p0), (1, .int 3)]) hx hb dX9_bring_155 rfl hl (by decide) rfl (fun ls hl => ?_))
    have key156 : ∀ (fu156 : Nat) (i : Int32) (bz_p0_bTight : Nat → Int32) (H : Heap) (locs : List Loc) (ls : Array Slot) (hfu156 : 12 - i.toInt ≤ (fu156 : Int)) (ti : (0) ≤ i.toInt ∧ i.toInt ≤ 12), va_P (dC, dI) vwCl (zW_r_bring p0 fs166 p0_bLong c_p0_bLong g149 p0_bTight c_p0_bTight bz_p0_bTight p0_boxMany c_p0_boxMany b_p0_boxMany p0_boxRow c_p0_boxRow b_p0_boxRow p0_boxTight c_p0_boxTight b_p0_boxTight) H → va_S A s.heap H locs → lv_has ls 4 [(3, .int i), (2, .int 36), (0, .ref p0), (1, .int 3)] → W p l e (headSpec zw_r_bring { frames := 0, cells := 0, slots := 0, locals := 0 }).room s m ([.ref p0, .int 3] : List Value).toArray below meth c H locs 0 0 (MQ below (q_Qv (dC, dI) (zG_r_bring p0 f_p0 p0_bLong c_p0_bLong b_p0_bLong p0_bTight c_p0_bTight b_p0_bTight p0_boxMany c_p0_boxMany b_p0_boxMany p0_boxRow c_p0_boxRow b_p0_boxRow p0_boxTight c_p0_boxTight b_p0_boxTight 3) (zA_r_bring p0 p0_bLong p0_bTight p0_boxMany p0_boxRow p0_boxTight) A) ([.ref p0, .int 3] : List Value).toArray s 0 0 A) (F0 m 156 ls []) := by
      intro fu156
      induction fu156 using Nat.strongRecOn with
      | ind fu156 ih156 =>
        intro i bz_p0_bTight H167 lo167 ls hfu156 ti hP167 hS167 hl
        refine lv_iload_n hx hb dX9_bring_156 rfl (lv_at hl 0 rfl) (lv_bipush (v := 12) hx hb dX9_bring_157 (by decide) ?_)
        refine lv_icmp_ge (tgt := 182) hx hb dX9_bring_159 (by decide) (fun c_168 => ?_) (fun c_168 => ?_)
        · have tc_168 := q_ge c_168
          exact q_vret hx hb hr hlocks hS167 dX9_bring_182 ⟨fs166, g149, bz_p0_bTight, ho166, ((((((((((q_fr.rf.st efs131 (by decide)).st efs134 (by decide)).st efs137 (by decide)).st efs140 (by decide)).st efs143 (by decide)).st efs152 (by decide)).st efs157 (by decide)).st efs160 (by decide)).st efs163 (by decide)).st efs166 (by decide)), hP167, za_r_bring⟩
        · have tc_168 := q_ltN c_168
          refine lv_aload_n hx hb dX9_bring_162 rfl (lv_at hl 2 rfl) (qg_X9_49 hx hb hts i_X9 hown hK hP167 0 rfl k_13 (q_sn efs166 (by decide) (q_sn efs163 (by decide) (q_sn efs160 (by decide) (q_sn efs157 (by decide) (q_sn efs152 (by decide) (q_sn efs143 (by decide) (q_sn efs140 (by decide) (q_sn efs137 (by decide) (q_sn efs134 (by decide) (q_sn efs131 (by decide) fr_p0_49)))))))))) dX9_bring_163 (lv_iload_n hx hb dX9_bring_166 rfl (lv_at hl 0 rfl) (lv_aload_n hx hb dX9_bring_167 rfl (lv_at hl 2 rfl) (qg_X9_80 hx hb hts i_X9 hown hK hP167 0 rfl k_14 (q_sn efs166 (by decide) (q_sn efs163 (by decide) (q_sn efs160 (by decide) (q_sn efs157 (by decide) (q_sn efs152 (by decide) (q_sn efs143 (by decide) (q_sn efs140 (by decide) (q_sn efs137 (by decide) (q_sn efs134 (by decide) (q_sn efs131 (by decide) fr_p0_80)))))))))) dX9_bring_168 (lv_iload_n hx hb dX9_bring_171 rfl (lv_at hl 1 rfl) (lv_iload_n hx hb dX9_bring_172 rfl (lv_at hl 0 rfl) (lv_iadd hx hb dX9_bring_173 (lv_topi fun v_169 ev_169 => ?_))))))))
          have tv_169 := q_add ev_169 (by omega) (by omega)
          refine q_ild hx hb hK hP167 5 4 rfl rfl (q_in (by omega) (by omega)) dX9_bring_174 (fun v_170 ev_170 => ?_)
          refine q_ist hx hb hK hP167 hDa za_r_bring hS167 2 1 rfl rfl (q_in (by omega) (by omega)) dX9_bring_175 (fun H171 lo171 g171 eg171 (hP171 : va_P (dC, dI) vwCl (zW_r_bring p0 fs166 p0_bLong c_p0_bLong g149 p0_bTight c_p0_bTight g171 p0_boxMany c_p0_boxMany b_p0_boxMany p0_boxRow c_p0_boxRow b_p0_boxRow p0_boxTight c_p0_boxTight b_p0_boxTight) H171) hS171 => ?_)
          clear hP167 hS167
          obtain ⟨v_172, ev_172⟩ : ∃ y : Int32, y = i + 1 := ⟨_, rfl⟩
          have tv_172 := q_add ev_172 (by omega) (by omega)
          refine lv_iinc (v := v_172) (lv' := [(3, .int v_172), (2, .int 36), (0, .ref p0), (1, .int 3)]) hx hb dX9_bring_176 hl (k := 0) rfl (by rw [ev_172]; rfl) (by decide) rfl (fun ls hl => ?_)
          refine lv_goto (tgt := 156) hx hb dX9_bring_179 (by decide) ?_
          exact ih156 (fu156 - 1) (by omega) v_172 g171 _ _ _ (by omega) (by omega) hP171 hS171 (lv_sub hl [0, 1, 2, 3] rfl)
    exact key156 12 0 b_p0_bTight _ _ _ (by omega) (by omega) hP166 hS166 (lv_sub hl [0, 1, 2, 3] rfl)
def zo_r_tie : List Cond := [.code yX9_tie cX9_tie 3 (some .int), .methodLink RX9 431 yX9_isKnot, .instanceMethod yX9_isKnot, .selects RX9 yX9_isKnot yX9_isKnot, .initialized RX9, .methodLink RX9 434 yX9_isCord, .instanceMethod yX9_isCord, .selects RX9 yX9_isCord yX9_isCord, .methodLink RX9 437 yX9_tieKnot, .instanceMethod yX9_tieKnot, .selects RX9 yX9_tieKnot yX9_tieKnot, .fieldLink RX9 297 "BowWalkModel" "hasBow" "Z", .fieldLink RX9 440 "BowWalkModel" "walked" "I", .fieldLink RX9 443 "BowWalkModel" "place" "I", .fieldLink RX9 446 "BowWalkModel" "stepsDone" "I", .fieldLink RX9 449 "BowWalkModel" "slipped" "I", .fieldLink RX9 396 "BowWalkModel" "bMany" "I"]
def zw_r_tie : List Cond := zo_r_tie ++ (zw_r_isKnot ++ (zw_r_isCord ++ (zw_r_tieKnot ++ (wsX90 ++ []))))
theorem gz_r_tie : zw_r_tie.all goodWord = true := p1_ga (by decide +kernel) (p1_ga gz_r_isKnot (p1_ga gz_r_isCord (p1_ga gz_r_tieKnot (p1_ga gk_X9 p1_g0))))
theorem iz_r_tie : ∀ w ∈ zw_r_tie, w ∈ lw_tbl := p1_ia (p1_all [1434, 1435, 1437, 71, 116, 1442, 1444, 72, 1446, 1448, 73, 1097, 1098, 1099, 1100, 1101, 1089] (by decide +kernel)) (p1_ia iz_r_isKnot (p1_ia iz_r_isCord (p1_ia iz_r_tieKnot (p1_ia ik_X9 p1_i0))))
def zW_r_tie (p0 : Nat) (f_p0 : List Value) (p0_bLong : Nat) (c_p0_bLong : ClassId) (b_p0_bLong : Nat → Int32) (p0_bTight : Nat) (c_p0_bTight : ClassId) (b_p0_bTight : Nat → Int32) (p0_cords : Nat) (c_p0_cords : ClassId) (b_p0_cords : Nat → Int32) (p0_crossings : Nat) (c_p0_crossings : ClassId) (b_p0_crossings : Nat → Int32) (p0_knots : Nat) (c_p0_knots : ClassId) (b_p0_knots : Nat → Int32) (p0_longOf : Nat) (c_p0_longOf : ClassId) (b_p0_longOf : Nat → Int32) (p0_sides : Nat) (c_p0_sides : ClassId) (b_p0_sides : Nat → Int32) (p0_smooth : Nat) (c_p0_smooth : ClassId) (b_p0_smooth : Nat → Int32) (p0_tight : Nat) (c_p0_tight : ClassId) (b_p0_tight : Nat → Int32) (p0_weight : Nat) (c_p0_weight : ClassId) (b_p0_weight : Nat → Int32) : va_W := [(p0, .inr (8, f_p0)), (p0_bLong, .inl (c_p0_bLong, 2, .inl b_p0_bLong)), (p0_bTight, .inl (c_p0_bTight, 12, .inl b_p0_bTight)), (p0_cords, .inl (c_p0_cords, 2, .inl b_p0_cords)), (p0_crossings, .inl (c_p0_crossings, 12, .inl b_p0_crossings)), (p0_knots, .inl (c_p0_knots, 2, .inl b_p0_knots)), (p0_longOf, .inl (c_p0_longOf, 8, .inl b_p0_longOf)), (p0_sides, .inl (c_p0_sides, 12, .inl b_p0_sides)), (p0_smooth, .inl (c_p0_smooth, 8, .inl b_p0_smooth)), (p0_tight, .inl (c_p0_tight, 2, .inl b_p0_tight)), (p0_weight, .inl (c_p0_weight, 8, .inl b_p0_weight))]
def zT_r_tie (c_p0_bLong : ClassId) (c_p0_bTight : ClassId) (c_p0_cords : ClassId) (c_p0_crossings : ClassId) (c_p0_knots : ClassId) (c_p0_longOf : ClassId) (c_p0_sides : ClassId) (c_p0_smooth : ClassId) (c_p0_tight : ClassId) (c_p0_weight : ClassId) : List (ClassId × FieldType) := [(c_p0_bLong, .int), (c_p0_bTight, .int), (c_p0_cords, .int), (c_p0_crossings, .int), (c_p0_knots, .int), (c_p0_longOf, .int), (c_p0_sides, .int), (c_p0_smooth, .int), (c_p0_tight, .int), (c_p0_weight, .int)]
def zA_r_tie (p0 : Nat) (p0_bLong : Nat) (p0_bTight : Nat) (p0_cords : Nat) (p0_crossings : Nat) (p0_knots : Nat) (p0_longOf : Nat) (p0_sides : Nat) (p0_smooth : Nat) (p0_tight : Nat) (p0_weight : Nat) : List Nat := [p0, p0_bLong, p0_bTight, p0_cords, p0_crossings, p0_knots, p0_longOf, p0_sides, p0_smooth, p0_tight, p0_weight]
theorem za_r_tie {p0 : Nat} {f_p0 : List Value} {p0_bLong : Nat} {c_p0_bLong : ClassId} {b_p0_bLong : Nat → Int32} {p0_bTight : Nat} {c_p0_bTight : ClassId} {b_p0_bTight : Nat → Int32} {p0_cords : Nat} {c_p0_cords : ClassId} {b_p0_cords : Nat → Int32} {p0_crossings : Nat} {c_p0_crossings : ClassId} {b_p0_crossings : Nat → Int32} {p0_knots : Nat} {c_p0_knots : ClassId} {b_p0_knots : Nat → Int32} {p0_longOf : Nat} {c_p0_longOf : ClassId} {b_p0_longOf : Nat → Int32} {p0_sides : Nat} {c_p0_sides : ClassId} {b_p0_sides : Nat → Int32} {p0_smooth : Nat} {c_p0_smooth : ClassId} {b_p0_smooth : Nat → Int32} {p0_tight : Nat} {c_p0_tight : ClassId} {b_p0_tight : Nat → Int32} {p0_weight : Nat} {c_p0_weight : ClassId} {b_p0_weight : Nat → Int32} : (zW_r_tie p0 f_p0 p0_bLong c_p0_bLong b_p0_bLong p0_bTight c_p0_bTight b_p0_bTight p0_cords c_p0_cords b_p0_cords p0_crossings c_p0_crossings b_p0_crossings p0_knots c_p0_knots b_p0_knots p0_longOf c_p0_longOf b_p0_longOf p0_sides c_p0_sides b_p0_sides p0_smooth c_p0_smooth b_p0_smooth p0_tight c_p0_tight b_p0_tight p0_weight c_p0_weight b_p0_weight).map Prod.fst = (zA_r_tie p0 p0_bLong p0_bTight p0_cords p0_crossings p0_knots p0_longOf p0_sides p0_smooth p0_tight p0_weight) := rfl
def zG_r_tie (p0 : Nat) (f_p0 : List Value) (p0_bLong : Nat) (c_p0_bLong : ClassId) (b_p0_bLong : Nat → Int32) (p0_bTight : Nat) (c_p0_bTight : ClassId) (b_p0_bTight : Nat → Int32) (p0_cords : Nat) (c_p0_cords : ClassId) (b_p0_cords : Nat → Int32) (p0_crossings : Nat) (c_p0_crossings : ClassId) (b_p0_crossings : Nat → Int32) (p0_knots : Nat) (c_p0_knots : ClassId) (b_p0_knots : Nat → Int32) (p0_longOf : Nat) (c_p0_longOf : ClassId) (b_p0_longOf : Nat → Int32) (p0_sides : Nat) (c_p0_sides : ClassId) (b_p0_sides : Nat → Int32) (p0_smooth : Nat) (c_p0_smooth : ClassId) (b_p0_smooth : Nat → Int32) (p0_tight : Nat) (c_p0_tight : ClassId) (b_p0_tight : Nat → Int32) (p0_weight : Nat) (c_p0_weight : ClassId) (b_p0_weight : Nat → Int32) (a1 : Int32) (a2 : Int32) (bk : Int32) (r : Int32) (X : va_W → Prop) : Prop := ∃ (y_p0 : List Value) (y_p0_bLong : Nat → Int32) (y_p0_bTight : Nat → Int32), OKX9 y_p0 ∧ q_fr [51, 52, 53, 54, 55, 60, 61, 62, 63, 64] f_p0 y_p0 ∧ X (zW_r_tie p0 y_p0 p0_bLong c_p0_bLong y_p0_bLong p0_bTight c_p0_bTight y_p0_bTight p0_cords c_p0_cords b_p0_cords p0_crossings c_p0_crossings b_p0_crossings p0_knots c_p0_knots b_p0_knots p0_longOf c_p0_longOf b_p0_longOf p0_sides c_p0_sides b_p0_sides p0_smooth c_p0_smooth b_p0_smooth p0_tight c_p0_tight b_p0_tight p0_weight c_p0_weight b_p0_weight)
theorem zm_r_tie {p0 : Nat} {f_p0 : List Value} {p0_bLong : Nat} {c_p0_bLong : ClassId} {b_p0_bLong : Nat → Int32} {p0_bTight : Nat} {c_p0_bTight : ClassId} {b_p0_bTight : Nat → Int32} {p0_cords : Nat} {c_p0_cords : ClassId} {b_p0_cords : Nat → Int32} {p0_crossings : Nat} {c_p0_crossings : ClassId} {b_p0_crossings : Nat → Int32} {p0_knots : Nat} {c_p0_knots : ClassId} {b_p0_knots : Nat → Int32} {p0_longOf : Nat} {c_p0_longOf : ClassId} {b_p0_longOf : Nat → Int32} {p0_sides : Nat} {c_p0_sides : ClassId} {b_p0_sides : Nat → Int32} {p0_smooth : Nat} {c_p0_smooth : ClassId} {b_p0_smooth : Nat → Int32} {p0_tight : Nat} {c_p0_tight : ClassId} {b_p0_tight : Nat → Int32} {p0_weight : Nat} {c_p0_weight : ClassId} {b_p0_weight : Nat → Int32} {a1 : Int32} {a2 : Int32} {bk : Int32} : ∀ (r : Int32), ∀ X Y : va_W → Prop, (∀ w, X w → Y w) → zG_r_tie p0 f_p0 p0_bLong c_p0_bLong b_p0_bLong p0_bTight c_p0_bTight b_p0_bTight p0_cords c_p0_cords b_p0_cords p0_crossings c_p0_crossings b_p0_crossings p0_knots c_p0_knots b_p0_knots p0_longOf c_p0_longOf b_p0_longOf p0_sides c_p0_sides b_p0_sides p0_smooth c_p0_smooth b_p0_smooth p0_tight c_p0_tight b_p0_tight p0_weight c_p0_weight b_p0_weight a1 a2 bk r X → zG_r_tie p0 f_p0 p0_bLong c_p0_bLong b_p0_bLong p0_bTight c_p0_bTight b_p0_bTight p0_cords c_p0_cords b_p0_cords p0_crossings c_p0_crossings b_p0_crossings p0_knots c_p0_knots b_p0_knots p0_longOf c_p0_longOf b_p0_longOf p0_sides c_p0_sides b_p0_sides p0_smooth c_p0_smooth b_p0_smooth p0_tight c_p0_tight b_p0_tight p0_weight c_p0_weight b_p0_weight a1 a2 bk r Y := fun r X Y h h1 => by obtain ⟨x0, x1, x2, x3, x4, hx⟩ := h1; exact ⟨x0, x1, x2, x3, x4, h _ hx⟩
set_option maxHeartbeats 4000000 in
set_option maxRecDepth 100000 in
theorem r_tie (l : Launch) (dC : Nat → ClassId) (dI : Nat → Nat → Nat) (sz : Nat) (p0 : Nat) (f_p0 : List Value) (p0_bLong : Nat) (c_p0_bLong : ClassId) (b_p0_bLong : Nat → Int32) (p0_bTight : Nat) (c_p0_bTight : ClassId) (b_p0_bTight : Nat → Int32) (p0_cords : Nat) (c_p0_cords : ClassId) (b_p0_cords : Nat → Int32) (p0_crossings : Nat) (c_p0_crossings : ClassId) (b_p0_crossings : Nat → Int32) (p0_knots : Nat) (c_p0_knots : ClassId) (b_p0_knots : Nat → Int32) (p0_longOf : Nat) (c_p0_longOf : ClassId) (b_p0_longOf : Nat → Int32) (p0_sides : Nat) (c_p0_sides : ClassId) (b_p0_sides : Nat → Int32) (p0_smooth : Nat) (c_p0_smooth : ClassId) (b_p0_smooth : Nat → Int32) (p0_tight : Nat) (c_p0_tight : ClassId) (b_p0_tight : Nat → Int32) (p0_weight : Nat) (c_p0_weight : ClassId) (b_p0_weight : Nat → Int32) (a1 : Int32) (a2 : Int32) (bk : Int32) (ho_p0 : OKX9 f_p0) (fr_p0_11 : q_rf f_p0 11 p0_knots) (fr_p0_12 : q_rf f_p0 12 p0_cords) (fr_p0_16 : q_rf f_p0 16 p0_tight) (fr_p0_26 : q_rf f_p0 26 p0_sides) (fr_p0_27 : q_rf f_p0 27 p0_crossings) (fr_p0_28 : q_rf f_p0 28 p0_smooth) (fr_p0_29 : q_rf f_p0 29 p0_weight) (fr_p0_30 : q_rf f_p0 30 p0_longOf) (fr_p0_49 : q_rf f_p0 49 p0_bTight) (fr_p0_50 : q_rf f_p0 50 p0_bLong) (hr_p0_cords : q_rg 2 (0) 4 b_p0_cords) (hr_p0_crossings : q_rg 12 (0) 12 b_p0_crossings) (hr_p0_knots : q_rg 2 (0) 6 b_p0_knots) (pf_bk : q_if f_p0 43 bk) : Met l yX9_tie zw_r_tie ({ frames := 2, cells := 0, slots := 0, locals := 47 }) (va_Pc [.ref p0, .int a1, .int a2] (q_pre (dC, dI) (zW_r_tie p0 f_p0 p0_bLong c_p0_bLong b_p0_bLong p0_bTight c_p0_bTight b_p0_bTight p0_cords c_p0_cords b_p0_cords p0_crossings c_p0_crossings b_p0_crossings p0_knots c_p0_knots b_p0_knots p0_longOf c_p0_longOf b_p0_longOf p0_sides c_p0_sides b_p0_sides p0_smooth c_p0_smooth b_p0_smooth p0_tight c_p0_tight b_p0_tight p0_weight c_p0_weight b_p0_weight) (zT_r_tie c_p0_bLong c_p0_bTight c_p0_cords c_p0_crossings c_p0_knots c_p0_longOf c_p0_sides c_p0_smooth c_p0_tight c_p0_weight) q_E0 sz)) (q_Qi (dC, dI) (zG_r_tie p0 f_p0 p0_bLong c_p0_bLong b_p0_bLong p0_bTight c_p0_bTight b_p0_bTight p0_cords c_p0_cords b_p0_cords p0_crossings c_p0_crossings b_p0_crossings p0_knots c_p0_knots b_p0_knots p0_longOf c_p0_longOf b_p0_longOf p0_sides c_p0_sides b_p0_sides p0_smooth c_p0_smooth b_p0_smooth p0_tight c_p0_tight b_p0_tight p0_weight c_p0_weight b_p0_weight a1 a2 bk) (zA_r_tie p0 p0_bLong p0_bTight p0_cords p0_crossings p0_knots p0_longOf p0_sides p0_smooth p0_tight p0_weight) (va_A (zW_r_tie p0 f_p0 p0_bLong c_p0_bLong b_p0_bLong p0_bTight c_p0_bTight b_p0_bTight p0_cords c_p0_cords b_p0_cords p0_crossings c_p0_crossings b_p0_crossings p0_knots c_p0_knots b_p0_knots p0_longOf c_p0_longOf b_p0_longOf p0_sides c_p0_sides b_p0_sides p0_smooth c_p0_smooth b_p0_smooth p0_tight c_p0_tight b_p0_tight p0_weight c_p0_weight b_p0_weight) sz)) 0 0 (va_A (zW_r_tie p0 f_p0 p0_bLong c_p0_bLong b_p0_bLong p0_bTight c_p0_bTight b_p0_bTight p0_cords c_p0_cords b_p0_cords p0_crossings c_p0_crossings b_p0_crossings p0_knots c_p0_knots b_p0_knots p0_longOf c_p0_longOf b_p0_longOf p0_sides c_p0_sides b_p0_sides p0_smooth c_p0_smooth b_p0_smooth p0_tight c_p0_tight b_p0_tight p0_weight c_p0_weight b_p0_weight) sz) := by
  refine Met.ofW (cc := cX9_tie) (maxL := 3) (ret := (some .int)) (by decide) rfl ?_
  intro p e s m args below meth c s₁ B hml hv
  obtain ⟨rfl, hsz, hP, hK, hD0, hE⟩ := hv
  have hx := B.exec
  have hb := B.bytes
  have hr := B.returns
  have hts := atoms_spec (ws := zw_r_tie) B.pre
  have hown : s.vm.findClass RX9 = some m.cls := findClass_of_methodNamed B.named
  have hlocks := B.notSynchronized
  subst hsz
  have hD := hD0.self (sz := s.heap.size)
  generalize hAe : va_A (zW_r_tie p0 f_p0 p0_bLong c_p0_bLong b_p0_bLong p0_bTight c_p0_bTight b_p0_bTight p0_cords c_p0_cords b_p0_cords p0_crossings c_p0_crossings b_p0_crossings p0_knots c_p0_knots b_p0_knots p0_longOf c_p0_longOf b_p0_longOf p0_sides c_p0_sides b_p0_sides p0_smooth c_p0_smooth b_p0_smooth p0_tight c_p0_tight b_p0_tight p0_weight c_p0_weight b_p0_weight) s.heap.size = A at hD hE ⊢
  have hA : ∀ q : Nat, s.heap.size ≤ q → A q := fun q h => by rw [← hAe]; exact Or.inr h
  have hDa : q_DA A (zA_r_tie p0 p0_bLong p0_bTight p0_cords p0_crossings p0_knots p0_longOf p0_sides p0_smooth p0_tight p0_weight) := q_DA.mk hD za_r_tie
  clear hAe hD0 hD
  have hS : va_S A s.heap s.heap [] := va_S.rf
  have m_0 : (.methodLink RX9 431 yX9_isKnot : Cond) ∈ zw_r_tie := List.mem_append_left _ (List.mem_of_getElem? (i := 1) rfl)
  have k_0 := hts _ m_0
  have m_1 : (.instanceMethod yX9_isKnot : Cond) ∈ zw_r_tie := List.mem_append_left _ (List.mem_of_getElem? (i := 2) rfl)
  have k_1 := hts _ m_1
  have m_2 : (.selects RX9 yX9_isKnot yX9_isKnot : Cond) ∈ zw_r_tie := List.mem_append_left _ (List.mem_of_getElem? (i := 3) rfl)
  have k_2 := hts _ m_2
  have m_3 : (.initialized RX9 : Cond) ∈ zw_r_tie := List.mem_append_left _ (List.mem_of_getElem? (i := 4) rfl)
  have k_3 := hts _ m_3
  have m_4 : (.methodLink RX9 434 yX9_isCord : Cond) ∈ zw_r_tie := List.mem_append_left _ (List.mem_of_getElem? (i := 5) rfl)
  have k_4 := hts _ m_4
  have m_5 : (.instanceMethod yX9_isCord : Cond) ∈ zw_r_tie := List.mem_append_left _ (List.mem_of_getElem? (i := 6) rfl)
  have k_5 := hts _ m_5
  have m_6 : (.selects RX9 yX9_isCord yX9_isCord : Cond) ∈ zw_r_tie := List.mem_append_left _ (List.mem_of_getElem? (i := 7) rfl)
  have k_6 := hts _ m_6
  have m_7 : (.methodLink RX9 437 yX9_tieKnot : Cond) ∈ zw_r_tie := List.mem_append_left _ (List.mem_of_getElem? (i := 8) rfl)
  have k_7 := hts _ m_7
  have m_8 : (.instanceMethod yX9_tieKnot : Cond) ∈ zw_r_tie := List.mem_append_left _ (List.mem_of_getElem? (i := 9) rfl)
  have k_8 := hts _ m_8
  have m_9 : (.selects RX9 yX9_tieKnot yX9_tieKnot : Cond) ∈ zw_r_tie := List.mem_append_left _ (List.mem_of_getElem? (i := 10) rfl)
  have k_9 := hts _ m_9
  have m_10 : (.fieldLink RX9 297 "BowWalkModel" "hasBow" "Z" : Cond) ∈ zw_r_tie := List.mem_append_left _ (List.mem_of_getElem? (i := 11) rfl)
  have k_10 := hts _ m_10
  have m_11 : (.fieldLink RX9 440 "BowWalkModel" "walked" "I" : Cond) ∈ zw_r_tie := List.mem_append_left _ (List.mem_of_getElem? (i := 12) rfl)
  have k_11 := hts _ m_11
  have m_12 : (.fieldLink RX9 443 "BowWalkModel" "place" "I" : Cond) ∈ zw_r_tie := List.mem_append_left _ (List.mem_of_getElem? (i := 13) rfl)
  have k_12 := hts _ m_12
  have m_13 : (.fieldLink RX9 446 "BowWalkModel" "stepsDone" "I" : Cond) ∈ zw_r_tie := List.mem_append_left _ (List.mem_of_getElem? (i := 14) rfl)
  have k_13 := hts _ m_13
  have m_14 : (.fieldLink RX9 449 "BowWalkModel" "slipped" "I" : Cond) ∈ zw_r_tie := List.mem_append_left _ (List.mem_of_getElem? (i := 15) rfl)
  have k_14 := hts _ m_14
  have m_15 : (.fieldLink RX9 396 "BowWalkModel" "bMany" "I" : Cond) ∈ zw_r_tie := List.mem_append_left _ (List.mem_of_getElem? (i := 16) rfl)
  have k_15 := hts _ m_15
  have g_r_isKnot : ∀ w ∈ zw_r_isKnot, w ∈ zw_r_tie := fun w h => List.mem_append_right _ (List.mem_append_left _ h)
  have g_r_isCord : ∀ w ∈ zw_r_isCord, w ∈ zw_r_tie := fun w h => List.mem_append_right _ (List.mem_append_right _ (List.mem_append_left _ h))
  have g_r_tieKnot : ∀ w ∈ zw_r_tieKnot, w ∈ zw_r_tie := fun w h => List.mem_append_right _ (List.mem_append_right _ (List.mem_append_right _ (List.mem_append_left _ h)))
  have i_X9 : ∀ w ∈ u_ws RX9 TX9 81, w ∈ zw_r_tie := fun w h => List.mem_append_right _ (List.mem_append_right _ (List.mem_append_right _ (List.mem_append_right _ (List.mem_append_left _ h))))
  have lt_m1 : ((-1) : Int32).toInt = -1 := by decide
  have lt_0 : (0 : Int32).toInt = 0 := by decide
  have lt_1 : (1 : Int32).toInt = 1 := by decide
  have hl := lv_entry ([.ref p0, .int a1, .int a2]) (n := 3) (Nat.le_of_ble_eq_true rfl)
  rw [lg_entry_eq]
  generalize (lg_sl ([.ref p0, .int a1, .int a2]) ++ List.replicate (3 - (lg_sl ([.ref p0, .int a1, .int a2])).length) Slot.unset).toArray = ls at hl ⊢
  have hl : lv_has ls 3 [(0, .ref p0), (1, .int a1), (2, .int a2)] := hl
  have tbk := (OKX9_g43 ho_p0).use pf_bk
  refine lv_aload_n hx hb dX9_tie_0 rfl (lv_at hl 0 rfl) (lv_iload_n hx hb dX9_tie_1 rfl (lv_at hl 1 rfl) ?_)
  refine q_cVi (As := [.int a1]) (rest := []) q_w0 trivial hK hP hDa za_r_tie hS hA [0, 5] [4] (by decide +kernel) ⟨hx, hb, hml, hown, hts⟩ (r_isKnot l dC dI s.heap.size p0 f_p0 p0_knots c_p0_knots b_p0_knots a1 bk ho_p0 fr_p0_11 hr_p0_knots pf_bk) rfl rfl (cwV 1 hts (p1_gV m_0 m_1 m_2 m_3 g_r_isKnot gz_r_isKnot) rfl rfl rfl (by decide +kernel) ⟨by decide, by decide⟩) (va_recv hK hP (ci := 8) (q0 := 0) rfl rfl) zm_r_isKnot rfl hl.1 rfl (Nat.le_of_ble_eq_true rfl) dX9_tie_2 ⟨by decide, by decide⟩ (fun r_1 H2 lo2 hG2 hS2 => ?_)
  obtain ⟨z_3, hQ2⟩ := hG2
  have hP2 : va_P (dC, dI) vwCl (zW_r_tie p0 f_p0 p0_bLong c_p0_bLong b_p0_bLong p0_bTight c_p0_bTight b_p0_bTight p0_cords c_p0_cords b_p0_cords p0_crossings c_p0_crossings b_p0_crossings p0_knots c_p0_knots b_p0_knots p0_longOf c_p0_longOf b_p0_longOf p0_sides c_p0_sides b_p0_sides p0_smooth c_p0_smooth b_p0_smooth p0_tight c_p0_tight b_p0_tight p0_weight c_p0_weight b_p0_weight) H2 := hQ2
  clear hQ2 hP hS
  rcases z_3 with ⟨rfl, z_3⟩ | ⟨rfl, z_3⟩
  · refine lv_if_eq (tgt := 16) hx hb dX9_tie_5 (by decide) (fun c_4 => absurd c_4 (by decide)) (fun c_4 => ?_)
    refine lv_aload_n hx hb dX9_tie_8 rfl (lv_at hl 0 rfl) (lv_iload_n hx hb dX9_tie_9 rfl (lv_at hl 2 rfl) ?_)
    refine q_cVi (As := [.int a2]) (rest := []) q_w0 trivial hK hP2 hDa za_r_tie hS2 hA [0, 3] [2] (by decide +kernel) ⟨hx, hb, hml, hown, hts⟩ (r_isCord l dC dI H2.size p0 f_p0 p0_cords c_p0_cords b_p0_cords a2 bk ho_p0 fr_p0_12 hr_p0_cords pf_bk) rfl rfl (cwV 1 hts (p1_gV m_4 m_5 m_6 m_3 g_r_isCord gz_r_isCord) rfl rfl rfl (by decide +kernel) ⟨by decide, by decide⟩) (va_recv hK hP2 (ci := 8) (q0 := 0) rfl rfl) zm_r_isCord rfl hl.1 rfl (Nat.le_of_ble_eq_true rfl) dX9_tie_10 ⟨by decide, by decide⟩ (fun r_5 H6 lo6 hG6 hS6 => ?_)
    obtain ⟨z_7, hQ6⟩ := hG6
    have hP6 : va_P (dC, dI) vwCl (zW_r_tie p0 f_p0 p0_bLong c_p0_bLong b_p0_bLong p0_bTight c_p0_bTight b_p0_bTight p0_cords c_p0_cords b_p0_cords p0_crossings c_p0_crossings b_p0_crossings p0_knots c_p0_knots b_p0_knots p0_longOf c_p0_longOf b_p0_longOf p0_sides c_p0_sides b_p0_sides p0_smooth c_p0_smooth b_p0_smooth p0_tight c_p0_tight b_p0_tight p0_weight c_p0_weight b_p0_weight) H6 := hQ6
    clear hQ6 hP2 hS2
    rcases z_7 with ⟨rfl, z_7⟩ | ⟨rfl, z_7⟩
    · refine lv_if_ne (tgt := 18) hx hb dX9_tie_13 (by decide) (fun c_8 => ?_) (fun c_8 => absurd c_8 (by decide))
      refine lv_aload_n hx hb dX9_tie_18 rfl (lv_at hl 0 rfl) (lv_iload_n hx hb dX9_tie_19 rfl (lv_at hl 1 rfl) (lv_iload_n hx hb dX9_tie_20 rfl (lv_at hl 2 rfl) ?_))
      refine q_cVv (As := [.int a1, .int a2]) (rest := []) q_w0 trivial hK hP6 hDa za_r_tie hS6 hA [0, 1, 2, 4, 6, 7, 8, 9, 10] [0, 1, 3, 5, 6, 7, 8, 9] (by decide +kernel) ⟨hx, hb, hml, hown, hts⟩ (r_tieKnot l dC dI H6.size p0 f_p0 p0_bLong c_p0_bLong b_p0_bLong p0_bTight c_p0_bTight b_p0_bTight p0_crossings c_p0_crossings b_p0_crossings p0_longOf c_p0_longOf b_p0_longOf p0_sides c_p0_sides b_p0_sides p0_smooth c_p0_smooth b_p0_smooth p0_tight c_p0_tight b_p0_tight p0_weight c_p0_weight b_p0_weight a1 a2 bk ho_p0 fr_p0_16 fr_p0_26 fr_p0_27 fr_p0_28 fr_p0_29 fr_p0_30 fr_p0_49 fr_p0_50 hr_p0_crossings pf_bk ((by omega)) ((by omega))) rfl rfl (cwV 2 hts (p1_gV m_7 m_8 m_9 m_3 g_r_tieKnot gz_r_tieKnot) rfl rfl rfl (by decide +kernel) ⟨by decide, by decide⟩) (va_recv hK hP6 (ci := 8) (q0 := 0) rfl rfl) zm_r_tieKnot rfl hl.1 rfl (Nat.le_of_ble_eq_true rfl) dX9_tie_21 ⟨by decide, by decide⟩ (fun H10 lo10 hG10 hS10 => ?_)
      obtain ⟨o_11, o_12, o_13, ho_14, hf_15, hQ10⟩ := hG10
      have hP10 : va_P (dC, dI) vwCl (zW_r_tie p0 o_11 p0_bLong c_p0_bLong o_12 p0_bTight c_p0_bTight o_13 p0_cords c_p0_cords b_p0_cords p0_crossings c_p0_crossings b_p0_crossings p0_knots c_p0_knots b_p0_knots p0_longOf c_p0_longOf b_p0_longOf p0_sides c_p0_sides b_p0_sides p0_smooth c_p0_smooth b_p0_smooth p0_tight c_p0_tight b_p0_tight p0_weight c_p0_weight b_p0_weight) H10 := hQ10
      clear hQ10 hP6 hS6
      refine lv_aload_n hx hb dX9_tie_24 rfl (lv_at hl 0 rfl) (lv_iconst (v := 1) hx hb dX9_tie_25 (by decide) (qp_X9_60 hx hb hts i_X9 hown hK hP10 hDa za_r_tie hS10 0 rfl k_10 rfl rfl (OKX9_l ho_14) dX9_tie_26 (fun H16 lo16 fs16 efs16 (hP16 : va_P (dC, dI) vwCl (zW_r_tie p0 fs16 p0_bLong c_p0_bLong o_12 p0_bTight c_p0_bTight o_13 p0_cords c_p0_cords b_p0_cords p0_crossings c_p0_crossings b_p0_crossings p0_knots c_p0_knots b_p0_knots p0_longOf c_p0_longOf b_p0_longOf p0_sides c_p0_sides b_p0_sides p0_smooth c_p0_smooth b_p0_smooth p0_tight c_p0_tight b_p0_tight p0_weight c_p0_weight b_p0_weight) H16) hS16 => ?_)))
      have ho16 := OKX9_p60 ho_14 efs16
      clear hP10 hS10
      refine lv_aload_n hx hb dX9_tie_29 rfl (lv_at hl 0 rfl) (lv_iconst (v := (-1)) hx hb dX9_tie_30 (by decide) (qp_X9_61 hx hb hts i_X9 hown hK hP16 hDa za_r_tie hS16 0 rfl k_11 (OKX9_l ho16) dX9_tie_31 (fun H17 lo17 fs17 efs17 (hP17 : va_P (dC, dI) vwCl (zW_r_tie p0 fs17 p0_bLong c_p0_bLong o_12 p0_bTight c_p0_bTight o_13 p0_cords c_p0_cords b_p0_cords p0_crossings c_p0_crossings b_p0_crossings p0_knots c_p0_knots b_p0_knots p0_longOf c_p0_longOf b_p0_longOf p0_sides c_p0_sides b_p0_sides p0_smooth c_p0_smooth b_p0_smooth p0_tight c_p0_tight b_p0_tight p0_weight c_p0_weight b_p0_weight) H17) hS17 => ?_)))
      have ho17 := OKX9_p61 ho16 efs17
      clear hP16 hS16
      refine lv_aload_n hx hb dX9_tie_34 rfl (lv_at hl 0 rfl) (lv_iconst (v := 0) hx hb dX9_tie_35 (by decide) ?_)
      obtain ⟨v_18, v_19, fv_18, fv_19, tv_18⟩ := OKX9_g62 ho17
      refine qp_X9_62 hx hb hts i_X9 hown hK hP17 hDa za_r_tie hS17 0 rfl k_12 (OKX9_l ho17) dX9_tie_36 (fun H20 lo20 fs20 efs20 (hP20 : va_P (dC, dI) vwCl (zW_r_tie p0 fs20 p0_bLong c_p0_bLong o_12 p0_bTight c_p0_bTight o_13 p0_cords c_p0_cords b_p0_cords p0_crossings c_p0_crossings b_p0_crossings p0_knots c_p0_knots b_p0_knots p0_longOf c_p0_longOf b_p0_longOf p0_sides c_p0_sides b_p0_sides p0_smooth c_p0_smooth b_p0_smooth p0_tight c_p0_tight b_p0_tight p0_weight c_p0_weight b_p0_weight) H20) hS20 => ?_)
      have ho20 := OKX9_p62 ho17 efs20 fv_19 ⟨by omega, by omega, by omega⟩
      clear hP17 hS17
      refine lv_aload_n hx hb dX9_tie_39 rfl (lv_at hl 0 rfl) (lv_iconst (v := 0) hx hb dX9_tie_40 (by decide) (qp_X9_63 hx hb hts i_X9 hown hK hP20 hDa za_r_tie hS20 0 rfl k_13 (OKX9_l ho20) dX9_tie_41 (fun H21 lo21 fs21 efs21 (hP21 : va_P (dC, dI) vwCl (zW_r_tie p0 fs21 p0_bLong c_p0_bLong o_12 p0_bTight c_p0_bTight o_13 p0_cords c_p0_cords b_p0_cords p0_crossings c_p0_crossings b_p0_crossings p0_knots c_p0_knots b_p0_knots p0_longOf c_p0_longOf b_p0_longOf p0_sides c_p0_sides b_p0_sides p0_smooth c_p0_smooth b_p0_smooth p0_tight c_p0_tight b_p0_tight p0_weight c_p0_weight b_p0_weight) H21) hS21 => ?_)))
      have ho21 := OKX9_p63 ho20 efs21 (q_sa efs20 (OKX9_l ho17) (by decide)) ⟨by omega, by omega, by omega⟩
      clear hP20 hS20
      refine lv_aload_n hx hb dX9_tie_44 rfl (lv_at hl 0 rfl) (lv_iconst (v := 0) hx hb dX9_tie_45 (by decide) (qp_X9_64 hx hb hts i_X9 hown hK hP21 hDa za_r_tie hS21 0 rfl k_14 (OKX9_l ho21) dX9_tie_46 (fun H22 lo22 fs22 efs22 (hP22 : va_P (dC, dI) vwCl (zW_r_tie p0 fs22 p0_bLong c_p0_bLong o_12 p0_bTight c_p0_bTight o_13 p0_cords c_p0_cords b_p0_cords p0_crossings c_p0_crossings b_p0_crossings p0_knots c_p0_knots b_p0_knots p0_longOf c_p0_longOf b_p0_longOf p0_sides c_p0_sides b_p0_sides p0_smooth c_p0_smooth b_p0_smooth p0_tight c_p0_tight b_p0_tight p0_weight c_p0_weight b_p0_weight) H22) hS22 => ?_)))
      have ho22 := OKX9_p64 ho21 efs22
      clear hP21 hS21
      refine lv_aload_n hx hb dX9_tie_49 rfl (lv_at hl 0 rfl) ?_
      obtain ⟨v_23, fv_23, tv_23⟩ := OKX9_g52 ho22
      refine qg_X9_52 hx hb hts i_X9 hown hK hP22 0 rfl k_15 fv_23 dX9_tie_50 ?_
      exact q_iret hx hb hr hlocks hS22 dX9_tie_53 ⟨fs22, o_12, o_13, ho22, ((((((q_fr.rf.tr hf_15 (by decide)).st efs16 (by decide)).st efs17 (by decide)).st efs20 (by decide)).st efs21 (by decide)).st efs22 (by decide)), hP22, za_r_tie⟩
    · refine lv_if_ne (tgt := 18) hx hb dX9_tie_13 (by decide) (fun c_24 => absurd c_24 (by decide)) (fun c_24 => ?_)
      refine lv_iconst (v := (-1)) hx hb dX9_tie_16 (by decide) ?_
      exact q_iret hx hb hr hlocks hS6 dX9_tie_17 ⟨f_p0, b_p0_bLong, b_p0_bTight, ho_p0, q_fr.rf, hP6, za_r_tie⟩
  · refine lv_if_eq (tgt := 16) hx hb dX9_tie_5 (by decide) (fun c_25 => ?_) (fun c_25 => absurd c_25 (by decide))
    refine lv_iconst (v := (-1)) hx hb dX9_tie_16 (by decide) ?_
    exact q_iret hx hb hr hlocks hS2 dX9_tie_17 ⟨f_p0, b_p0_bLong, b_p0_bTight, ho_p0, q_fr.rf, hP2, za_r_tie⟩
def zo_r_earnest : List Cond := [.code yX9_earnest cX9_earnest 3 (some .int), .fieldLink RX9 291 "BowWalkModel" "bank" "I", .fieldLink RX9 443 "BowWalkModel" "place" "I", .fieldLink RX9 83 "BowWalkModel" "steps" "[I", .fieldLink RX9 86 "BowWalkModel" "strikes" "[I", .fieldLink RX9 376 "BowWalkModel" "nowStrike" "I", .fieldLink RX9 89 "BowWalkModel" "swings" "[I", .fieldLink RX9 379 "BowWalkModel" "nowSwing" "I", .fieldLink RX9 39 "BowWalkModel" "luck" "[I", .fieldLink RX9 446 "BowWalkModel" "stepsDone" "I", .methodLink RX9 427 yX9_pullIt, .instanceMethod yX9_pullIt, .selects RX9 yX9_pullIt yX9_pullIt, .initialized RX9, .methodLink RX9 452 yX9_draw, .instanceMethod yX9_draw, .selects RX9 yX9_draw yX9_draw]
def zw_r_earnest : List Cond := zo_r_earnest ++ (zw_r_pullIt ++ (zw_r_draw ++ (wsX90 ++ [])))
theorem gz_r_earnest : zw_r_earnest.all goodWord = true := p1_ga (by decide +kernel) (p1_ga gz_r_pullIt (p1_ga gz_r_draw (p1_ga gk_X9 p1_g0)))
theorem iz_r_earnest : ∀ w ∈ zw_r_earnest, w ∈ lw_tbl := p1_ia (p1_all [1466, 1080, 1099, 1068, 1069, 1093, 1070, 1094, 1054, 1100, 1472, 1474, 78, 116, 1467, 1469, 77] (by decide +kernel)) (p1_ia iz_r_pullIt (p1_ia iz_r_draw (p1_ia ik_X9 p1_i0)))
def zW_r_earnest (p0 : Nat) (f_p0 : List Value) (p0_bLong : Nat) (c_p0_bLong : ClassId) (b_p0_bLong : Nat → Int32) (p0_bTight : Nat) (c_p0_bTight : ClassId) (b_p0_bTight : Nat → Int32) (p0_code : Nat) (c_p0_code : ClassId) (b_p0_code : Nat → Int32) (p0_codeNumber : Nat) (c_p0_codeNumber : ClassId) (b_p0_codeNumber : Nat → Int32) (p0_laws : Nat) (c_p0_laws : ClassId) (b_p0_laws : Nat → Int32) (p0_luck : Nat) (c_p0_luck : ClassId) (b_p0_luck : Nat → Int32) (p0_pile : Nat) (c_p0_pile : ClassId) (b_p0_pile : Nat → Int32) (p0_rFrom : Nat) (c_p0_rFrom : ClassId) (b_p0_rFrom : Nat → Int32) (p0_rTo : Nat) (c_p0_rTo : ClassId) (b_p0_rTo : Nat → Int32) (p0_steps : Nat) (c_p0_steps : ClassId) (b_p0_steps : Nat → Int32) (p0_strikes : Nat) (c_p0_strikes : ClassId) (b_p0_strikes : Nat → Int32) (p0_swings : Nat) (c_p0_swings : ClassId) (b_p0_swings : Nat → Int32) (p0_walks : Nat) (c_p0_walks : ClassId) (b_p0_walks : Nat → Int32) : va_W := [(p0, .inr (8, f_p0)), (p0_bLong, .inl (c_p0_bLong, 2, .inl b_p0_bLong)), (p0_bTight, .inl (c_p0_bTight, 12, .inl b_p0_bTight)), (p0_code, .inl (c_p0_code, 1800, .inl b_p0_code)), (p0_codeNumber, .inl (c_p0_codeNumber, 1800, .inl b_p0_codeNumber)), (p0_laws, .inl (c_p0_laws, 2, .inl b_p0_laws)), (p0_luck, .inl (c_p0_luck, 2, .inl b_p0_luck)), (p0_pile, .inl (c_p0_pile, 90, .inl b_p0_pile)), (p0_rFrom, .inl (c_p0_rFrom, 12, .inl b_p0_rFrom)), (p0_rTo, .inl (c_p0_rTo, 12, .inl b_p0_rTo)), (p0_steps, .inl (c_p0_steps, 8, .inl b_p0_steps)), (p0_strikes, .inl (c_p0_strikes, 64, .inl b_p0_strikes)), (p0_swings, .inl (c_p0_swings, 64, .inl b_p0_swings)), (p0_walks, .inl (c_p0_walks, 2, .inl b_p0_walks))]
def zT_r_earnest (c_p0_bLong : ClassId) (c_p0_bTight : ClassId) (c_p0_code : ClassId) (c_p0_codeNumber : ClassId) (c_p0_laws : ClassId) (c_p0_luck : ClassId) (c_p0_pile : ClassId) (c_p0_rFrom : ClassId) (c_p0_rTo : ClassId) (c_p0_steps : ClassId) (c_p0_strikes : ClassId) (c_p0_swings : ClassId) (c_p0_walks : ClassId) : List (ClassId × FieldType) := [(c_p0_bLong, .int), (c_p0_bTight, .int), (c_p0_code, .int), (c_p0_codeNumber, .int), (c_p0_laws, .int), (c_p0_luck, .int), (c_p0_pile, .int), (c_p0_rFrom, .int), (c_p0_rTo, .int), (c_p0_steps, .int), (c_p0_strikes, .int), (c_p0_swings, .int), (c_p0_walks, .int)]
def zA_r_earnest (p0 : Nat) (p0_bLong : Nat) (p0_bTight : Nat) (p0_code : Nat) (p0_codeNumber : Nat) (p0_laws : Nat) (p0_luck : Nat) (p0_pile : Nat) (p0_rFrom : Nat) (p0_rTo : Nat) (p0_steps : Nat) (p0_strikes : Nat) (p0_swings : Nat) (p0_walks : Nat) : List Nat := [p0, p0_bLong, p0_bTight, p0_code, p0_codeNumber, p0_laws, p0_luck, p0_pile, p0_rFrom, p0_rTo, p0_steps, p0_strikes, p0_swings, p0_walks]
theorem za_r_earnest {p0 : Nat} {f_p0 : List Value} {p0_bLong : Nat} {c_p0_bLong : ClassId} {b_p0_bLong : Nat → Int32} {p0_bTight : Nat} {c_p0_bTight : ClassId} {b_p0_bTight : Nat → Int32} {p0_code : Nat} {c_p0_code : ClassId} {b_p0_code : Nat → Int32} {p0_codeNumber : Nat} {c_p0_codeNumber : ClassId} {b_p0_codeNumber : Nat → Int32} {p0_laws : Nat} {c_p0_laws : ClassId} {b_p0_laws : Nat → Int32} {p0_luck : Nat} {c_p0_luck : ClassId} {b_p0_luck : Nat → Int32} {p0_pile : Nat} {c_p0_pile : ClassId} {b_p0_pile : Nat → Int32} {p0_rFrom : Nat} {c_p0_rFrom : ClassId} {b_p0_rFrom : Nat → Int32} {p0_rTo : Nat} {c_p0_rTo : ClassId} {b_p0_rTo : Nat → Int32} {p0_steps : Nat} {c_p0_steps : ClassId} {b_p0_steps : Nat → Int32} {p0_strikes : Nat} {c_p0_strikes : ClassId} {b_p0_strikes : Nat → Int32} {p0_swings : Nat} {c_p0_swings : ClassId} {b_p0_swings : Nat → Int32} {p0_walks : Nat} {c_p0_walks : ClassId} {b_p0_walks : Nat → Int32} : (zW_r_earnest p0 f_p0 p0_bLong c_p0_bLong b_p0_bLong p0_bTight c_p0_bTight b_p0_bTight p0_code c_p0_code b_p0_code p0_codeNumber c_p0_codeNumber b_p0_codeNumber p0_laws c_p0_laws b_p0_laws p0_luck c_p0_luck b_p0_luck p0_pile c_p0_pile b_p0_pile p0_rFrom c_p0_rFrom b_p0_rFrom p0_rTo c_p0_rTo b_p0_rTo p0_steps c_p0_steps b_p0_steps p0_strikes c_p0_strikes b_p0_strikes p0_swings c_p0_swings b_p0_swings p0_walks c_p0_walks b_p0_walks).map Prod.fst = (zA_r_earnest p0 p0_bLong p0_bTight p0_code p0_codeNumber p0_laws p0_luck p0_pile p0_rFrom p0_rTo p0_steps p0_strikes p0_swings p0_walks) := rfl
def zG_r_earnest (p0 : Nat) (f_p0 : List Value) (p0_bLong : Nat) (c_p0_bLong : ClassId) (b_p0_bLong : Nat → Int32) (p0_bTight : Nat) (c_p0_bTight : ClassId) (b_p0_bTight : Nat → Int32) (p0_code : Nat) (c_p0_code : ClassId) (b_p0_code : Nat → Int32) (p0_codeNumber : Nat) (c_p0_codeNumber : ClassId) (b_p0_codeNumber : Nat → Int32) (p0_laws : Nat) (c_p0_laws : ClassId) (b_p0_laws : Nat → Int32) (p0_luck : Nat) (c_p0_luck : ClassId) (b_p0_luck : Nat → Int32) (p0_pile : Nat) (c_p0_pile : ClassId) (b_p0_pile : Nat → Int32) (p0_rFrom : Nat) (c_p0_rFrom : ClassId) (b_p0_rFrom : Nat → Int32) (p0_rTo : Nat) (c_p0_rTo : ClassId) (b_p0_rTo : Nat → Int32) (p0_steps : Nat) (c_p0_steps : ClassId) (b_p0_steps : Nat → Int32) (p0_strikes : Nat) (c_p0_strikes : ClassId) (b_p0_strikes : Nat → Int32) (p0_swings : Nat) (c_p0_swings : ClassId) (b_p0_swings : Nat → Int32) (p0_walks : Nat) (c_p0_walks : ClassId) (b_p0_walks : Nat → Int32) (a1 : Int32) (sd : Int32) (bk : Int32) (r : Int32) (X : va_W → Prop) : Prop := ∃ (y_p0 : List Value) (y_p0_bLong : Nat → Int32) (y_p0_bTight : Nat → Int32) (y_p0_pile : Nat → Int32) (sd1 : Int32), OKX9 y_p0 ∧ q_fr [52, 56, 57, 62, 63, 65] f_p0 y_p0 ∧ q_if y_p0 63 sd1 ∧ (sd1.toInt = sd.toInt + 1) ∧ X (zW_r_earnest p0 y_p0 p0_bLong c_p0_bLong y_p0_bLong p0_bTight c_p0_bTight y_p0_bTight p0_code c_p0_code b_p0_code p0_codeNumber c_p0_codeNumber b_p0_codeNumber p0_laws c_p0_laws b_p0_laws p0_luck c_p0_luck b_p0_luck p0_pile c_p0_pile y_p0_pile p0_rFrom c_p0_rFrom b_p0_rFrom p0_rTo c_p0_rTo b_p0_rTo p0_steps c_p0_steps b_p0_steps p0_strikes c_p0_strikes b_p0_strikes p0_swings c_p0_swings b_p0_swings p0_walks c_p0_walks b_p0_walks)
theorem zm_r_earnest {p0 : Nat} {f_p0 : List Value} {p0_bLong : Nat} {c_p0_bLong : ClassId} {b_p0_bLong : Nat → Int32} {p0_bTight : Nat} {c_p0_bTight : ClassId} {b_p0_bTight : Nat → Int32} {p0_code : Nat} {c_p0_code : ClassId} {b_p0_code : Nat → Int32} {p0_codeNumber : Nat} {c_p0_codeNumber : ClassId} {b_p0_codeNumber : Nat → Int32} {p0_laws : Nat} {c_p0_laws : ClassId} {b_p0_laws : Nat → Int32} {p0_luck : Nat} {c_p0_luck : ClassId} {b_p0_luck : Nat → Int32} {p0_pile : Nat} {c_p0_pile : ClassId} {b_p0_pile : Nat → Int32} {p0_rFrom : Nat} {c_p0_rFrom : ClassId} {b_p0_rFrom : Nat → Int32} {p0_rTo : Nat} {c_p0_rTo : ClassId} {b_p0_rTo : Nat → Int32} {p0_steps : Nat} {c_p0_steps : ClassId} {b_p0_steps : Nat → Int32} {p0_strikes : Nat} {c_p0_strikes : ClassId} {b_p0_strikes : Nat → Int32} {p0_swings : Nat} {c_p0_swings : ClassId} {b_p0_swings : Nat → Int32} {p0_walks : Nat} {c_p0_walks : ClassId} {b_p0_walks : Nat → Int32} {a1 : Int32} {sd : Int32} {bk : Int32} : ∀ (r : Int32), ∀ X Y : va_W → Prop, (∀ w, X w → Y w) → zG_r_earnest p0 f_p0 p0_bLong c_p0_bLong b_p0_bLong p0_bTight c_p0_bTight b_p0_bTight p0_code c_p0_code b_p0_code p0_codeNumber c_p0_codeNumber b_p0_codeNumber p0_laws c_p0_laws b_p0_laws p0_luck c_p0_luck b_p0_luck p0_pile c_p0_pile b_p0_pile p0_rFrom c_p0_rFrom b_p0_rFrom p0_rTo c_p0_rTo b_p0_rTo p0_steps c_p0_steps b_p0_steps p0_strikes c_p0_strikes b_p0_strikes p0_swings c_p0_swings b_p0_swings p0_walks c_p0_walks b_p0_walks a1 sd bk r X → zG_r_earnest p0 f_p0 p0_bLong c_p0_bLong b_p0_bLong p0_bTight c_p0_bTight b_p0_bTight p0_code c_p0_code b_p0_code p0_codeNumber c_p0_codeNumber b_p0_codeNumber p0_laws c_p0_laws b_p0_laws p0_luck c_p0_luck b_p0_luck p0_pile c_p0_pile b_p0_pile p0_rFrom c_p0_rFrom b_p0_rFrom p0_rTo c_p0_rTo b_p0_rTo p0_steps c_p0_steps b_p0_steps p0_strikes c_p0_strikes b_p0_strikes p0_swings c_p0_swings b_p0_swings p0_walks c_p0_walks b_p0_walks a1 sd bk r Y := fun r X Y h h1 => by obtain ⟨x0, x1, x2, x3, x4, x5, x6, x7, x8, hx⟩ := h1; exact ⟨x0, x1, x2, x3, x4, x5, x6, x7, x8, h _ hx⟩
set_option maxHeartbeats 4000000 in
set_option maxRecDepth 100000 in
theorem r_earnest (l : Launch) (dC : Nat → ClassId) (dI : Nat → Nat → Nat) (sz : Nat) (p0 : Nat) (f_p0 : List Value) (p0_bLong : Nat) (c_p0_bLong : ClassId) (b_p0_bLong : Nat → Int32) (p0_bTight : Nat) (c_p0_bTight : ClassId) (b_p0_bTight : Nat → Int32) (p0_code : Nat) (c_p0_code : ClassId) (b_p0_code : Nat → Int32) (p0_codeNumber : Nat) (c_p0_codeNumber : ClassId) (b_p0_codeNumber : Nat → Int32) (p0_laws : Nat) (c_p0_laws : ClassId) (b_p0_laws : Nat → Int32) (p0_luck : Nat) (c_p0_luck : ClassId) (b_p0_luck : Nat → Int32) (p0_pile : Nat) (c_p0_pile : ClassId) (b_p0_pile : Nat → Int32) (p0_rFrom : Nat) (c_p0_rFrom : ClassId) (b_p0_rFrom : Nat → Int32) (p0_rTo : Nat) (c_p0_rTo : ClassId) (b_p0_rTo : Nat → Int32) (p0_steps : Nat) (c_p0_steps : ClassId) (b_p0_steps : Nat → Int32) (p0_strikes : Nat) (c_p0_strikes : ClassId) (b_p0_strikes : Nat → Int32) (p0_swings : Nat) (c_p0_swings : ClassId) (b_p0_swings : Nat → Int32) (p0_walks : Nat) (c_p0_walks : ClassId) (b_p0_walks : Nat → Int32) (a1 : Int32) (sd : Int32) (bk : Int32) (ho_p0 : OKX9 f_p0) (fr_p0_13 : q_rf f_p0 13 p0_walks) (fr_p0_14 : q_rf f_p0 14 p0_laws) (fr_p0_17 : q_rf f_p0 17 p0_luck) (fr_p0_31 : q_rf f_p0 31 p0_steps) (fr_p0_32 : q_rf f_p0 32 p0_strikes) (fr_p0_33 : q_rf f_p0 33 p0_swings) (fr_p0_36 : q_rf f_p0 36 p0_rFrom) (fr_p0_37 : q_rf f_p0 37 p0_rTo) (fr_p0_38 : q_rf f_p0 38 p0_code) (fr_p0_39 : q_rf f_p0 39 p0_codeNumber) (fr_p0_42 : q_rf f_p0 42 p0_pile) (fr_p0_49 : q_rf f_p0 49 p0_bTight) (fr_p0_50 : q_rf f_p0 50 p0_bLong) (hr_p0_laws : q_rg 2 (0) 3 b_p0_laws) (hr_p0_luck : q_rg 2 (0) 49 b_p0_luck) (hr_p0_rFrom : q_rg 12 (0) 1800 b_p0_rFrom) (hr_p0_rTo : q_rg 12 (0) 1800 b_p0_rTo) (hr_p0_steps : q_rg 8 (0) 8 b_p0_steps) (hr_p0_walks : q_rg 2 (0) 4 b_p0_walks) (pf_sd : q_if f_p0 63 sd) (pf_bk : q_if f_p0 43 bk) (ta1 : (0) ≤ a1.toInt ∧ a1.toInt ≤ 3) (hWB : q_WB bk b_p0_walks b_p0_steps) (hLB : q_LB bk b_p0_laws b_p0_rFrom b_p0_rTo b_p0_code) (hw : 0 ≤ a1.toInt ∧ a1.toInt < (b_p0_walks bk.toNatClampNeg).toInt) (hsd : sd.toInt ≤ 99999) (hl0 : (b_p0_laws bk.toNatClampNeg).toInt = 0 ∨ 0 < (b_p0_laws bk.toNatClampNeg).toInt) : Met l yX9_earnest zw_r_earnest ({ frames := 5, cells := 0, slots := 0, locals := 122 }) (va_Pc [.ref p0, .int a1] (q_pre (dC, dI) (zW_r_earnest p0 f_p0 p0_bLong c_p0_bLong b_p0_bLong p0_bTight c_p0_bTight b_p0_bTight p0_code c_p0_code b_p0_code p0_codeNumber c_p0_codeNumber b_p0_codeNumber p0_laws c_p0_laws b_p0_laws p0_luck c_p0_luck b_p0_luck p0_pile c_p0_pile b_p0_pile p0_rFrom c_p0_rFrom b_p0_rFrom p0_rTo c_p0_rTo b_p0_rTo p0_steps c_p0_steps b_p0_steps p0_strikes c_p0_strikes b_p0_strikes p0_swings c_p0_swings b_p0_swings p0_walks c_p0_walks b_p0_walks) (zT_r_earnest c_p0_bLong c_p0_bTight c_p0_code c_p0_codeNumber c_p0_laws c_p0_luck c_p0_pile c_p0_rFrom c_p0_rTo c_p0_steps c_p0_strikes c_p0_swings c_p0_walks) q_E0 sz)) (q_Qi (dC, dI) (zG_r_earnest p0 f_p0 p0_bLong c_p0_bLong b_p0_bLong p0_bTight c_p0_bTight b_p0_bTight p0_code c_p0_code b_p0_code p0_codeNumber c_p0_codeNumber b_p0_codeNumber p0_laws c_p0_laws b_p0_laws p0_luck c_p0_luck b_p0_luck p0_pile c_p0_pile b_p0_pile p0_rFrom c_p0_rFrom b_p0_rFrom p0_rTo c_p0_rTo b_p0_rTo p0_steps c_p0_steps b_p0_steps p0_strikes c_p0_strikes b_p0_strikes p0_swings c_p0_swings b_p0_swings p0_walks c_p0_walks b_p0_walks a1 sd bk) (zA_r_earnest p0 p0_bLong p0_bTight p0_code p0_codeNumber p0_laws p0_luck p0_pile p0_rFrom p0_rTo p0_steps p0_strikes p0_swings p0_walks) (va_A (zW_r_earnest p0 f_p0 p0_bLong c_p0_bLong b_p0_bLong p0_bTight c_p0_bTight b_p0_bTight p0_code c_p0_code b_p0_code p0_codeNumber c_p0_codeNumber b_p0_codeNumber p0_laws c_p0_laws b_p0_laws p0_luck c_p0_luck b_p0_luck p0_pile c_p0_pile b_p0_pile p0_rFrom c_p0_rFrom b_p0_rFrom p0_rTo c_p0_rTo b_p0_rTo p0_steps c_p0_steps b_p0_steps p0_strikes c_p0_strikes b_p0_strikes p0_swings c_p0_swings b_p0_swings p0_walks c_p0_walks b_p0_walks) sz)) 0 0 (va_A (zW_r_earnest p0 f_p0 p0_bLong c_p0_bLong b_p0_bLong p0_bTight c_p0_bTight b_p0_bTight p0_code c_p0_code b_p0_code p0_codeNumber c_p0_codeNumber b_p0_codeNumber p0_laws c_p0_laws b_p0_laws p0_luck c_p0_luck b_p0_luck p0_pile c_p0_pile b_p0_pile p0_rFrom c_p0_rFrom b_p0_rFrom p0_rTo c_p0_rTo b_p0_rTo p0_steps c_p0_steps b_p0_steps p0_strikes c_p0_strikes b_p0_strikes p0_swings c_p0_swings b_p0_swings p0_walks c_p0_walks b_p0_walks) sz) := by
  refine Met.ofW (cc := cX9_earnest) (maxL := 3) (ret := (some .int)) (by decide) rfl ?_
  intro p e s m args below meth c s₁ B hml hv
  obtain ⟨rfl, hsz, hP, hK, hD0, hE⟩ := hv
  have hx := B.exec
  have hb := B.bytes
  have hr := B.returns
  have hts := atoms_spec (ws := zw_r_earnest) B.pre
  have hown : s.vm.findClass RX9 = some m.cls := findClass_of_methodNamed B.named
  have hlocks := B.notSynchronized
  subst hsz
  have hD := hD0.self (sz := s.heap.size)
  generalize hAe : va_A (zW_r_earnest p0 f_p0 p0_bLong c_p0_bLong b_p0_bLong p0_bTight c_p0_bTight b_p0_bTight p0_code c_p0_code b_p0_code p0_codeNumber c_p0_codeNumber b_p0_codeNumber p0_laws c_p0_laws b_p0_laws p0_luck c_p0_luck b_p0_luck p0_pile c_p0_pile b_p0_pile p0_rFrom c_p0_rFrom b_p0_rFrom p0_rTo c_p0_rTo b_p0_rTo p0_steps c_p0_steps b_p0_steps p0_strikes c_p0_strikes b_p0_strikes p0_swings c_p0_swings b_p0_swings p0_walks c_p0_walks b_p0_walks) s.heap.size = A at hD hE ⊢
  have hA : ∀ q : Nat, s.heap.size ≤ q → A q := fun q h => by rw [← hAe]; exact Or.inr h
  have hDa : q_DA A (zA_r_earnest p0 p0_bLong p0_bTight p0_code p0_codeNumber p0_laws p0_luck p0_pile p0_rFrom p0_rTo p0_steps p0_strikes p0_swings p0_walks) := q_DA.mk hD za_r_earnest
  clear hAe hD0 hD
  have hS : va_S A s.heap s.heap [] := va_S.rf
  have m_0 : (.fieldLink RX9 291 "BowWalkModel" "bank" "I" : Cond) ∈ zw_r_earnest := List.mem_append_left _ (List.mem_of_getElem? (i := 1) rfl)
  have k_0 := hts _ m_0
  have m_1 : (.fieldLink RX9 443 "BowWalkModel" "place" "I" : Cond) ∈ zw_r_earnest := List.mem_append_left _ (List.mem_of_getElem? (i := 2) rfl)
  have k_1 := hts _ m_1
  have m_2 : (.fieldLink RX9 83 "BowWalkModel" "steps" "[I" : Cond) ∈ zw_r_earnest := List.mem_append_left _ (List.mem_of_getElem? (i := 3) rfl)
  have k_2 := hts _ m_2
  have m_3 : (.fieldLink RX9 86 "BowWalkModel" "strikes" "[I" : Cond) ∈ zw_r_earnest := List.mem_append_left _ (List.mem_of_getElem? (i := 4) rfl)
  have k_3 := hts _ m_3
  have m_4 : (.fieldLink RX9 376 "BowWalkModel" "nowStrike" "I" : Cond) ∈ zw_r_earnest := List.mem_append_left _ (List.mem_of_getElem? (i := 5) rfl)
  have k_4 := hts _ m_4
  have m_5 : (.fieldLink RX9 89 "BowWalkModel" "swings" "[I" : Cond) ∈ zw_r_earnest := List.mem_append_left _ (List.mem_of_getElem? (i := 6) rfl)
  have k_5 := hts _ m_5
  have m_6 : (.fieldLink RX9 379 "BowWalkModel" "nowSwing" "I" : Cond) ∈ zw_r_earnest := List.mem_append_left _ (List.mem_of_getElem? (i := 7) rfl)
  have k_6 := hts _ m_6
  have m_7 : (.fieldLink RX9 39 "BowWalkModel" "luck" "[I" : Cond) ∈ zw_r_earnest := List.mem_append_left _ (List.mem_of_getElem? (i := 8) rfl)
  have k_7 := hts _ m_7
  have m_8 : (.fieldLink RX9 446 "BowWalkModel" "stepsDone" "I" : Cond) ∈ zw_r_earnest := List.mem_append_left _ (List.mem_of_getElem? (i := 9) rfl)
  have k_8 := hts _ m_8
  have m_9 : (.methodLink RX9 427 yX9_pullIt : Cond) ∈ zw_r_earnest := List.mem_append_left _ (List.mem_of_getElem? (i := 10) rfl)
  have k_9 := hts _ m_9
  have m_10 : (.instanceMethod yX9_pullIt : Cond) ∈ zw_r_earnest := List.mem_append_left _ (List.mem_of_getElem? (i := 11) rfl)
  have k_10 := hts _ m_10
  have m_11 : (.selects RX9 yX9_pullIt yX9_pullIt : Cond) ∈ zw_r_earnest := List.mem_append_left _ (List.mem_of_getElem? (i := 12) rfl)
  have k_11 := hts _ m_11
  have m_12 : (.initialized RX9 : Cond) ∈ zw_r_earnest := List.mem_append_left _ (List.mem_of_getElem? (i := 13) rfl)
  have k_12 := hts _ m_12
  have m_13 : (.methodLink RX9 452 yX9_draw : Cond) ∈ zw_r_earnest := List.mem_append_left _ (List.mem_of_getElem? (i := 14) rfl)
  have k_13 := hts _ m_13
  have m_14 : (.instanceMethod yX9_draw : Cond) ∈ zw_r_earnest := List.mem_append_left _ (List.mem_of_getElem? (i := 15) rfl)
  have k_14 := hts _ m_14
  have m_15 : (.selects RX9 yX9_draw yX9_draw : Cond) ∈ zw_r_earnest := List.mem_append_left _ (List.mem_of_getElem? (i := 16) rfl)
  have k_15 := hts _ m_15
  have g_r_pullIt : ∀ w ∈ zw_r_pullIt, w ∈ zw_r_earnest := fun w h => List.mem_append_right _ (List.mem_append_left _ h)
  have g_r_draw : ∀ w ∈ zw_r_draw, w ∈ zw_r_earnest := fun w h => List.mem_append_right _ (List.mem_append_right _ (List.mem_append_left _ h))
  have i_X9 : ∀ w ∈ u_ws RX9 TX9 81, w ∈ zw_r_earnest := fun w h => List.mem_append_right _ (List.mem_append_right _ (List.mem_append_right _ (List.mem_append_left _ h)))
  have lt_m1 : ((-1) : Int32).toInt = -1 := by decide
  have lt_0 : (0 : Int32).toInt = 0 := by decide
  have lt_1 : (1 : Int32).toInt = 1 := by decide
  have lt_2 : (2 : Int32).toInt = 2 := by decide
  have lt_4 : (4 : Int32).toInt = 4 := by decide
  have lt_8 : (8 : Int32).toInt = 8 := by decide
  have hl := lv_entry ([.ref p0, .int a1]) (n := 3) (Nat.le_of_ble_eq_true rfl)
  rw [lg_entry_eq]
  generalize (lg_sl ([.ref p0, .int a1]) ++ List.replicate (3 - (lg_sl ([.ref p0, .int a1])).length) Slot.unset).toArray = ls at hl ⊢
  have hl : lv_has ls 3 [(0, .ref p0), (1, .int a1)] := hl
  have tsd := (OKX9_g63 ho_p0).use pf_sd
  have tbk := (OKX9_g43 ho_p0).use pf_bk
  have hwb := hr_p0_walks bk.toNatClampNeg (q_cl (q_in (by omega) (by omega)))
  have hlb := hr_p0_laws bk.toNatClampNeg (q_cl (q_in (by omega) (by omega)))
  refine lv_bipush (v := 8) hx hb dX9_earnest_0 (by decide) (lv_iconst (v := 4) hx hb dX9_earnest_2 (by decide) (lv_aload_n hx hb dX9_earnest_3 rfl (lv_at hl 0 rfl) (qg_X9_43 hx hb hts i_X9 hown hK hP 0 rfl k_0 pf_bk dX9_earnest_4 (lv_imul hx hb dX9_earnest_7 (lv_topi fun v_1 ev_1 => ?_)))))
  have tv_1 := q_mulc (c := 4) ev_1 (by decide) (by omega) (by omega)
  refine lv_iload_n hx hb dX9_earnest_8 rfl (lv_at hl 1 rfl) (lv_iadd hx hb dX9_earnest_9 (lv_topi fun v_2 ev_2 => ?_))
  have tv_2 := q_add ev_2 (by omega) (by omega)
  refine lv_imul hx hb dX9_earnest_10 (lv_topi fun v_3 ev_3 => ?_)
  have tv_3 := q_mulc (c := 8) ev_3 (by decide) (by omega) (by omega)
  refine lv_aload_n hx hb dX9_earnest_11 rfl (lv_at hl 0 rfl) ?_
  obtain ⟨v_4, v_5, fv_4, fv_5, tv_4⟩ := OKX9_g62 ho_p0
  have hjv_5 := q_eq (q_inj fv_5 pf_sd)
  refine qg_X9_62 hx hb hts i_X9 hown hK hP 0 rfl k_1 fv_4 dX9_earnest_12 (lv_aload_n hx hb dX9_earnest_15 rfl (lv_at hl 0 rfl) (qg_X9_31 hx hb hts i_X9 hown hK hP 0 rfl k_2 fr_p0_31 dX9_earnest_16 (lv_iconst (v := 4) hx hb dX9_earnest_19 (by decide) (lv_aload_n hx hb dX9_earnest_20 rfl (lv_at hl 0 rfl) (qg_X9_43 hx hb hts i_X9 hown hK hP 0 rfl k_0 pf_bk dX9_earnest_21 (lv_imul hx hb dX9_earnest_24 (lv_topi fun v_6 ev_6 => ?_)))))))
  have tv_6 := q_mulc (c := 4) ev_6 (by decide) (by omega) (by omega)
  refine lv_iload_n hx hb dX9_earnest_25 rfl (lv_at hl 1 rfl) (lv_iadd hx hb dX9_earnest_26 (lv_topi fun v_7 ev_7 => ?_))
  have tv_7 := q_add ev_7 (by omega) (by omega)
  refine q_ild hx hb hK hP 10 9 rfl rfl (q_in (by omega) (by omega)) dX9_earnest_27 (fun v_8 ev_8 => ?_)
  have tv_8 := q_rd' hr_p0_steps (q_in (by omega) (by omega)) ev_8
  have sv_8 : 1 ≤ v_8.toInt := by rw [ev_8]; exact hWB.at (a := a1) (by omega) (by omega) (by omega) (by omega)
  refine lv_irem hx hb dX9_earnest_28 (q_n0 (by omega)) (lv_topi fun v_9 ev_9 => ?_)
  have tv_9 := q_remv ev_9 (by omega) (by omega)
  have rv_9 := tv_9.2
  clear tv_9
  refine lv_iadd hx hb dX9_earnest_29 (lv_topi fun v_10 ev_10 => ?_)
  have tv_10 := q_add ev_10 (by omega) (by omega)
  refine lv_istore_n (lv' := [(2, .int v_10), (0, .ref p0), (1, .int a1)]) hx hb dX9_earnest_30 rfl hl (by decide) rfl (fun ls hl => ?_)
  refine lv_aload_n hx hb dX9_earnest_31 rfl (lv_at hl 1 rfl) (lv_aload_n hx hb dX9_earnest_32 rfl (lv_at hl 1 rfl) (qg_X9_32 hx hb hts i_X9 hown hK hP 0 rfl k_3 fr_p0_32 dX9_earnest_33 (lv_iload_n hx hb dX9_earnest_36 rfl (lv_at hl 0 rfl) (q_ild hx hb hK hP 11 10 rfl rfl (q_in (by omega) (by omega)) dX9_earnest_37 (fun v_11 ev_11 => ?_)))))
  refine qp_X9_56 hx hb hts i_X9 hown hK hP hDa za_r_earnest hS 0 rfl k_4 (OKX9_l ho_p0) dX9_earnest_38 (fun H12 lo12 fs12 efs12 (hP12 : va_P (dC, dI) vwCl (zW_r_earnest p0 fs12 p0_bLong c_p0_bLong b_p0_bLong p0_bTight c_p0_bTight b_p0_bTight p0_code c_p0_code b_p0_code p0_codeNumber c_p0_codeNumber b_p0_codeNumber p0_laws c_p0_laws b_p0_laws p0_luck c_p0_luck b_p0_luck p0_pile c_p0_pile b_p0_pile p0_rFrom c_p0_rFrom b_p0_rFrom p0_rTo c_p0_rTo b_p0_rTo p0_steps c_p0_steps b_p0_steps p0_strikes c_p0_strikes b_p0_strikes p0_swings c_p0_swings b_p0_swings p0_walks c_p0_walks b_p0_walks) H12) hS12 => ?_)
  have ho12 := OKX9_p56 ho_p0 efs12
  clear hP hS
  refine lv_aload_n hx hb dX9_earnest_41 rfl (lv_at hl 1 rfl) (lv_aload_n hx hb dX9_earnest_42 rfl (lv_at hl 1 rfl) (qg_X9_33 hx hb hts i_X9 hown hK hP12 0 rfl k_5 (q_sn efs12 (by decide) fr_p0_33) dX9_earnest_43 (lv_iload_n hx hb dX9_earnest_46 rfl (lv_at hl 0 rfl) (q_ild hx hb hK hP12 12 11 rfl rfl (q_in (by omega) (by omega)) dX9_earnest_47 (fun v_13 ev_13 => ?_)))))
  refine qp_X9_57 hx hb hts i_X9 hown hK hP12 hDa za_r_earnest hS12 0 rfl k_6 (OKX9_l ho12) dX9_earnest_48 (fun H14 lo14 fs14 efs14 (hP14 : va_P (dC, dI) vwCl (zW_r_earnest p0 fs14 p0_bLong c_p0_bLong b_p0_bLong p0_bTight c_p0_bTight b_p0_bTight p0_code c_p0_code b_p0_code p0_codeNumber c_p0_codeNumber b_p0_codeNumber p0_laws c_p0_laws b_p0_laws p0_luck c_p0_luck b_p0_luck p0_pile c_p0_pile b_p0_pile p0_rFrom c_p0_rFrom b_p0_rFrom p0_rTo c_p0_rTo b_p0_rTo p0_steps c_p0_steps b_p0_steps p0_strikes c_p0_strikes b_p0_strikes p0_swings c_p0_swings b_p0_swings p0_walks c_p0_walks b_p0_walks) H14) hS14 => ?_)
  have ho14 := OKX9_p57 ho12 efs14
  clear hP12 hS12
  refine lv_aload_n hx hb dX9_earnest_51 rfl (lv_at hl 1 rfl) (qg_X9_17 hx hb hts i_X9 hown hK hP14 0 rfl k_7 (q_sn efs14 (by decide) (q_sn efs12 (by decide) fr_p0_17)) dX9_earnest_52 (lv_aload_n hx hb dX9_earnest_55 rfl (lv_at hl 1 rfl) (qg_X9_43 hx hb hts i_X9 hown hK hP14 0 rfl k_0 (q_sn efs14 (by decide) (q_sn efs12 (by decide) pf_bk)) dX9_earnest_56 (q_ild hx hb hK hP14 6 5 rfl rfl (q_in (by omega) (by omega)) dX9_earnest_59 (fun v_15 ev_15 => ?_)))))
  have tv_15 := q_rd' hr_p0_luck (q_in (by omega) (by omega)) ev_15
  refine lv_if_le (tgt := 99) hx hb dX9_earnest_60 (by decide) (fun c_16 => ?_) (fun c_16 => ?_)
  · have tc_16 := q_le c_16
    refine lv_aload_n hx hb dX9_earnest_99 rfl (lv_at hl 1 rfl) (lv_aload_n hx hb dX9_earnest_100 rfl (lv_at hl 1 rfl) (qg_X9_57 hx hb hts i_X9 hown hK hP14 0 rfl k_6 (q_sa efs14 (OKX9_l ho12) (by decide)) dX9_earnest_101 ?_))
    refine lv_if_ge (tgt := 111) hx hb dX9_earnest_104 (by decide) (fun c_17 => ?_) (fun c_17 => ?_)
    · have tc_17 := q_ge c_17
      refine lv_aload_n hx hb dX9_earnest_111 rfl (lv_at hl 1 rfl) (qg_X9_57 hx hb hts i_X9 hown hK hP14 0 rfl k_6 (q_sa efs14 (OKX9_l ho12) (by decide)) dX9_earnest_112 (qp_X9_57 hx hb hts i_X9 hown hK hP14 hDa za_r_earnest hS14 0 rfl k_6 (OKX9_l ho14) dX9_earnest_115 (fun H18 lo18 fs18 efs18 (hP18 : va_P (dC, dI) vwCl (zW_r_earnest p0 fs18 p0_bLong c_p0_bLong b_p0_bLong p0_bTight c_p0_bTight b_p0_bTight p0_code c_p0_code b_p0_code p0_codeNumber c_p0_codeNumber b_p0_codeNumber p0_laws c_p0_laws b_p0_laws p0_luck c_p0_luck b_p0_luck p0_pile c_p0_pile b_p0_pile p0_rFrom c_p0_rFrom b_p0_rFrom p0_rTo c_p0_rTo b_p0_rTo p0_steps c_p0_steps b_p0_steps p0_strikes c_p0_strikes b_p0_strikes p0_swings c_p0_swings b_p0_swings p0_walks c_p0_walks b_p0_walks) H18) hS18 => ?_)))
      have ho18 := OKX9_p57 ho14 efs18
      clear hP14 hS14
      refine lv_aload_n hx hb dX9_earnest_118 rfl (lv_at hl 1 rfl) (lv_dup hx hb dX9_earnest_119 rfl (qg_X9_62 hx hb hts i_X9 hown hK hP18 0 rfl k_1 (q_sn efs18 (by decide) (q_sn efs14 (by decide) (q_sn efs12 (by decide) fv_4))) dX9_earnest_120 (lv_iconst (v := 1) hx hb dX9_earnest_123 (by decide) (lv_iadd hx hb dX9_earnest_124 (lv_topi fun v_19 ev_19 => ?_)))))
      have tv_19 := q_add ev_19 (by omega) (by omega)
      refine qp_X9_62 hx hb hts i_X9 hown hK hP18 hDa za_r_earnest hS18 0 rfl k_1 (OKX9_l ho18) dX9_earnest_125 (fun H20 lo20 fs20 efs20 (hP20 : va_P (dC, dI) vwCl (zW_r_earnest p0 fs20 p0_bLong c_p0_bLong b_p0_bLong p0_bTight c_p0_bTight b_p0_bTight p0_code c_p0_code b_p0_code p0_codeNumber c_p0_codeNumber b_p0_codeNumber p0_laws c_p0_laws b_p0_laws p0_luck c_p0_luck b_p0_luck p0_pile c_p0_pile b_p0_pile p0_rFrom c_p0_rFrom b_p0_rFrom p0_rTo c_p0_rTo b_p0_rTo p0_steps c_p0_steps b_p0_steps p0_strikes c_p0_strikes b_p0_strikes p0_swings c_p0_swings b_p0_swings p0_walks c_p0_walks b_p0_walks) H20) hS20 => ?_)
      clear hP18 hS18
      refine lv_aload_n hx hb dX9_earnest_128 rfl (lv_at hl 1 rfl) (lv_dup hx hb dX9_earnest_129 rfl (qg_X9_63 hx hb hts i_X9 hown hK hP20 0 rfl k_8 (q_sn efs20 (by decide) (q_sn efs18 (by decide) (q_sn efs14 (by decide) (q_sn efs12 (by decide) pf_sd)))) dX9_earnest_130 (lv_iconst (v := 1) hx hb dX9_earnest_133 (by decide) (lv_iadd hx hb dX9_earnest_134 (lv_topi fun v_21 ev_21 => ?_)))))
      have tv_21 := q_add ev_21 (by omega) (by omega)
      refine qp_X9_63 hx hb hts i_X9 hown hK hP20 hDa za_r_earnest hS20 0 rfl k_8 (q_sl efs20 (OKX9_l ho18)) dX9_earnest_135 (fun H22 lo22 fs22 efs22 (hP22 : va_P (dC, dI) vwCl (zW_r_earnest p0 fs22 p0_bLong c_p0_bLong b_p0_bLong p0_bTight c_p0_bTight b_p0_bTight p0_code c_p0_code b_p0_code p0_codeNumber c_p0_codeNumber b_p0_codeNumber p0_laws c_p0_laws b_p0_laws p0_luck c_p0_luck b_p0_luck p0_pile c_p0_pile b_p0_pile p0_rFrom c_p0_rFrom b_p0_rFrom p0_rTo c_p0_rTo b_p0_rTo p0_steps c_p0_steps b_p0_steps p0_strikes c_p0_strikes b_p0_strikes p0_swings c_p0_swings b_p0_swings p0_walks c_p0_walks b_p0_walks) H22) hS22 => ?_)
      have ho22 := OKX9_pp ho18 efs20 efs22 ⟨by omega, by omega, by omega⟩
      clear hP20 hS20
      refine lv_aload_n hx hb dX9_earnest_138 rfl (lv_at hl 1 rfl) (lv_iconst (v := 0) hx hb dX9_earnest_139 (by decide) (lv_iconst (v := (-1)) hx hb dX9_earnest_140 (by decide) ?_))
      refine q_cVi (As := [.int 0, .int (-1)]) (rest := []) q_w0 trivial hK hP22 hDa za_r_earnest hS22 hA [0, 1, 2, 3, 4, 5, 7, 8, 9] [0, 1, 2, 3, 4, 6, 7, 8] (by decide +kernel) ⟨hx, hb, hml, hown, hts⟩ (r_pullIt l dC dI H22.size p0 fs22 p0_bLong c_p0_bLong b_p0_bLong p0_bTight c_p0_bTight b_p0_bTight p0_code c_p0_code b_p0_code p0_codeNumber c_p0_codeNumber b_p0_codeNumber p0_laws c_p0_laws b_p0_laws p0_pile c_p0_pile b_p0_pile p0_rFrom c_p0_rFrom b_p0_rFrom p0_rTo c_p0_rTo b_p0_rTo 0 ((-1)) bk ho22 ((q_sn efs22 (by decide) (q_sn efs20 (by decide) (q_sn efs18 (by decide) (q_sn efs14 (by decide) (q_sn efs12 (by decide) fr_p0_14)))))) ((q_sn efs22 (by decide) (q_sn efs20 (by decide) (q_sn efs18 (by decide) (q_sn efs14 (by decide) (q_sn efs12 (by decide) fr_p0_36)))))) ((q_sn efs22 (by decide) (q_sn efs20 (by decide) (q_sn efs18 (by decide) (q_sn efs14 (by decide) (q_sn efs12 (by decide) fr_p0_37)))))) ((q_sn efs22 (by decide) (q_sn efs20 (by decide) (q_sn efs18 (by decide) (q_sn efs14 (by decide) (q_sn efs12 (by decide) fr_p0_38)))))) ((q_sn efs22 (by decide) (q_sn efs20 (by decide) (q_sn efs18 (by decide) (q_sn efs14 (by decide) (q_sn efs12 (by decide) fr_p0_39)))))) ((q_sn efs22 (by decide) (q_sn efs20 (by decide) (q_sn efs18 (by decide) (q_sn efs14 (by decide) (q_sn efs12 (by decide) fr_p0_42)))))) ((q_sn efs22 (by decide) (q_sn efs20 (by decide) (q_sn efs18 (by decide) (q_sn efs14 (by decide) (q_sn efs12 (by decide) fr_p0_49)))))) ((q_sn efs22 (by decide) (q_sn efs20 (by decide) (q_sn efs18 (by decide) (q_sn efs14 (by decide) (q_sn efs12 (by decide) fr_p0_50)))))) hr_p0_laws hr_p0_rFrom hr_p0_rTo ((q_sn efs22 (by decide) (q_sn efs20 (by decide) (q_sn efs18 (by decide) (q_sn efs14 (by decide) (q_sn efs12 (by decide) pf_bk)))))) hLB ((by omega))) rfl rfl (cwV 2 hts (p1_gV m_9 m_10 m_11 m_12 g_r_pullIt gz_r_pullIt) rfl rfl rfl (by decide +kernel) ⟨by decide, by decide⟩) (va_recv hK hP22 (ci := 8) (q0 := 0) rfl rfl) zm_r_pullIt rfl hl.1 rfl (Nat.le_of_ble_eq_true rfl) dX9_earnest_141 ⟨by decide, by decide⟩ (fun r_23 H24 lo24 hG24 hS24 => ?_)
      obtain ⟨o_25, o_26, o_27, o_28, ho_29, hf_30, hQ24⟩ := hG24
      have hP24 : va_P (dC, dI) vwCl (zW_r_earnest p0 o_25 p0_bLong c_p0_bLong o_26 p0_bTight c_p0_bTight o_27 p0_code c_p0_code b_p0_code p0_codeNumber c_p0_codeNumber b_p0_codeNumber p0_laws c_p0_laws b_p0_laws p0_luck c_p0_luck b_p0_luck p0_pile c_p0_pile o_28 p0_rFrom c_p0_rFrom b_p0_rFrom p0_rTo c_p0_rTo b_p0_rTo p0_steps c_p0_steps b_p0_steps p0_strikes c_p0_strikes b_p0_strikes p0_swings c_p0_swings b_p0_swings p0_walks c_p0_walks b_p0_walks) H24 := hQ24
      clear hQ24 hP22 hS22
      exact q_iret hx hb hr hlocks hS24 dX9_earnest_144 ⟨o_25, o_26, o_27, o_28, v_21, ho_29, ((((((q_fr.rf.st efs12 (by decide)).st efs14 (by decide)).st efs18 (by decide)).st efs20 (by decide)).st efs22 (by decide)).tr hf_30 (by decide)), (hf_30.u (by decide) (q_sa efs22 (q_sl efs20 (OKX9_l ho18)) (by decide))), (by omega), hP24, za_r_earnest⟩
    · have tc_17 := q_ltN c_17
      refine lv_iconst (v := 0) hx hb dX9_earnest_107 (by decide) (lv_goto (tgt := 115) hx hb dX9_earnest_108 (by decide) (qp_X9_57 hx hb hts i_X9 hown hK hP14 hDa za_r_earnest hS14 0 rfl k_6 (OKX9_l ho14) dX9_earnest_115 (fun H31 lo31 fs31 efs31 (hP31 : va_P (dC, dI) vwCl (zW_r_earnest p0 fs31 p0_bLong c_p0_bLong b_p0_bLong p0_bTight c_p0_bTight b_p0_bTight p0_code c_p0_code b_p0_code p0_codeNumber c_p0_codeNumber b_p0_codeNumber p0_laws c_p0_laws b_p0_laws p0_luck c_p0_luck b_p0_luck p0_pile c_p0_pile b_p0_pile p0_rFrom c_p0_rFrom b_p0_rFrom p0_rTo c_p0_rTo b_p0_rTo p0_steps c_p0_steps b_p0_steps p0_strikes c_p0_strikes b_p0_strikes p0_swings c_p0_swings b_p0_swings p0_walks c_p0_walks b_p0_walks) H31) hS31 => ?_)))
      have ho31 := OKX9_p57 ho14 efs31
      clear hP14 hS14
      refine lv_aload_n hx hb dX9_earnest_118 rfl (lv_at hl 1 rfl) (lv_dup hx hb dX9_earnest_119 rfl (qg_X9_62 hx hb hts i_X9 hown hK hP31 0 rfl k_1 (q_sn efs31 (by decide) (q_sn efs14 (by decide) (q_sn efs12 (by decide) fv_4))) dX9_earnest_120 (lv_iconst (v := 1) hx hb dX9_earnest_123 (by decide) (lv_iadd hx hb dX9_earnest_124 (lv_topi fun v_32 ev_32 => ?_)))))
      have tv_32 := q_add ev_32 (by omega) (by omega)
      refine qp_X9_62 hx hb hts i_X9 hown hK hP31 hDa za_r_earnest hS31 0 rfl k_1 (OKX9_l ho31) dX9_earnest_125 (fun H33 lo33 fs33 efs33 (hP33 : va_P (dC, dI) vwCl (zW_r_earnest p0 fs33 p0_bLong c_p0_bLong b_p0_bLong p0_bTight c_p0_bTight b_p0_bTight p0_code c_p0_code b_p0_code p0_codeNumber c_p0_codeNumber b_p0_codeNumber p0_laws c_p0_laws b_p0_laws p0_luck c_p0_luck b_p0_luck p0_pile c_p0_pile b_p0_pile p0_rFrom c_p0_rFrom b_p0_rFrom p0_rTo c_p0_rTo b_p0_rTo p0_steps c_p0_steps b_p0_steps p0_strikes c_p0_strikes b_p0_strikes p0_swings c_p0_swings b_p0_swings p0_walks c_p0_walks b_p0_walks) H33) hS33 => ?_)
      clear hP31 hS31
      refine lv_aload_n hx hb dX9_earnest_128 rfl (lv_at hl 1 rfl) (lv_dup hx hb dX9_earnest_129 rfl (qg_X9_63 hx hb hts i_X9 hown hK hP33 0 rfl k_8 (q_sn efs33 (by decide) (q_sn efs31 (by decide) (q_sn efs14 (by decide) (q_sn efs12 (by decide) pf_sd)))) dX9_earnest_130 (lv_iconst (v := 1) hx hb dX9_earnest_133 (by decide) (lv_iadd hx hb dX9_earnest_134 (lv_topi fun v_34 ev_34 => ?_)))))
      have tv_34 := q_add ev_34 (by omega) (by omega)
      refine qp_X9_63 hx hb hts i_X9 hown hK hP33 hDa za_r_earnest hS33 0 rfl k_8 (q_sl efs33 (OKX9_l ho31)) dX9_earnest_135 (fun H35 lo35 fs35 efs35 (hP35 : va_P (dC, dI) vwCl (zW_r_earnest p0 fs35 p0_bLong c_p0_bLong b_p0_bLong p0_bTight c_p0_bTight b_p0_bTight p0_code c_p0_code b_p0_code p0_codeNumber c_p0_codeNumber b_p0_codeNumber p0_laws c_p0_laws b_p0_laws p0_luck c_p0_luck b_p0_luck p0_pile c_p0_pile b_p0_pile p0_rFrom c_p0_rFrom b_p0_rFrom p0_rTo c_p0_rTo b_p0_rTo p0_steps c_p0_steps b_p0_steps p0_strikes c_p0_strikes b_p0_strikes p0_swings c_p0_swings b_p0_swings p0_walks c_p0_walks b_p0_walks) H35) hS35 => ?_)
      have ho35 := OKX9_pp ho31 efs33 efs35 ⟨by omega, by omega, by omega⟩
      clear hP33 hS33
      refine lv_aload_n hx hb dX9_earnest_138 rfl (lv_at hl 1 rfl) (lv_iconst (v := 0) hx hb dX9_earnest_139 (by decide) (lv_iconst (v := (-1)) hx hb dX9_earnest_140 (by decide) ?_))
      refine q_cVi (As := [.int 0, .int (-1)]) (rest := []) q_w0 trivial hK hP35 hDa za_r_earnest hS35 hA [0, 1, 2, 3, 4, 5, 7, 8, 9] [0, 1, 2, 3, 4, 6, 7, 8] (by decide +kernel) ⟨hx, hb, hml, hown, hts⟩ (r_pullIt l dC dI H35.size p0 fs35 p0_bLong c_p0_bLong b_p0_bLong p0_bTight c_p0_bTight b_p0_bTight p0_code c_p0_code b_p0_code p0_codeNumber c_p0_codeNumber b_p0_codeNumber p0_laws c_p0_laws b_p0_laws p0_pile c_p0_pile b_p0_pile p0_rFrom c_p0_rFrom b_p0_rFrom p0_rTo c_p0_rTo b_p0_rTo 0 ((-1)) bk ho35 ((q_sn efs35 (by decide) (q_sn efs33 (by decide) (q_sn efs31 (by decide) (q_sn efs14 (by decide) (q_sn efs12 (by decide) fr_p0_14)))))) ((q_sn efs35 (by decide) (q_sn efs33 (by decide) (q_sn efs31 (by decide) (q_sn efs14 (by decide) (q_sn efs12 (by decide) fr_p0_36)))))) ((q_sn efs35 (by decide) (q_sn efs33 (by decide) (q_sn efs31 (by decide) (q_sn efs14 (by decide) (q_sn efs12 (by decide) fr_p0_37)))))) ((q_sn efs35 (by decide) (q_sn efs33 (by decide) (q_sn efs31 (by decide) (q_sn efs14 (by decide) (q_sn efs12 (by decide) fr_p0_38)))))) ((q_sn efs35 (by decide) (q_sn efs33 (by decide) (q_sn efs31 (by decide) (q_sn efs14 (by decide) (q_sn efs12 (by decide) fr_p0_39)))))) ((q_sn efs35 (by decide) (q_sn efs33 (by decide) (q_sn efs31 (by decide) (q_sn efs14 (by decide) (q_sn efs12 (by decide) fr_p0_42)))))) ((q_sn efs35 (by decide) (q_sn efs33 (by decide) (q_sn efs31 (by decide) (q_sn efs14 (by decide) (q_sn efs12 (by decide) fr_p0_49)))))) ((q_sn efs35 (by decide) (q_sn efs33 (by decide) (q_sn efs31 (by decide) (q_sn efs14 (by decide) (q_sn efs12 (by decide) fr_p0_50)))))) hr_p0_laws hr_p0_rFrom hr_p0_rTo ((q_sn efs35 (by decide) (q_sn efs33 (by decide) (q_sn efs31 (by decide) (q_sn efs14 (by decide) (q_sn efs12 (by decide) pf_bk)))))) hLB ((by omega))) rfl rfl (cwV 2 hts (p1_gV m_9 m_10 m_11 m_12 g_r_pullIt gz_r_pullIt) rfl rfl rfl (by decide +kernel) ⟨by decide, by decide⟩) (va_recv hK hP35 (ci := 8) (q0 := 0) rfl rfl) zm_r_pullIt rfl hl.1 rfl (Nat.le_of_ble_eq_true rfl) dX9_earnest_141 ⟨by decide, by decide⟩ (fun r_36 H37 lo37 hG37 hS37 => ?_)
      obtain ⟨o_38, o_39, o_40, o_41, ho_42, hf_43, hQ37⟩ := hG37
      have hP37 : va_P (dC, dI) vwCl (zW_r_earnest p0 o_38 p0_bLong c_p0_bLong o_39 p0_bTight c_p0_bTight o_40 p0_code c_p0_code b_p0_code p0_codeNumber c_p0_codeNumber b_p0_codeNumber p0_laws c_p0_laws b_p0_laws p0_luck c_p0_luck b_p0_luck p0_pile c_p0_pile o_41 p0_rFrom c_p0_rFrom b_p0_rFrom p0_rTo c_p0_rTo b_p0_rTo p0_steps c_p0_steps b_p0_steps p0_strikes c_p0_strikes b_p0_strikes p0_swings c_p0_swings b_p0_swings p0_walks c_p0_walks b_p0_walks) H37 := hQ37
      clear hQ37 hP35 hS35
      exact q_iret hx hb hr hlocks hS37 dX9_earnest_144 ⟨o_38, o_39, o_40, o_41, v_34, ho_42, ((((((q_fr.rf.st efs12 (by decide)).st efs14 (by decide)).st efs31 (by decide)).st efs33 (by decide)).st efs35 (by decide)).tr hf_43 (by decide)), (hf_43.u (by decide) (q_sa efs35 (q_sl efs33 (OKX9_l ho31)) (by decide))), (by omega), hP37, za_r_earnest⟩
  · have tc_16 := q_gtN c_16
    refine lv_aload_n hx hb dX9_earnest_63 rfl (lv_at hl 1 rfl) (lv_dup hx hb dX9_earnest_64 rfl (qg_X9_57 hx hb hts i_X9 hown hK hP14 0 rfl k_6 (q_sa efs14 (OKX9_l ho12) (by decide)) dX9_earnest_65 (lv_aload_n hx hb dX9_earnest_68 rfl (lv_at hl 1 rfl) (lv_iconst (v := 2) hx hb dX9_earnest_69 (by decide) (lv_aload_n hx hb dX9_earnest_70 rfl (lv_at hl 1 rfl) (qg_X9_17 hx hb hts i_X9 hown hK hP14 0 rfl k_7 (q_sn efs14 (by decide) (q_sn efs12 (by decide) fr_p0_17)) dX9_earnest_71 (lv_aload_n hx hb dX9_earnest_74 rfl (lv_at hl 1 rfl) ?_)))))))
    refine qg_X9_43 hx hb hts i_X9 hown hK hP14 0 rfl k_0 (q_sn efs14 (by decide) (q_sn efs12 (by decide) pf_bk)) dX9_earnest_75 (q_ild hx hb hK hP14 6 5 rfl rfl (q_in (by omega) (by omega)) dX9_earnest_78 (fun v_44 ev_44 => ?_))
    have tv_44 := q_rd' hr_p0_luck (q_in (by omega) (by omega)) ev_44
    refine lv_imul hx hb dX9_earnest_79 (lv_topi fun v_45 ev_45 => ?_)
    have tv_45 := q_mulc (c := 2) ev_45 (by decide) (by omega) (by omega)
    refine lv_iconst (v := 1) hx hb dX9_earnest_80 (by decide) (lv_iadd hx hb dX9_earnest_81 (lv_topi fun v_46 ev_46 => ?_))
    have tv_46 := q_add ev_46 (by omega) (by omega)
    refine q_cVi (As := [.int v_46]) (rest := [.int v_13, .ref p0]) q_w0 trivial hK hP14 hDa za_r_earnest hS14 hA [0] [] (by decide +kernel) ⟨hx, hb, hml, hown, hts⟩ (r_draw l dC dI H14.size p0 fs14 v_46 ho14 ((by omega))) rfl rfl (cwV 1 hts (p1_gV m_13 m_14 m_15 m_12 g_r_draw gz_r_draw) rfl rfl rfl (by decide +kernel) ⟨by decide, by decide⟩) (va_recv hK hP14 (ci := 8) (q0 := 0) rfl rfl) zm_r_draw rfl hl.1 rfl (Nat.le_of_ble_eq_true rfl) dX9_earnest_82 ⟨by decide, by decide⟩ (fun r_47 H48 lo48 hG48 hS48 => ?_)
    obtain ⟨o_49, ho_50, hf_51, hQ48⟩ := hG48
    have hP48 : va_P (dC, dI) vwCl (zW_r_earnest p0 o_49 p0_bLong c_p0_bLong b_p0_bLong p0_bTight c_p0_bTight b_p0_bTight p0_code c_p0_code b_p0_code p0_codeNumber c_p0_codeNumber b_p0_codeNumber p0_laws c_p0_laws b_p0_laws p0_luck c_p0_luck b_p0_luck p0_pile c_p0_pile b_p0_pile p0_rFrom c_p0_rFrom b_p0_rFrom p0_rTo c_p0_rTo b_p0_rTo p0_steps c_p0_steps b_p0_steps p0_strikes c_p0_strikes b_p0_strikes p0_swings c_p0_swings b_p0_swings p0_walks c_p0_walks b_p0_walks) H48 := hQ48
    clear hQ48 hP14 hS14
    refine lv_aload_n hx hb dX9_earnest_85 rfl (lv_at hl 1 rfl) (qg_X9_17 hx hb hts i_X9 hown hK hP48 0 rfl k_7 (hf_51.u (by decide) (q_sn efs14 (by decide) (q_sn efs12 (by decide) fr_p0_17))) dX9_earnest_86 (lv_aload_n hx hb dX9_earnest_89 rfl (lv_at hl 1 rfl) (qg_X9_43 hx hb hts i_X9 hown hK hP48 0 rfl k_0 (hf_51.u (by decide) (q_sn efs14 (by decide) (q_sn efs12 (by decide) pf_bk))) dX9_earnest_90 (q_ild hx hb hK hP48 6 5 rfl rfl (q_in (by omega) (by omega)) dX9_earnest_93 (fun v_52 ev_52 => ?_)))))
    have tv_52 := q_rd' hr_p0_luck (q_in (by omega) (by omega)) ev_52
    refine lv_isub hx hb dX9_earnest_94 (lv_topi fun v_53 ev_53 => lv_iadd hx hb dX9_earnest_95 (lv_topi fun v_54 ev_54 => qp_X9_57 hx hb hts i_X9 hown hK hP48 hDa za_r_earnest hS48 0 rfl k_6 (OKX9_l ho_50) dX9_earnest_96 (fun H55 lo55 fs55 efs55 (hP55 : va_P (dC, dI) vwCl (zW_r_earnest p0 fs55 p0_bLong c_p0_bLong b_p0_bLong p0_bTight c_p0_bTight b_p0_bTight p0_code c_p0_code b_p0_code p0_codeNumber c_p0_codeNumber b_p0_codeNumber p0_laws c_p0_laws b_p0_laws p0_luck c_p0_luck b_p0_luck p0_pile c_p0_pile b_p0_pile p0_rFrom c_p0_rFrom b_p0_rFrom p0_rTo c_p0_rTo b_p0_rTo p0_steps c_p0_steps b_p0_steps p0_strikes c_p0_strikes b_p0_strikes p0_swings c_p0_swings b_p0_swings p0_walks c_p0_walks b_p0_walks) H55) hS55 => ?_)))
    have ho55 := OKX9_p57 ho_50 efs55
    clear hP48 hS48
    refine lv_aload_n hx hb dX9_earnest_99 rfl (lv_at hl 1 rfl) (lv_aload_n hx hb dX9_earnest_100 rfl (lv_at hl 1 rfl) (qg_X9_57 hx hb hts i_X9 hown hK hP55 0 rfl k_6 (q_sa efs55 (OKX9_l ho_50) (by decide)) dX9_earnest_101 ?_))
    refine lv_if_ge (tgt := 111) hx hb dX9_earnest_104 (by decide) (fun c_56 => ?_) (fun c_56 => ?_)
    · have tc_56 := q_ge c_56
      refine lv_aload_n hx hb dX9_earnest_111 rfl (lv_at hl 1 rfl) (qg_X9_57 hx hb hts i_X9 hown hK hP55 0 rfl k_6 (q_sa efs55 (OKX9_l ho_50) (by decide)) dX9_earnest_112 (qp_X9_57 hx hb hts i_X9 hown hK hP55 hDa za_r_earnest hS55 0 rfl k_6 (OKX9_l ho55) dX9_earnest_115 (fun H57 lo57 fs57 efs57 (hP57 : va_P (dC, dI) vwCl (zW_r_earnest p0 fs57 p0_bLong c_p0_bLong b_p0_bLong p0_bTight c_p0_bTight b_p0_bTight p0_code c_p0_code b_p0_code p0_codeNumber c_p0_codeNumber b_p0_codeNumber p0_laws c_p0_laws b_p0_laws p0_luck c_p0_luck b_p0_luck p0_pile c_p0_pile b_p0_pile p0_rFrom c_p0_rFrom b_p0_rFrom p0_rTo c_p0_rTo b_p0_rTo p0_steps c_p0_steps b_p0_steps p0_strikes c_p0_strikes b_p0_strikes p0_swings c_p0_swings b_p0_swings p0_walks c_p0_walks b_p0_walks) H57) hS57 => ?_)))
      have ho57 := OKX9_p57 ho55 efs57
      clear hP55 hS55
      refine lv_aload_n hx hb dX9_earnest_118 rfl (lv_at hl 1 rfl) (lv_dup hx hb dX9_earnest_119 rfl (qg_X9_62 hx hb hts i_X9 hown hK hP57 0 rfl k_1 (q_sn efs57 (by decide) (q_sn efs55 (by decide) (hf_51.u (by decide) (q_sn efs14 (by decide) (q_sn efs12 (by decide) fv_4))))) dX9_earnest_120 (lv_iconst (v := 1) hx hb dX9_earnest_123 (by decide) (lv_iadd hx hb dX9_earnest_124 (lv_topi fun v_58 ev_58 => ?_)))))
      have tv_58 := q_add ev_58 (by omega) (by omega)
      refine qp_X9_62 hx hb hts i_X9 hown hK hP57 hDa za_r_earnest hS57 0 rfl k_1 (OKX9_l ho57) dX9_earnest_125 (fun H59 lo59 fs59 efs59 (hP59 : va_P (dC, dI) vwCl (zW_r_earnest p0 fs59 p0_bLong c_p0_bLong b_p0_bLong p0_bTight c_p0_bTight b_p0_bTight p0_code c_p0_code b_p0_code p0_codeNumber c_p0_codeNumber b_p0_codeNumber p0_laws c_p0_laws b_p0_laws p0_luck c_p0_luck b_p0_luck p0_pile c_p0_pile b_p0_pile p0_rFrom c_p0_rFrom b_p0_rFrom p0_rTo c_p0_rTo b_p0_rTo p0_steps c_p0_steps b_p0_steps p0_strikes c_p0_strikes b_p0_strikes p0_swings c_p0_swings b_p0_swings p0_walks c_p0_walks b_p0_walks) H59) hS59 => ?_)
      clear hP57 hS57
      refine lv_aload_n hx hb dX9_earnest_128 rfl (lv_at hl 1 rfl) (lv_dup hx hb dX9_earnest_129 rfl (qg_X9_63 hx hb hts i_X9 hown hK hP59 0 rfl k_8 (q_sn efs59 (by decide) (q_sn efs57 (by decide) (q_sn efs55 (by decide) (hf_51.u (by decide) (q_sn efs14 (by decide) (q_sn efs12 (by decide) pf_sd)))))) dX9_earnest_130 (lv_iconst (v := 1) hx hb dX9_earnest_133 (by decide) (lv_iadd hx hb dX9_earnest_134 (lv_topi fun v_60 ev_60 => ?_)))))
      have tv_60 := q_add ev_60 (by omega) (by omega)
      refine qp_X9_63 hx hb hts i_X9 hown hK hP59 hDa za_r_earnest hS59 0 rfl k_8 (q_sl efs59 (OKX9_l ho57)) dX9_earnest_135 (fun H61 lo61 fs61 efs61 (hP61 : va_P (dC, dI) vwCl (zW_r_earnest p0 fs61 p0_bLong c_p0_bLong b_p0_bLong p0_bTight c_p0_bTight b_p0_bTight p0_code c_p0_code b_p0_code p0_codeNumber c_p0_codeNumber b_p0_codeNumber p0_laws c_p0_laws b_p0_laws p0_luck c_p0_luck b_p0_luck p0_pile c_p0_pile b_p0_pile p0_rFrom c_p0_rFrom b_p0_rFrom p0_rTo c_p0_rTo b_p0_rTo p0_steps c_p0_steps b_p0_steps p0_strikes c_p0_strikes b_p0_strikes p0_swings c_p0_swings b_p0_swings p0_walks c_p0_walks b_p0_walks) H61) hS61 => ?_)
      have ho61 := OKX9_pp ho57 efs59 efs61 ⟨by omega, by omega, by omega⟩
      clear hP59 hS59
      refine lv_aload_n hx hb dX9_earnest_138 rfl (lv_at hl 1 rfl) (lv_iconst (v := 0) hx hb dX9_earnest_139 (by decide) (lv_iconst (v := (-1)) hx hb dX9_earnest_140 (by decide) ?_))
      refine q_cVi (As := [.int 0, .int (-1)]) (rest := []) q_w0 trivial hK hP61 hDa za_r_earnest hS61 hA [0, 1, 2, 3, 4, 5, 7, 8, 9] [0, 1, 2, 3, 4, 6, 7, 8] (by decide +kernel) ⟨hx, hb, hml, hown, hts⟩ (r_pullIt l dC dI H61.size p0 fs61 p0_bLong c_p0_bLong b_p0_bLong p0_bTight c_p0_bTight b_p0_bTight p0_code c_p0_code b_p0_code p0_codeNumber c_p0_codeNumber b_p0_codeNumber p0_laws c_p0_laws b_p0_laws p0_pile c_p0_pile b_p0_pile p0_rFrom c_p0_rFrom b_p0_rFrom p0_rTo c_p0_rTo b_p0_rTo 0 ((-1)) bk ho61 ((q_sn efs61 (by decide) (q_sn efs59 (by decide) (q_sn efs57 (by decide) (q_sn efs55 (by decide) (hf_51.u (by decide) (q_sn efs14 (by decide) (q_sn efs12 (by decide) fr_p0_14)))))))) ((q_sn efs61 (by decide) (q_sn efs59 (by decide) (q_sn efs57 (by decide) (q_sn efs55 (by decide) (hf_51.u (by decide) (q_sn efs14 (by decide) (q_sn efs12 (by decide) fr_p0_36)))))))) ((q_sn efs61 (by decide) (q_sn efs59 (by decide) (q_sn efs57 (by decide) (q_sn efs55 (by decide) (hf_51.u (by decide) (q_sn efs14 (by decide) (q_sn efs12 (by decide) fr_p0_37)))))))) ((q_sn efs61 (by decide) (q_sn efs59 (by decide) (q_sn efs57 (by decide) (q_sn efs55 (by decide) (hf_51.u (by decide) (q_sn efs14 (by decide) (q_sn efs12 (by decide) fr_p0_38)))))))) ((q_sn efs61 (by decide) (q_sn efs59 (by decide) (q_sn efs57 (by decide) (q_sn efs55 (by decide) (hf_51.u (by decide) (q_sn efs14 (by decide) (q_sn efs12 (by decide) fr_p0_39)))))))) ((q_sn efs61 (by decide) (q_sn efs59 (by decide) (q_sn efs57 (by decide) (q_sn efs55 (by decide) (hf_51.u (by decide) (q_sn efs14 (by decide) (q_sn efs12 (by decide) fr_p0_42)))))))) ((q_sn efs61 (by decide) (q_sn efs59 (by decide) (q_sn efs57 (by decide) (q_sn efs55 (by decide) (hf_51.u (by decide) (q_sn efs14 (by decide) (q_sn efs12 (by decide) fr_p0_49)))))))) ((q_sn efs61 (by decide) (q_sn efs59 (by decide) (q_sn efs57 (by decide) (q_sn efs55 (by decide) (hf_51.u (by decide) (q_sn efs14 (by decide) (q_sn efs12 (by decide) fr_p0_50)))))))) hr_p0_laws hr_p0_rFrom hr_p0_rTo ((q_sn efs61 (by decide) (q_sn efs59 (by decide) (q_sn efs57 (by decide) (q_sn efs55 (by decide) (hf_51.u (by decide) (q_sn efs14 (by decide) (q_sn efs12 (by decide) pf_bk)))))))) hLB ((by omega))) rfl rfl (cwV 2 hts (p1_gV m_9 m_10 m_11 m_12 g_r_pullIt gz_r_pullIt) rfl rfl rfl (by decide +kernel) ⟨by decide, by decide⟩) (va_recv hK hP61 (ci := 8) (q0 := 0) rfl rfl) zm_r_pullIt rfl hl.1 rfl (Nat.le_of_ble_eq_true rfl) dX9_earnest_141 ⟨by decide, by decide⟩ (fun r_62 H63 lo63 hG63 hS63 => ?_)
      obtain ⟨o_64, o_65, o_66, o_67, ho_68, hf_69, hQ63⟩ := hG63
      have hP63 : va_P (dC, dI) vwCl (zW_r_earnest p0 o_64 p0_bLong c_p0_bLong o_65 p0_bTight c_p0_bTight o_66 p0_code c_p0_code b_p0_code p0_codeNumber c_p0_codeNumber b_p0_codeNumber p0_laws c_p0_laws b_p0_laws p0_luck c_p0_luck b_p0_luck p0_pile c_p0_pile o_67 p0_rFrom c_p0_rFrom b_p0_rFrom p0_rTo c_p0_rTo b_p0_rTo p0_steps c_p0_steps b_p0_steps p0_strikes c_p0_strikes b_p0_strikes p0_swings c_p0_swings b_p0_swings p0_walks c_p0_walks b_p0_walks) H63 := hQ63
      clear hQ63 hP61 hS61
      exact q_iret hx hb hr hlocks hS63 dX9_earnest_144 ⟨o_64, o_65, o_66, o_67, v_60, ho_68, ((((((((q_fr.rf.st efs12 (by decide)).st efs14 (by decide)).tr hf_51 (by decide)).st efs55 (by decide)).st efs57 (by decide)).st efs59 (by decide)).st efs61 (by decide)).tr hf_69 (by decide)), (hf_69.u (by decide) (q_sa efs61 (q_sl efs59 (OKX9_l ho57)) (by decide))), (by omega), hP63, za_r_earnest⟩
    · have tc_56 := q_ltN c_56
      refine lv_iconst (v := 0) hx hb dX9_earnest_107 (by decide) (lv_goto (tgt := 115) hx hb dX9_earnest_108 (by decide) (qp_X9_57 hx hb hts i_X9 hown hK hP55 hDa za_r_earnest hS55 0 rfl k_6 (OKX9_l ho55) dX9_earnest_115 (fun H70 lo70 fs70 efs70 (hP70 : va_P (dC, dI) vwCl (zW_r_earnest p0 fs70 p0_bLong c_p0_bLong b_p0_bLong p0_bTight c_p0_bTight b_p0_bTight p0_code c_p0_code b_p0_code p0_codeNumber c_p0_codeNumber b_p0_codeNumber p0_laws c_p0_laws b_p0_laws p0_luck c_p0_luck b_p0_luck p0_pile c_p0_pile b_p0_pile p0_rFrom c_p0_rFrom b_p0_rFrom p0_rTo c_p0_rTo b_p0_rTo p0_steps c_p0_steps b_p0_steps p0_strikes c_p0_strikes b_p0_strikes p0_swings c_p0_swings b_p0_swings p0_walks c_p0_walks b_p0_walks) H70) hS70 => ?_)))
      have ho70 := OKX9_p57 ho55 efs70
      clear hP55 hS55
      refine lv_aload_n hx hb dX9_earnest_118 rfl (lv_at hl 1 rfl) (lv_dup hx hb dX9_earnest_119 rfl (qg_X9_62 hx hb hts i_X9 hown hK hP70 0 rfl k_1 (q_sn efs70 (by decide) (q_sn efs55 (by decide) (hf_51.u (by decide) (q_sn efs14 (by decide) (q_sn efs12 (by decide) fv_4))))) dX9_earnest_120 (lv_iconst (v := 1) hx hb dX9_earnest_123 (by decide) (lv_iadd hx hb dX9_earnest_124 (lv_topi fun v_71 ev_71 => ?_)))))
      have tv_71 := q_add ev_71 (by omega) (by omega)
      refine qp_X9_62 hx hb hts i_X9 hown hK hP70 hDa za_r_earnest hS70 0 rfl k_1 (OKX9_l ho70) dX9_earnest_125 (fun H72 lo72 fs72 efs72 (hP72 : va_P (dC, dI) vwCl (zW_r_earnest p0 fs72 p0_bLong c_p0_bLong b_p0_bLong p0_bTight c_p0_bTight b_p0_bTight p0_code c_p0_code b_p0_code p0_codeNumber c_p0_codeNumber b_p0_codeNumber p0_laws c_p0_laws b_p0_laws p0_luck c_p0_luck b_p0_luck p0_pile c_p0_pile b_p0_pile p0_rFrom c_p0_rFrom b_p0_rFrom p0_rTo c_p0_rTo b_p0_rTo p0_steps c_p0_steps b_p0_steps p0_strikes c_p0_strikes b_p0_strikes p0_swings c_p0_swings b_p0_swings p0_walks c_p0_walks b_p0_walks) H72) hS72 => ?_)
      clear hP70 hS70
      refine lv_aload_n hx hb dX9_earnest_128 rfl (lv_at hl 1 rfl) (lv_dup hx hb dX9_earnest_129 rfl (qg_X9_63 hx hb hts i_X9 hown hK hP72 0 rfl k_8 (q_sn efs72 (by decide) (q_sn efs70 (by decide) (q_sn efs55 (by decide) (hf_51.u (by decide) (q_sn efs14 (by decide) (q_sn efs12 (by decide) pf_sd)))))) dX9_earnest_130 (lv_iconst (v := 1) hx hb dX9_earnest_133 (by decide) (lv_iadd hx hb dX9_earnest_134 (lv_topi fun v_73 ev_73 => ?_)))))
      have tv_73 := q_add ev_73 (by omega) (by omega)
      refine qp_X9_63 hx hb hts i_X9 hown hK hP72 hDa za_r_earnest hS72 0 rfl k_8 (q_sl efs72 (OKX9_l ho70)) dX9_earnest_135 (fun H74 lo74 fs74 efs74 (hP74 : va_P (dC, dI) vwCl (zW_r_earnest p0 fs74 p0_bLong c_p0_bLong b_p0_bLong p0_bTight c_p0_bTight b_p0_bTight p0_code c_p0_code b_p0_code p0_codeNumber c_p0_codeNumber b_p0_codeNumber p0_laws c_p0_laws b_p0_laws p0_luck c_p0_luck b_p0_luck p0_pile c_p0_pile b_p0_pile p0_rFrom c_p0_rFrom b_p0_rFrom p0_rTo c_p0_rTo b_p0_rTo p0_steps c_p0_steps b_p0_steps p0_strikes c_p0_strikes b_p0_strikes p0_swings c_p0_swings b_p0_swings p0_walks c_p0_walks b_p0_walks) H74) hS74 => ?_)
      have ho74 := OKX9_pp ho70 efs72 efs74 ⟨by omega, by omega, by omega⟩
      clear hP72 hS72
      refine lv_aload_n hx hb dX9_earnest_138 rfl (lv_at hl 1 rfl) (lv_iconst (v := 0) hx hb dX9_earnest_139 (by decide) (lv_iconst (v := (-1)) hx hb dX9_earnest_140 (by decide) ?_))
      refine q_cVi (As := [.int 0, .int (-1)]) (rest := []) q_w0 trivial hK hP74 hDa za_r_earnest hS74 hA [0, 1, 2, 3, 4, 5, 7, 8, 9] [0, 1, 2, 3, 4, 6, 7, 8] (by decide +kernel) ⟨hx, hb, hml, hown, hts⟩ (r_pullIt l dC dI H74.size p0 fs74 p0_bLong c_p0_bLong b_p0_bLong p0_bTight c_p0_bTight b_p0_bTight p0_code c_p0_code b_p0_code p0_codeNumber c_p0_codeNumber b_p0_codeNumber p0_laws c_p0_laws b_p0_laws p0_pile c_p0_pile b_p0_pile p0_rFrom c_p0_rFrom b_p0_rFrom p0_rTo c_p0_rTo b_p0_rTo 0 ((-1)) bk ho74 ((q_sn efs74 (by decide) (q_sn efs72 (by decide) (q_sn efs70 (by decide) (q_sn efs55 (by decide) (hf_51.u (by decide) (q_sn efs14 (by decide) (q_sn efs12 (by decide) fr_p0_14)))))))) ((q_sn efs74 (by decide) (q_sn efs72 (by decide) (q_sn efs70 (by decide) (q_sn efs55 (by decide) (hf_51.u (by decide) (q_sn efs14 (by decide) (q_sn efs12 (by decide) fr_p0_36)))))))) ((q_sn efs74 (by decide) (q_sn efs72 (by decide) (q_sn efs70 (by decide) (q_sn efs55 (by decide) (hf_51.u (by decide) (q_sn efs14 (by decide) (q_sn efs12 (by decide) fr_p0_37)))))))) ((q_sn efs74 (by decide) (q_sn efs72 (by decide) (q_sn efs70 (by decide) (q_sn efs55 (by decide) (hf_51.u (by decide) (q_sn efs14 (by decide) (q_sn efs12 (by decide) fr_p0_38)))))))) ((q_sn efs74 (by decide) (q_sn efs72 (by decide) (q_sn efs70 (by decide) (q_sn efs55 (by decide) (hf_51.u (by decide) (q_sn efs14 (by decide) (q_sn efs12 (by decide) fr_p0_39)))))))) ((q_sn efs74 (by decide) (q_sn efs72 (by decide) (q_sn efs70 (by decide) (q_sn efs55 (by decide) (hf_51.u (by decide) (q_sn efs14 (by decide) (q_sn efs12 (by decide) fr_p0_42)))))))) ((q_sn efs74 (by decide) (q_sn efs72 (by decide) (q_sn efs70 (by decide) (q_sn efs55 (by decide) (hf_51.u (by decide) (q_sn efs14 (by decide) (q_sn efs12 (by decide) fr_p0_49)))))))) ((q_sn efs74 (by decide) (q_sn efs72 (by decide) (q_sn efs70 (by decide) (q_sn efs55 (by decide) (hf_51.u (by decide) (q_sn efs14 (by decide) (q_sn efs12 (by decide) fr_p0_50)))))))) hr_p0_laws hr_p0_rFrom hr_p0_rTo ((q_sn efs74 (by decide) (q_sn efs72 (by decide) (q_sn efs70 (by decide) (q_sn efs55 (by decide) (hf_51.u (by decide) (q_sn efs14 (by decide) (q_sn efs12 (by decide) pf_bk)))))))) hLB ((by omega))) rfl rfl (cwV 2 hts (p1_gV m_9 m_10 m_11 m_12 g_r_pullIt gz_r_pullIt) rfl rfl rfl (by decide +kernel) ⟨by decide, by decide⟩) (va_recv hK hP74 (ci := 8) (q0 := 0) rfl rfl) zm_r_pullIt rfl hl.1 rfl (Nat.le_of_ble_eq_true rfl) dX9_earnest_141 ⟨by decide, by decide⟩ (fun r_75 H76 lo76 hG76 hS76 => ?_)
      obtain ⟨o_77, o_78, o_79, o_80, ho_81, hf_82, hQ76⟩ := hG76
      have hP76 : va_P (dC, dI) vwCl (zW_r_earnest p0 o_77 p0_bLong c_p0_bLong o_78 p0_bTight c_p0_bTight o_79 p0_code c_p0_code b_p0_code p0_codeNumber c_p0_codeNumber b_p0_codeNumber p0_laws c_p0_laws b_p0_laws p0_luck c_p0_luck b_p0_luck p0_pile c_p0_pile o_80 p0_rFrom c_p0_rFrom b_p0_rFrom p0_rTo c_p0_rTo b_p0_rTo p0_steps c_p0_steps b_p0_steps p0_strikes c_p0_strikes b_p0_strikes p0_swings c_p0_swings b_p0_swings p0_walks c_p0_walks b_p0_walks) H76 := hQ76
      clear hQ76 hP74 hS74
      exact q_iret hx hb hr hlocks hS76 dX9_earnest_144 ⟨o_77, o_78, o_79, o_80, v_73, ho_81, ((((((((q_fr.rf.st efs12 (by decide)).st efs14 (by decide)).tr hf_51 (by decide)).st efs55 (by decide)).st efs70 (by decide)).st efs72 (by decide)).st efs74 (by decide)).tr hf_82 (by decide)), (hf_82.u (by decide) (q_sa efs74 (q_sl efs72 (OKX9_l ho70)) (by decide))), (by omega), hP76, za_r_earnest⟩
def zo_r_walk : List Cond := [.code yX9_walk cX9_walk 5 (some .int), .fieldLink RX9 297 "BowWalkModel" "hasBow" "Z", .methodLink RX9 455 yX9_isWalk, .instanceMethod yX9_isWalk, .selects RX9 yX9_isWalk yX9_isWalk, .initialized RX9, .methodLink RX9 389 yX9_isIn, .static yX9_isIn, .fieldLink RX9 446 "BowWalkModel" "stepsDone" "I", .constant RX9 458 (100000), .fieldLink RX9 449 "BowWalkModel" "slipped" "I", .fieldLink RX9 396 "BowWalkModel" "bMany" "I", .fieldLink RX9 440 "BowWalkModel" "walked" "I", .methodLink RX9 459 yX9_earnest, .instanceMethod yX9_earnest, .selects RX9 yX9_earnest yX9_earnest, .fieldLink RX9 443 "BowWalkModel" "place" "I"]
def zw_r_walk : List Cond := zo_r_walk ++ (zw_r_isWalk ++ (zw_r_isIn ++ (zw_r_earnest ++ (wsX90 ++ []))))
theorem gz_r_walk : zw_r_walk.all goodWord = true := p1_ga (by decide +kernel) (p1_ga gz_r_isWalk (p1_ga gz_r_isIn (p1_ga gz_r_earnest (p1_ga gk_X9 p1_g0))))
theorem iz_r_walk : ∀ w ∈ zw_r_walk, w ∈ lw_tbl := p1_ia (p1_all [1457, 1097, 1458, 1460, 75, 116, 1439, 1440, 1100, 1462, 1101, 1089, 1098, 1463, 1465, 76, 1099] (by decide +kernel)) (p1_ia iz_r_isWalk (p1_ia iz_r_isIn (p1_ia iz_r_earnest (p1_ia ik_X9 p1_i0))))
def zW_r_walk (p0 : Nat) (f_p0 : List Value) (p0_bLong : Nat) (c_p0_bLong : ClassId) (b_p0_bLong : Nat → Int32) (p0_bTight : Nat) (c_p0_bTight : ClassId) (b_p0_bTight : Nat → Int32) (p0_code : Nat) (c_p0_code : ClassId) (b_p0_code : Nat → Int32) (p0_codeNumber : Nat) (c_p0_codeNumber : ClassId) (b_p0_codeNumber : Nat → Int32) (p0_laws : Nat) (c_p0_laws : ClassId) (b_p0_laws : Nat → Int32) (p0_luck : Nat) (c_p0_luck : ClassId) (b_p0_luck : Nat → Int32) (p0_pile : Nat) (c_p0_pile : ClassId) (b_p0_pile : Nat → Int32) (p0_rFrom : Nat) (c_p0_rFrom : ClassId) (b_p0_rFrom : Nat → Int32) (p0_rTo : Nat) (c_p0_rTo : ClassId) (b_p0_rTo : Nat → Int32) (p0_steps : Nat) (c_p0_steps : ClassId) (b_p0_steps : Nat → Int32) (p0_strikes : Nat) (c_p0_strikes : ClassId) (b_p0_strikes : Nat → Int32) (p0_swings : Nat) (c_p0_swings : ClassId) (b_p0_swings : Nat → Int32) (p0_walks : Nat) (c_p0_walks : ClassId) (b_p0_walks : Nat → Int32) : va_W := [(p0, .inr (8, f_p0)), (p0_bLong, .inl (c_p0_bLong, 2, .inl b_p0_bLong)), (p0_bTight, .inl (c_p0_bTight, 12, .inl b_p0_bTight)), (p0_code, .inl (c_p0_code, 1800, .inl b_p0_code)), (p0_codeNumber, .inl (c_p0_codeNumber, 1800, .inl b_p0_codeNumber)), (p0_laws, .inl (c_p0_laws, 2, .inl b_p0_laws)), (p0_luck, .inl (c_p0_luck, 2, .inl b_p0_luck)), (p0_pile, .inl (c_p0_pile, 90, .inl b_p0_pile)), (p0_rFrom, .inl (c_p0_rFrom, 12, .inl b_p0_rFrom)), (p0_rTo, .inl (c_p0_rTo, 12, .inl b_p0_rTo)), (p0_steps, .inl (c_p0_steps, 8, .inl b_p0_steps)), (p0_strikes, .inl (c_p0_strikes, 64, .inl b_p0_strikes)), (p0_swings, .inl (c_p0_swings, 64, .inl b_p0_swings)), (p0_walks, .inl (c_p0_walks, 2, .inl b_p0_walks))]
def zT_r_walk (c_p0_bLong : ClassId) (c_p0_bTight : ClassId) (c_p0_code : ClassId) (c_p0_codeNumber : ClassId) (c_p0_laws : ClassId) (c_p0_luck : ClassId) (c_p0_pile : ClassId) (c_p0_rFrom : ClassId) (c_p0_rTo : ClassId) (c_p0_steps : ClassId) (c_p0_strikes : ClassId) (c_p0_swings : ClassId) (c_p0_walks : ClassId) : List (ClassId × FieldType) := [(c_p0_bLong, .int), (c_p0_bTight, .int), (c_p0_code, .int), (c_p0_codeNumber, .int), (c_p0_laws, .int), (c_p0_luck, .int), (c_p0_pile, .int), (c_p0_rFrom, .int), (c_p0_rTo, .int), (c_p0_steps, .int), (c_p0_strikes, .int), (c_p0_swings, .int), (c_p0_walks, .int)]
def zA_r_walk (p0 : Nat) (p0_bLong : Nat) (p0_bTight : Nat) (p0_code : Nat) (p0_codeNumber : Nat) (p0_laws : Nat) (p0_luck : Nat) (p0_pile : Nat) (p0_rFrom : Nat) (p0_rTo : Nat) (p0_steps : Nat) (p0_strikes : Nat) (p0_swings : Nat) (p0_walks : Nat) : List Nat := [p0, p0_bLong, p0_bTight, p0_code, p0_codeNumber, p0_laws, p0_luck, p0_pile, p0_rFrom, p0_rTo, p0_steps, p0_strikes, p0_swings, p0_walks]
theorem za_r_walk {p0 : Nat} {f_p0 : List Value} {p0_bLong : Nat} {c_p0_bLong : ClassId} {b_p0_bLong : Nat → Int32} {p0_bTight : Nat} {c_p0_bTight : ClassId} {b_p0_bTight : Nat → Int32} {p0_code : Nat} {c_p0_code : ClassId} {b_p0_code : Nat → Int32} {p0_codeNumber : Nat} {c_p0_codeNumber : ClassId} {b_p0_codeNumber : Nat → Int32} {p0_laws : Nat} {c_p0_laws : ClassId} {b_p0_laws : Nat → Int32} {p0_luck : Nat} {c_p0_luck : ClassId} {b_p0_luck : Nat → Int32} {p0_pile : Nat} {c_p0_pile : ClassId} {b_p0_pile : Nat → Int32} {p0_rFrom : Nat} {c_p0_rFrom : ClassId} {b_p0_rFrom : Nat → Int32} {p0_rTo : Nat} {c_p0_rTo : ClassId} {b_p0_rTo : Nat → Int32} {p0_steps : Nat} {c_p0_steps : ClassId} {b_p0_steps : Nat → Int32} {p0_strikes : Nat} {c_p0_strikes : ClassId} {b_p0_strikes : Nat → Int32} {p0_swings : Nat} {c_p0_swings : ClassId} {b_p0_swings : Nat → Int32} {p0_walks : Nat} {c_p0_walks : ClassId} {b_p0_walks : Nat → Int32} : (zW_r_walk p0 f_p0 p0_bLong c_p0_bLong b_p0_bLong p0_bTight c_p0_bTight b_p0_bTight p0_code c_p0_code b_p0_code p0_codeNumber c_p0_codeNumber b_p0_codeNumber p0_laws c_p0_laws b_p0_laws p0_luck c_p0_luck b_p0_luck p0_pile c_p0_pile b_p0_pile p0_rFrom c_p0_rFrom b_p0_rFrom p0_rTo c_p0_rTo b_p0_rTo p0_steps c_p0_steps b_p0_steps p0_strikes c_p0_strikes b_p0_strikes p0_swings c_p0_swings b_p0_swings p0_walks c_p0_walks b_p0_walks).map Prod.fst = (zA_r_walk p0 p0_bLong p0_bTight p0_code p0_codeNumber p0_laws p0_luck p0_pile p0_rFrom p0_rTo p0_steps p0_strikes p0_swings p0_walks) := rfl
def zG_r_walk (p0 : Nat) (f_p0 : List Value) (p0_bLong : Nat) (c_p0_bLong : ClassId) (b_p0_bLong : Nat → Int32) (p0_bTight : Nat) (c_p0_bTight : ClassId) (b_p0_bTight : Nat → Int32) (p0_code : Nat) (c_p0_code : ClassId) (b_p0_code : Nat → Int32) (p0_codeNumber : Nat) (c_p0_codeNumber : ClassId) (b_p0_codeNumber : Nat → Int32) (p0_laws : Nat) (c_p0_laws : ClassId) (b_p0_laws : Nat → Int32) (p0_luck : Nat) (c_p0_luck : ClassId) (b_p0_luck : Nat → Int32) (p0_pile : Nat) (c_p0_pile : ClassId) (b_p0_pile : Nat → Int32) (p0_rFrom : Nat) (c_p0_rFrom : ClassId) (b_p0_rFrom : Nat → Int32) (p0_rTo : Nat) (c_p0_rTo : ClassId) (b_p0_rTo : Nat → Int32) (p0_steps : Nat) (c_p0_steps : ClassId) (b_p0_steps : Nat → Int32) (p0_strikes : Nat) (c_p0_strikes : ClassId) (b_p0_strikes : Nat → Int32) (p0_swings : Nat) (c_p0_swings : ClassId) (b_p0_swings : Nat → Int32) (p0_walks : Nat) (c_p0_walks : ClassId) (b_p0_walks : Nat → Int32) (a1 : Int32) (a2 : Int32) (bk : Int32) (r : Int32) (X : va_W → Prop) : Prop := ∃ (y_p0 : List Value) (y_p0_bLong : Nat → Int32) (y_p0_bTight : Nat → Int32) (y_p0_pile : Nat → Int32), OKX9 y_p0 ∧ q_fr [52, 56, 57, 61, 62, 63, 64, 65] f_p0 y_p0 ∧ X (zW_r_walk p0 y_p0 p0_bLong c_p0_bLong y_p0_bLong p0_bTight c_p0_bTight y_p0_bTight p0_code c_p0_code b_p0_code p0_codeNumber c_p0_codeNumber b_p0_codeNumber p0_laws c_p0_laws b_p0_laws p0_luck c_p0_luck b_p0_luck p0_pile c_p0_pile y_p0_pile p0_rFrom c_p0_rFrom b_p0_rFrom p0_rTo c_p0_rTo b_p0_rTo p0_steps c_p0_steps b_p0_steps p0_strikes c_p0_strikes b_p0_strikes p0_swings c_p0_swings b_p0_swings p0_walks c_p0_walks b_p0_walks)
theorem zm_r_walk {p0 : Nat} {f_p0 : List Value} {p0_bLong : Nat} {c_p0_bLong : ClassId} {b_p0_bLong : Nat → Int32} {p0_bTight : Nat} {c_p0_bTight : ClassId} {b_p0_bTight : Nat → Int32} {p0_code : Nat} {c_p0_code : ClassId} {b_p0_code : Nat → Int32} {p0_codeNumber : Nat} {c_p0_codeNumber : ClassId} {b_p0_codeNumber : Nat → Int32} {p0_laws : Nat} {c_p0_laws : ClassId} {b_p0_laws : Nat → Int32} {p0_luck : Nat} {c_p0_luck : ClassId} {b_p0_luck : Nat → Int32} {p0_pile : Nat} {c_p0_pile : ClassId} {b_p0_pile : Nat → Int32} {p0_rFrom : Nat} {c_p0_rFrom : ClassId} {b_p0_rFrom : Nat → Int32} {p0_rTo : Nat} {c_p0_rTo : ClassId} {b_p0_rTo : Nat → Int32} {p0_steps : Nat} {c_p0_steps : ClassId} {b_p0_steps : Nat → Int32} {p0_strikes : Nat} {c_p0_strikes : ClassId} {b_p0_strikes : Nat → Int32} {p0_swings : Nat} {c_p0_swings : ClassId} {b_p0_swings : Nat → Int32} {p0_walks : Nat} {c_p0_walks : ClassId} {b_p0_walks : Nat → Int32} {a1 : Int32} {a2 : Int32} {bk : Int32} : ∀ (r : Int32), ∀ X Y : va_W → Prop, (∀ w, X w → Y w) → zG_r_walk p0 f_p0 p0_bLong c_p0_bLong b_p0_bLong p0_bTight c_p0_bTight b_p0_bTight p0_code c_p0_code b_p0_code p0_codeNumber c_p0_codeNumber b_p0_codeNumber p0_laws c_p0_laws b_p0_laws p0_luck c_p0_luck b_p0_luck p0_pile c_p0_pile b_p0_pile p0_rFrom c_p0_rFrom b_p0_rFrom p0_rTo c_p0_rTo b_p0_rTo p0_steps c_p0_steps b_p0_steps p0_strikes c_p0_strikes b_p0_strikes p0_swings c_p0_swings b_p0_swings p0_walks c_p0_walks b_p0_walks a1 a2 bk r X → zG_r_walk p0 f_p0 p0_bLong c_p0_bLong b_p0_bLong p0_bTight c_p0_bTight b_p0_bTight p0_code c_p0_code b_p0_code p0_codeNumber c_p0_codeNumber b_p0_codeNumber p0_laws c_p0_laws b_p0_laws p0_luck c_p0_luck b_p0_luck p0_pile c_p0_pile b_p0_pile p0_rFrom c_p0_rFrom b_p0_rFrom p0_rTo c_p0_rTo b_p0_rTo p0_steps c_p0_steps b_p0_steps p0_strikes c_p0_strikes b_p0_strikes p0_swings c_p0_swings b_p0_swings p0_walks c_p0_walks b_p0_walks a1 a2 bk r Y := fun r X Y h h1 => by obtain ⟨x0, x1, x2, x3, x4, x5, hx⟩ := h1; exact ⟨x0, x1, x2, x3, x4, x5, h _ hx⟩
set_option maxHeartbeats 4000000 in
set_option maxRecDepth 100000 in
theorem r_walk (l : Launch) (dC : Nat → ClassId) (dI : Nat → Nat → Nat) (sz : Nat) (p0 : Nat) (f_p0 : List Value) (p0_bLong : Nat) (c_p0_bLong : ClassId) (b_p0_bLong : Nat → Int32) (p0_bTight : Nat) (c_p0_bTight : ClassId) (b_p0_bTight : Nat → Int32) (p0_code : Nat) (c_p0_code : ClassId) (b_p0_code : Nat → Int32) (p0_codeNumber : Nat) (c_p0_codeNumber : ClassId) (b_p0_codeNumber : Nat → Int32) (p0_laws : Nat) (c_p0_laws : ClassId) (b_p0_laws : Nat → Int32) (p0_luck : Nat) (c_p0_luck : ClassId) (b_p0_luck : Nat → Int32) (p0_pile : Nat) (c_p0_pile : ClassId) (b_p0_pile : Nat → Int32) (p0_rFrom : Nat) (c_p0_rFrom : ClassId) (b_p0_rFrom : Nat → Int32) (p0_rTo : Nat) (c_p0_rTo : ClassId) (b_p0_rTo : Nat → Int32) (p0_steps : Nat) (c_p0_steps : ClassId) (b_p0_steps : Nat → Int32) (p0_strikes : Nat) (c_p0_strikes : ClassId) (b_p0_strikes : Nat → Int32) (p0_swings : Nat) (c_p0_swings : ClassId) (b_p0_swings : Nat → Int32) (p0_walks : Nat) (c_p0_walks : ClassId) (b_p0_walks : Nat → Int32) (a1 : Int32) (a2 : Int32) (bk : Int32) (ho_p0 : OKX9 f_p0) (fr_p0_13 : q_rf f_p0 13 p0_walks) (fr_p0_14 : q_rf f_p0 14 p0_laws) (fr_p0_17 : q_rf f_p0 17 p0_luck) (fr_p0_31 : q_rf f_p0 31 p0_steps) (fr_p0_32 : q_rf f_p0 32 p0_strikes) (fr_p0_33 : q_rf f_p0 33 p0_swings) (fr_p0_36 : q_rf f_p0 36 p0_rFrom) (fr_p0_37 : q_rf f_p0 37 p0_rTo) (fr_p0_38 : q_rf f_p0 38 p0_code) (fr_p0_39 : q_rf f_p0 39 p0_codeNumber) (fr_p0_42 : q_rf f_p0 42 p0_pile) (fr_p0_49 : q_rf f_p0 49 p0_bTight) (fr_p0_50 : q_rf f_p0 50 p0_bLong) (hr_p0_laws : q_rg 2 (0) 3 b_p0_laws) (hr_p0_luck : q_rg 2 (0) 49 b_p0_luck) (hr_p0_rFrom : q_rg 12 (0) 1800 b_p0_rFrom) (hr_p0_rTo : q_rg 12 (0) 1800 b_p0_rTo) (hr_p0_steps : q_rg 8 (0) 8 b_p0_steps) (hr_p0_walks : q_rg 2 (0) 4 b_p0_walks) (pf_bk : q_if f_p0 43 bk) (hWB : q_WB bk b_p0_walks b_p0_steps) (hLB : q_LB bk b_p0_laws b_p0_rFrom b_p0_rTo b_p0_code) : Met l yX9_walk zw_r_walk ({ frames := 6, cells := 0, slots := 0, locals := 144 }) (va_Pc [.ref p0, .int a1, .int a2] (q_pre (dC, dI) (zW_r_walk p0 f_p0 p0_bLong c_p0_bLong b_p0_bLong p0_bTight c_p0_bTight b_p0_bTight p0_code c_p0_code b_p0_code p0_codeNumber c_p0_codeNumber b_p0_codeNumber p0_laws c_p0_laws b_p0_laws p0_luck c_p0_luck b_p0_luck p0_pile c_p0_pile b_p0_pile p0_rFrom c_p0_rFrom b_p0_rFrom p0_rTo c_p0_rTo b_p0_rTo p0_steps c_p0_steps b_p0_steps p0_strikes c_p0_strikes b_p0_strikes p0_swings c_p0_swings b_p0_swings p0_walks c_p0_walks b_p0_walks) (zT_r_walk c_p0_bLong c_p0_bTight c_p0_code c_p0_codeNumber c_p0_laws c_p0_luck c_p0_pile c_p0_rFrom c_p0_rTo c_p0_steps c_p0_strikes c_p0_swings c_p0_walks) q_E0 sz)) (q_Qi (dC, dI) (zG_r_walk p0 f_p0 p0_bLong c_p0_bLong b_p0_bLong p0_bTight c_p0_bTight b_p0_bTight p0_code c_p0_code b_p0_code p0_codeNumber c_p0_codeNumber b_p0_codeNumber p0_laws c_p0_laws b_p0_laws p0_luck c_p0_luck b_p0_luck p0_pile c_p0_pile b_p0_pile p0_rFrom c_p0_rFrom b_p0_rFrom p0_rTo c_p0_rTo b_p0_rTo p0_steps c_p0_steps b_p0_steps p0_strikes c_p0_strikes b_p0_strikes p0_swings c_p0_swings b_p0_swings p0_walks c_p0_walks b_p0_walks a1 a2 bk) (zA_r_walk p0 p0_bLong p0_bTight p0_code p0_codeNumber p0_laws p0_luck p0_pile p0_rFrom p0_rTo p0_steps p0_strikes p0_swings p0_walks) (va_A (zW_r_walk p0 f_p0 p0_bLong c_p0_bLong b_p0_bLong p0_bTight c_p0_bTight b_p0_bTight p0_code c_p0_code b_p0_code p0_codeNumber c_p0_codeNumber b_p0_codeNumber p0_laws c_p0_laws b_p0_laws p0_luck c_p0_luck b_p0_luck p0_pile c_p0_pile b_p0_pile p0_rFrom c_p0_rFrom b_p0_rFrom p0_rTo c_p0_rTo b_p0_rTo p0_steps c_p0_steps b_p0_steps p0_strikes c_p0_strikes b_p0_strikes p0_swings c_p0_swings b_p0_swings p0_walks c_p0_walks b_p0_walks) sz)) 0 0 (va_A (zW_r_walk p0 f_p0 p0_bLong c_p0_bLong b_p0_bLong p0_bTight c_p0_bTight b_p0_bTight p0_code c_p0_code b_p0_code p0_codeNumber c_p0_codeNumber b_p0_codeNumber p0_laws c_p0_laws b_p0_laws p0_luck c_p0_luck b_p0_luck p0_pile c_p0_pile b_p0_pile p0_rFrom c_p0_rFrom b_p0_rFrom p0_rTo c_p0_rTo b_p0_rTo p0_steps c_p0_steps b_p0_steps p0_strikes c_p0_strikes b_p0_strikes p0_swings c_p0_swings b_p0_swings p0_walks c_p0_walks b_p0_walks) sz) := by
  refine Met.ofW (cc := cX9_walk) (maxL := 5) (ret := (some .int)) (by decide) rfl ?_
  intro p e s m args below meth c s₁ B hml hv
  obtain ⟨rfl, hsz, hP, hK, hD0, hE⟩ := hv
  have hx := B.exec
  have hb := B.bytes
  have hr := B.returns
  have hts := atoms_spec (ws := zw_r_walk) B.pre
  have hown : s.vm.findClass RX9 = some m.cls := findClass_of_methodNamed B.named
  have hlocks := B.notSynchronized
  subst hsz
  have hD := hD0.self (sz := s.heap.size)
  generalize hAe : va_A (zW_r_walk p0 f_p0 p0_bLong c_p0_bLong b_p0_bLong p0_bTight c_p0_bTight b_p0_bTight p0_code c_p0_code b_p0_code p0_codeNumber c_p0_codeNumber b_p0_codeNumber p0_laws c_p0_laws b_p0_laws p0_luck c_p0_luck b_p0_luck p0_pile c_p0_pile b_p0_pile p0_rFrom c_p0_rFrom b_p0_rFrom p0_rTo c_p0_rTo b_p0_rTo p0_steps c_p0_steps b_p0_steps p0_strikes c_p0_strikes b_p0_strikes p0_swings c_p0_swings b_p0_swings p0_walks c_p0_walks b_p0_walks) s.heap.size = A at hD hE ⊢
  have hA : ∀ q : Nat, s.heap.size ≤ q → A q := fun q h => by rw [← hAe]; exact Or.inr h
  have hDa : q_DA A (zA_r_walk p0 p0_bLong p0_bTight p0_code p0_codeNumber p0_laws p0_luck p0_pile p0_rFrom p0_rTo p0_steps p0_strikes p0_swings p0_walks) := q_DA.mk hD za_r_walk
  clear hAe hD0 hD
  have hS : va_S A s.heap s.heap [] := va_S.rf
  have m_0 : (.fieldLink RX9 297 "BowWalkModel" "hasBow" "Z" : Cond) ∈ zw_r_walk := List.mem_append_left _ (List.mem_of_getElem? (i := 1) rfl)
  have k_0 := hts _ m_0
  have m_1 : (.methodLink RX9 455 yX9_isWalk : Cond) ∈ zw_r_walk := List.mem_append_left _ (List.mem_of_getElem? (i := 2) rfl)
  have k_1 := hts _ m_1
  have m_2 : (.instanceMethod yX9_isWalk : Cond) ∈ zw_r_walk := List.mem_append_left _ (List.mem_of_getElem? (i := 3) rfl)
  have k_2 := hts _ m_2
  have m_3 : (.selects RX9 yX9_isWalk yX9_isWalk : Cond) ∈ zw_r_walk := List.mem_append_left _ (List.mem_of_getElem? (i := 4) rfl)
  have k_3 := hts _ m_3
  have m_4 : (.initialized RX9 : Cond) ∈ zw_r_walk := List.mem_append_left _ (List.mem_of_getElem? (i := 5) rfl)
  have k_4 := hts _ m_4
  have m_5 : (.methodLink RX9 389 yX9_isIn : Cond) ∈ zw_r_walk := List.mem_append_left _ (List.mem_of_getElem? (i := 6) rfl)
  have k_5 := hts _ m_5
  have m_6 : (.static yX9_isIn : Cond) ∈ zw_r_walk := List.mem_append_left _ (List.mem_of_getElem? (i := 7) rfl)
  have k_6 := hts _ m_6
  have m_7 : (.fieldLink RX9 446 "BowWalkModel" "stepsDone" "I" : Cond) ∈ zw_r_walk := List.mem_append_left _ (List.mem_of_getElem? (i := 8) rfl)
  have k_7 := hts _ m_7
  have m_8 : (.constant RX9 458 (100000) : Cond) ∈ zw_r_walk := List.mem_append_left _ (List.mem_of_getElem? (i := 9) rfl)
  have k_8 := hts _ m_8
  have m_9 : (.fieldLink RX9 449 "BowWalkModel" "slipped" "I" : Cond) ∈ zw_r_walk := List.mem_append_left _ (List.mem_of_getElem? (i := 10) rfl)
  have k_9 := hts _ m_9
  have m_10 : (.fieldLink RX9 396 "BowWalkModel" "bMany" "I" : Cond) ∈ zw_r_walk := List.mem_append_left _ (List.mem_of_getElem? (i := 11) rfl)
  have k_10 := hts _ m_10
  have m_11 : (.fieldLink RX9 440 "BowWalkModel" "walked" "I" : Cond) ∈ zw_r_walk := List.mem_append_left _ (List.mem_of_getElem? (i := 12) rfl)
  have k_11 := hts _ m_11
  have m_12 : (.methodLink RX9 459 yX9_earnest : Cond) ∈ zw_r_walk := List.mem_append_left _ (List.mem_of_getElem? (i := 13) rfl)
  have k_12 := hts _ m_12
  have m_13 : (.instanceMethod yX9_earnest : Cond) ∈ zw_r_walk := List.mem_append_left _ (List.mem_of_getElem? (i := 14) rfl)
  have k_13 := hts _ m_13
  have m_14 : (.selects RX9 yX9_earnest yX9_earnest : Cond) ∈ zw_r_walk := List.mem_append_left _ (List.mem_of_getElem? (i := 15) rfl)
  have k_14 := hts _ m_14
  have m_15 : (.fieldLink RX9 443 "BowWalkModel" "place" "I" : Cond) ∈ zw_r_walk := List.mem_append_left _ (List.mem_of_getElem? (i := 16) rfl)
  have k_15 := hts _ m_15
  have g_r_isWalk : ∀ w ∈ zw_r_isWalk, w ∈ zw_r_walk := fun w h => List.mem_append_right _ (List.mem_append_left _ h)
  have g_r_isIn : ∀ w ∈ zw_r_isIn, w ∈ zw_r_walk := fun w h => List.mem_append_right _ (List.mem_append_right _ (List.mem_append_left _ h))
  have g_r_earnest : ∀ w ∈ zw_r_earnest, w ∈ zw_r_walk := fun w h => List.mem_append_right _ (List.mem_append_right _ (List.mem_append_right _ (List.mem_append_left _ h)))
  have i_X9 : ∀ w ∈ u_ws RX9 TX9 81, w ∈ zw_r_walk := fun w h => List.mem_append_right _ (List.mem_append_right _ (List.mem_append_right _ (List.mem_append_right _ (List.mem_append_left _ h))))
  have lt_m1 : ((-1) : Int32).toInt = -1 := by decide
  have lt_0 : (0 : Int32).toInt = 0 := by decide
  have lt_1 : (1 : Int32).toInt = 1 := by decide
  have lt_500 : (500 : Int32).toInt = 500 := by decide
  have lt_100000 : (100000 : Int32).toInt = 100000 := by decide
  have hl := lv_entry ([.ref p0, .int a1, .int a2]) (n := 5) (Nat.le_of_ble_eq_true rfl)
  rw [lg_entry_eq]
  generalize (lg_sl ([.ref p0, .int a1, .int a2]) ++ List.replicate (5 - (lg_sl ([.ref p0, .int a1, .int a2])).length) Slot.unset).toArray = ls at hl ⊢
  have hl : lv_has ls 5 [(0, .ref p0), (1, .int a1), (2, .int a2)] := hl
  have tbk := (OKX9_g43 ho_p0).use pf_bk
  have hwb := hr_p0_walks bk.toNatClampNeg (q_cl (q_in (by omega) (by omega)))
  have hlb := hr_p0_laws bk.toNatClampNeg (q_cl (q_in (by omega) (by omega)))
  refine lv_aload_n hx hb dX9_walk_0 rfl (lv_at hl 0 rfl) ?_
  obtain ⟨v_1, fv_1⟩ := OKX9_g60 ho_p0
  refine qg_X9_60 hx hb hts i_X9 hown hK hP 0 rfl k_0 fv_1 dX9_walk_1 ?_
  refine lv_if_eq (tgt := 38) hx hb dX9_walk_4 (by decide) (fun c_2 => ?_) (fun c_2 => ?_)
  · have tc_2 := q_eq c_2
    refine lv_iconst (v := (-1)) hx hb dX9_walk_38 (by decide) ?_
    exact q_iret hx hb hr hlocks hS dX9_walk_39 ⟨f_p0, b_p0_bLong, b_p0_bTight, b_p0_pile, ho_p0, q_fr.rf, hP, za_r_walk⟩
  · have tc_2 := q_neN c_2
    refine lv_aload_n hx hb dX9_walk_7 rfl (lv_at hl 0 rfl) (lv_iload_n hx hb dX9_walk_8 rfl (lv_at hl 1 rfl) ?_)
    refine q_cVi (As := [.int a1]) (rest := []) q_w0 trivial hK hP hDa za_r_walk hS hA [0, 13] [12] (by decide +kernel) ⟨hx, hb, hml, hown, hts⟩ (r_isWalk l dC dI s.heap.size p0 f_p0 p0_walks c_p0_walks b_p0_walks a1 bk ho_p0 fr_p0_13 hr_p0_walks pf_bk) rfl rfl (cwV 1 hts (p1_gV m_1 m_2 m_3 m_4 g_r_isWalk gz_r_isWalk) rfl rfl rfl (by decide +kernel) ⟨by decide, by decide⟩) (va_recv hK hP (ci := 8) (q0 := 0) rfl rfl) zm_r_isWalk rfl hl.1 rfl (Nat.le_of_ble_eq_true rfl) dX9_walk_9 ⟨by decide, by decide⟩ (fun r_3 H4 lo4 hG4 hS4 => ?_)
    obtain ⟨z_5, hQ4⟩ := hG4
    have hP4 : va_P (dC, dI) vwCl (zW_r_walk p0 f_p0 p0_bLong c_p0_bLong b_p0_bLong p0_bTight c_p0_bTight b_p0_bTight p0_code c_p0_code b_p0_code p0_codeNumber c_p0_codeNumber b_p0_codeNumber p0_laws c_p0_laws b_p0_laws p0_luck c_p0_luck b_p0_luck p0_pile c_p0_pile b_p0_pile p0_rFrom c_p0_rFrom b_p0_rFrom p0_rTo c_p0_rTo b_p0_rTo p0_steps c_p0_steps b_p0_steps p0_strikes c_p0_strikes b_p0_strikes p0_swings c_p0_swings b_p0_swings p0_walks c_p0_walks b_p0_walks) H4 := hQ4
    clear hQ4 hP hS
    rcases z_5 with ⟨rfl, z_5⟩ | ⟨rfl, z_5⟩
    · refine lv_if_eq (tgt := 38) hx hb dX9_walk_12 (by decide) (fun c_6 => absurd c_6 (by decide)) (fun c_6 => ?_)
      refine lv_iload_n hx hb dX9_walk_15 rfl (lv_at hl 2 rfl) (lv_iconst (v := 0) hx hb dX9_walk_16 (by decide) (lv_sipush (v := 500) hx hb dX9_walk_17 (by decide) ?_))
      refine q_cSi (As := [.int a2, .int 0, .int 500]) (rest := []) q_w0 trivial hK hP4 hDa za_r_walk hS4 hA [] [] (by decide +kernel) ⟨hx, hb, hml, hown, hts⟩ (r_isIn l dC dI H4.size a2 0 500) rfl rfl (va_cwS 3 hts (p1_gS m_5 m_6 m_4 g_r_isIn gz_r_isIn) rfl rfl rfl (by decide +kernel) ⟨by decide, by decide⟩) zm_r_isIn rfl hl.1 rfl (Nat.le_of_ble_eq_true rfl) dX9_walk_20 ⟨by decide, by decide⟩ (fun r_7 H8 lo8 hG8 hS8 => ?_)
      obtain ⟨z_9, hQ8⟩ := hG8
      have hP8 : va_P (dC, dI) vwCl (zW_r_walk p0 f_p0 p0_bLong c_p0_bLong b_p0_bLong p0_bTight c_p0_bTight b_p0_bTight p0_code c_p0_code b_p0_code p0_codeNumber c_p0_codeNumber b_p0_codeNumber p0_laws c_p0_laws b_p0_laws p0_luck c_p0_luck b_p0_luck p0_pile c_p0_pile b_p0_pile p0_rFrom c_p0_rFrom b_p0_rFrom p0_rTo c_p0_rTo b_p0_rTo p0_steps c_p0_steps b_p0_steps p0_strikes c_p0_strikes b_p0_strikes p0_swings c_p0_swings b_p0_swings p0_walks c_p0_walks b_p0_walks) H8 := hQ8
      clear hQ8 hP4 hS4
      rcases z_9 with ⟨rfl, z_9⟩ | ⟨rfl, z_9⟩
      · refine lv_if_eq (tgt := 38) hx hb dX9_walk_23 (by decide) (fun c_10 => absurd c_10 (by decide)) (fun c_10 => ?_)
        refine lv_aload_n hx hb dX9_walk_26 rfl (lv_at hl 0 rfl) ?_
        obtain ⟨v_11, v_12, fv_11, fv_12, tv_11⟩ := OKX9_g62 ho_p0
        refine qg_X9_63 hx hb hts i_X9 hown hK hP8 0 rfl k_7 fv_12 dX9_walk_27 (lv_iload_n hx hb dX9_walk_30 rfl (lv_at hl 2 rfl) (lv_iadd hx hb dX9_walk_31 (lv_topi fun v_13 ev_13 => ?_)))
        have tv_13 := q_add ev_13 (by omega) (by omega)
        refine lv_ldcw (v := 100000) hx hb hown k_8 dX9_walk_32 ?_
        refine lv_icmp_le (tgt := 40) hx hb dX9_walk_35 (by decide) (fun c_14 => ?_) (fun c_14 => ?_)
        · have tc_14 := q_le c_14
          refine lv_iconst (v := 0) hx hb dX9_walk_40 (by decide) (lv_istore_n (lv' := [(3, .int 0), (0, .ref p0), (1, .int a1), (2, .int a2)]) hx hb dX9_walk_41 rfl hl (by decide) rfl (fun ls hl => ?_))
          refine lv_iconst (v := 0) hx hb dX9_walk_42 (by decide) (lv_istore (lv' := [(4, .int 0), (3, .int 0), (0, .ref p0), (1, .int a1), (2, .int a2)]) hx hb dX9_walk_43 hl (by decide) rfl (fun ls hl => ?_))
          have key45 : ∀ (fu45 : Nat) (sm : Int32) (k : Int32) (fz_p0 : List Value) (sdv : Int32) (bz_p0_bLong : Nat → Int32) (bz_p0_bTight : Nat → Int32) (bz_p0_pile : Nat → Int32) (H : Heap) (locs : List Loc) (ls : Array Slot) (hfu45 : 500 - k.toInt ≤ (fu45 : Int)) (tk : (0) ≤ k.toInt ∧ k.toInt ≤ 500) (ho_fz_p0 : OKX9 fz_p0) (hf_fz_p0 : q_fr [52, 56, 57, 61, 62, 63, 64, 65] f_p0 fz_p0) (fr_fz_p0_13 : q_rf fz_p0 13 p0_walks) (fr_fz_p0_14 : q_rf fz_p0 14 p0_laws) (fr_fz_p0_17 : q_rf fz_p0 17 p0_luck) (fr_fz_p0_31 : q_rf fz_p0 31 p0_steps) (fr_fz_p0_32 : q_rf fz_p0 32 p0_strikes) (fr_fz_p0_33 : q_rf fz_p0 33 p0_swings) (fr_fz_p0_36 : q_rf fz_p0 36 p0_rFrom) (fr_fz_p0_37 : q_rf fz_p0 37 p0_rTo) (fr_fz_p0_38 : q_rf fz_p0 38 p0_code) (fr_fz_p0_39 : q_rf fz_p0 39 p0_codeNumber) (fr_fz_p0_42 : q_rf fz_p0 42 p0_pile) (fh_fz_p0_43 : q_if fz_p0 43 bk) (fr_fz_p0_49 : q_rf fz_p0 49 p0_bTight) (fr_fz_p0_50 : q_rf fz_p0 50 p0_bLong) (fv_fz_p0_63 : q_if fz_p0 63 sdv) (tsdv : (0) ≤ sdv.toInt ∧ sdv.toInt ≤ 100000) (hq45_0 : sdv.toInt + a2.toInt ≤ 100000 + k.toInt), va_P (dC, dI) vwCl (zW_r_walk p0 fz_p0 p0_bLong c_p0_bLong bz_p0_bLong p0_bTight c_p0_bTight bz_p0_bTight p0_code c_p0_code b_p0_code p0_codeNumber c_p0_codeNumber b_p0_codeNumber p0_laws c_p0_laws b_p0_laws p0_luck c_p0_luck b_p0_luck p0_pile c_p0_pile bz_p0_pile p0_rFrom c_p0_rFrom b_p0_rFrom p0_rTo c_p0_rTo b_p0_rTo p0_steps c_p0_steps b_p0_steps p0_strikes c_p0_strikes b_p0_strikes p0_swings c_p0_swings b_p0_swings p0_walks c_p0_walks b_p0_walks) H → va_S A s.heap H locs → lv_has ls 5 [(4, .int k), (3, .int sm), (0, .ref p0), (1, .int a1), (2, .int a2)] → W p l e (headSpec zw_r_walk { frames := 6, cells := 0, slots := 0, locals := 144 }).room s m ([.ref p0, .int a1, .int a2] : List Value).toArray below meth c H locs 0 0 (MQ below (q_Qi (dC, dI) (zG_r_walk p0 f_p0 p0_bLong c_p0_bLong b_p0_bLong p0_bTight c_p0_bTight b_p0_bTight p0_code c_p0_code b_p0_code p0_codeNumber c_p0_codeNumber b_p0_codeNumber p0_laws c_p0_laws b_p0_laws p0_luck c_p0_luck b_p0_luck p0_pile c_p0_pile b_p0_pile p0_rFrom c_p0_rFrom b_p0_rFrom p0_rTo c_p0_rTo b_p0_rTo p0_steps c_p0_steps b_p0_steps p0_strikes c_p0_strikes b_p0_strikes p0_swings c_p0_swings b_p0_swings p0_walks c_p0_walks b_p0_walks a1 a2 bk) (zA_r_walk p0 p0_bLong p0_bTight p0_code p0_codeNumber p0_laws p0_luck p0_pile p0_rFrom p0_rTo p0_steps p0_strikes p0_swings p0_walks) A) ([.ref p0, .int a1, .int a2] : List Value).toArray s 0 0 A) (F0 m 45 ls []) := by
            intro fu45
            induction fu45 using Nat.strongRecOn with
            | ind fu45 ih45 =>
              intro sm k fz_p0 sdv bz_p0_bLong bz_p0_bTight bz_p0_pile H15 lo15 ls hfu45 tk ho_fz_p0 hf_fz_p0 fr_fz_p0_13 fr_fz_p0_14 fr_fz_p0_17 fr_fz_p0_31 fr_fz_p0_32 fr_fz_p0_33 fr_fz_p0_36 fr_fz_p0_37 fr_fz_p0_38 fr_fz_p0_39 fr_fz_p0_42 fh_fz_p0_43 fr_fz_p0_49 fr_fz_p0_50 fv_fz_p0_63 tsdv hq45_0 hP15 hS15 hl
              refine lv_iload hx hb dX9_walk_45 (lv_at hl 0 rfl) (lv_iload_n hx hb dX9_walk_47 rfl (lv_at hl 4 rfl) ?_)
              refine lv_icmp_ge (tgt := 90) hx hb dX9_walk_48 (by decide) (fun c_16 => ?_) (fun c_16 => ?_)
              · have tc_16 := q_ge c_16
                refine lv_aload_n hx hb dX9_walk_90 rfl (lv_at hl 2 rfl) (lv_dup hx hb dX9_walk_91 rfl ?_)
                obtain ⟨v_17, fv_17⟩ := OKX9_g64 ho_fz_p0
                refine qg_X9_64 hx hb hts i_X9 hown hK hP15 0 rfl k_9 fv_17 dX9_walk_92 (lv_iload_n hx hb dX9_walk_95 rfl (lv_at hl 1 rfl) (lv_iadd hx hb dX9_walk_96 (lv_topi fun v_18 ev_18 => qp_X9_64 hx hb hts i_X9 hown hK hP15 hDa za_r_walk hS15 0 rfl k_9 (OKX9_l ho_fz_p0) dX9_walk_97 (fun H19 lo19 fs19 efs19 (hP19 : va_P (dC, dI) vwCl (zW_r_walk p0 fs19 p0_bLong c_p0_bLong bz_p0_bLong p0_bTight c_p0_bTight bz_p0_bTight p0_code c_p0_code b_p0_code p0_codeNumber c_p0_codeNumber b_p0_codeNumber p0_laws c_p0_laws b_p0_laws p0_luck c_p0_luck b_p0_luck p0_pile c_p0_pile bz_p0_pile p0_rFrom c_p0_rFrom b_p0_rFrom p0_rTo c_p0_rTo b_p0_rTo p0_steps c_p0_steps b_p0_steps p0_strikes c_p0_strikes b_p0_strikes p0_swings c_p0_swings b_p0_swings p0_walks c_p0_walks b_p0_walks) H19) hS19 => ?_))))
                have ho19 := OKX9_p64 ho_fz_p0 efs19
                clear hP15 hS15
                refine lv_iload_n hx hb dX9_walk_100 rfl (lv_at hl 1 rfl) ?_
                exact q_iret hx hb hr hlocks hS19 dX9_walk_101 ⟨fs19, bz_p0_bLong, bz_p0_bTight, bz_p0_pile, ho19, (hf_fz_p0.st efs19 (by decide)), hP19, za_r_walk⟩
              · have tc_16 := q_ltN c_16
                refine lv_aload_n hx hb dX9_walk_51 rfl (lv_at hl 2 rfl) ?_
                obtain ⟨v_20, fv_20, tv_20⟩ := OKX9_g52 ho_fz_p0
                refine qg_X9_52 hx hb hts i_X9 hown hK hP15 0 rfl k_10 fv_20 dX9_walk_52 ?_
                refine lv_if_le (tgt := 90) hx hb dX9_walk_55 (by decide) (fun c_21 => ?_) (fun c_21 => ?_)
                · have tc_21 := q_le c_21
                  refine lv_aload_n hx hb dX9_walk_90 rfl (lv_at hl 2 rfl) (lv_dup hx hb dX9_walk_91 rfl ?_)
                  obtain ⟨v_22, fv_22⟩ := OKX9_g64 ho_fz_p0
                  refine qg_X9_64 hx hb hts i_X9 hown hK hP15 0 rfl k_9 fv_22 dX9_walk_92 (lv_iload_n hx hb dX9_walk_95 rfl (lv_at hl 1 rfl) (lv_iadd hx hb dX9_walk_96 (lv_topi fun v_23 ev_23 => qp_X9_64 hx hb hts i_X9 hown hK hP15 hDa za_r_walk hS15 0 rfl k_9 (OKX9_l ho_fz_p0) dX9_walk_97 (fun H24 lo24 fs24 efs24 (hP24 : va_P (dC, dI) vwCl (zW_r_walk p0 fs24 p0_bLong c_p0_bLong bz_p0_bLong p0_bTight c_p0_bTight bz_p0_bTight p0_code c_p0_code b_p0_code p0_codeNumber c_p0_codeNumber b_p0_codeNumber p0_laws c_p0_laws b_p0_laws p0_luck c_p0_luck b_p0_luck p0_pile c_p0_pile bz_p0_pile p0_rFrom c_p0_rFrom b_p0_rFrom p0_rTo c_p0_rTo b_p0_rTo p0_steps c_p0_steps b_p0_steps p0_strikes c_p0_strikes b_p0_strikes p0_swings c_p0_swings b_p0_swings p0_walks c_p0_walks b_p0_walks) H24) hS24 => ?_))))
                  have ho24 := OKX9_p64 ho_fz_p0 efs24
                  clear hP15 hS15
                  refine lv_iload_n hx hb dX9_walk_100 rfl (lv_at hl 1 rfl) ?_
                  exact q_iret hx hb hr hlocks hS24 dX9_walk_101 ⟨fs24, bz_p0_bLong, bz_p0_bTight, bz_p0_pile, ho24, (hf_fz_p0.st efs24 (by decide)), hP24, za_r_walk⟩
                · have tc_21 := q_gtN c_21
                  refine lv_aload_n hx hb dX9_walk_58 rfl (lv_at hl 2 rfl) ?_
                  obtain ⟨v_25, fv_25⟩ := OKX9_g61 ho_fz_p0
                  refine qg_X9_61 hx hb hts i_X9 hown hK hP15 0 rfl k_11 fv_25 dX9_walk_59 (lv_iload_n hx hb dX9_walk_62 rfl (lv_at hl 3 rfl) ?_)
                  refine lv_icmp_eq (tgt := 71) hx hb dX9_walk_63 (by decide) (fun c_26 => ?_) (fun c_26 => ?_)
                  · have tc_26 := q_eq c_26
                    refine lv_aload_n hx hb dX9_walk_71 rfl (lv_at hl 2 rfl) (lv_iload_n hx hb dX9_walk_72 rfl (lv_at hl 3 rfl) (qp_X9_61 hx hb hts i_X9 hown hK hP15 hDa za_r_walk hS15 0 rfl k_11 (OKX9_l ho_fz_p0) dX9_walk_73 (fun H27 lo27 fs27 efs27 (hP27 : va_P (dC, dI) vwCl (zW_r_walk p0 fs27 p0_bLong c_p0_bLong bz_p0_bLong p0_bTight c_p0_bTight bz_p0_bTight p0_code c_p0_code b_p0_code p0_codeNumber c_p0_codeNumber b_p0_codeNumber p0_laws c_p0_laws b_p0_laws p0_luck c_p0_luck b_p0_luck p0_pile c_p0_pile bz_p0_pile p0_rFrom c_p0_rFrom b_p0_rFrom p0_rTo c_p0_rTo b_p0_rTo p0_steps c_p0_steps b_p0_steps p0_strikes c_p0_strikes b_p0_strikes p0_swings c_p0_swings b_p0_swings p0_walks c_p0_walks b_p0_walks) H27) hS27 => ?_)))
                    have ho27 := OKX9_p61 ho_fz_p0 efs27
                    clear hP15 hS15
                    refine lv_iload_n hx hb dX9_walk_76 rfl (lv_at hl 1 rfl) (lv_aload_n hx hb dX9_walk_77 rfl (lv_at hl 2 rfl) (lv_iload_n hx hb dX9_walk_78 rfl (lv_at hl 3 rfl) ?_))
                    refine q_cVi (As := [.int a1]) (rest := [.int sm]) q_w0 trivial hK hP27 hDa za_r_walk hS27 hA [0, 1, 2, 3, 4, 5, 6, 7, 8, 9, 10, 11, 12, 13] [0, 1, 2, 3, 4, 5, 6, 7, 8, 9, 10, 11, 12] (by decide +kernel) ⟨hx, hb, hml, hown, hts⟩ (r_earnest l dC dI H27.size p0 fs27 p0_bLong c_p0_bLong bz_p0_bLong p0_bTight c_p0_bTight bz_p0_bTight p0_code c_p0_code b_p0_code p0_codeNumber c_p0_codeNumber b_p0_codeNumber p0_laws c_p0_laws b_p0_laws p0_luck c_p0_luck b_p0_luck p0_pile c_p0_pile bz_p0_pile p0_rFrom c_p0_rFrom b_p0_rFrom p0_rTo c_p0_rTo b_p0_rTo p0_steps c_p0_steps b_p0_steps p0_strikes c_p0_strikes b_p0_strikes p0_swings c_p0_swings b_p0_swings p0_walks c_p0_walks b_p0_walks a1 sdv bk ho27 ((q_sn efs27 (by decide) fr_fz_p0_13)) ((q_sn efs27 (by decide) fr_fz_p0_14)) ((q_sn efs27 (by decide) fr_fz_p0_17)) ((q_sn efs27 (by decide) fr_fz_p0_31)) ((q_sn efs27 (by decide) fr_fz_p0_32)) ((q_sn efs27 (by decide) fr_fz_p0_33)) ((q_sn efs27 (by decide) fr_fz_p0_36)) ((q_sn efs27 (by decide) fr_fz_p0_37)) ((q_sn efs27 (by decide) fr_fz_p0_38)) ((q_sn efs27 (by decide) fr_fz_p0_39)) ((q_sn efs27 (by decide) fr_fz_p0_42)) ((q_sn efs27 (by decide) fr_fz_p0_49)) ((q_sn efs27 (by decide) fr_fz_p0_50)) hr_p0_laws hr_p0_luck hr_p0_rFrom hr_p0_rTo hr_p0_steps hr_p0_walks ((q_sn efs27 (by decide) fv_fz_p0_63)) ((q_sn efs27 (by decide) fh_fz_p0_43)) ((by omega)) hWB hLB ((by omega)) ((by omega)) ((by omega))) rfl rfl (cwV 1 hts (p1_gV m_12 m_13 m_14 m_4 g_r_earnest gz_r_earnest) rfl rfl rfl (by decide +kernel) ⟨by decide, by decide⟩) (va_recv hK hP27 (ci := 8) (q0 := 0) rfl rfl) zm_r_earnest rfl hl.1 rfl (Nat.le_of_ble_eq_true rfl) dX9_walk_79 ⟨by decide, by decide⟩ (fun r_28 H29 lo29 hG29 hS29 => ?_)
                    obtain ⟨o_30, o_31, o_32, o_33, o_34, ho_35, hf_36, z_37, z_38, hQ29⟩ := hG29
                    have hP29 : va_P (dC, dI) vwCl (zW_r_walk p0 o_30 p0_bLong c_p0_bLong o_31 p0_bTight c_p0_bTight o_32 p0_code c_p0_code b_p0_code p0_codeNumber c_p0_codeNumber b_p0_codeNumber p0_laws c_p0_laws b_p0_laws p0_luck c_p0_luck b_p0_luck p0_pile c_p0_pile o_33 p0_rFrom c_p0_rFrom b_p0_rFrom p0_rTo c_p0_rTo b_p0_rTo p0_steps c_p0_steps b_p0_steps p0_strikes c_p0_strikes b_p0_strikes p0_swings c_p0_swings b_p0_swings p0_walks c_p0_walks b_p0_walks) H29 := hQ29
                    clear hQ29 hP27 hS27
                    refine lv_iadd hx hb dX9_walk_82 (lv_topi fun v_39 ev_39 => lv_istore_n (lv' := [(3, .int v_39), (4, .int k), (0, .ref p0), (1, .int a1), (2, .int a2)]) hx hb dX9_walk_83 rfl hl (by decide) rfl (fun ls hl => ?_))
                    obtain ⟨v_40, ev_40⟩ : ∃ y : Int32, y = k + 1 := ⟨_, rfl⟩
                    have tv_40 := q_add ev_40 (by omega) (by omega)
                    refine lv_iinc (v := v_40) (lv' := [(4, .int v_40), (3, .int v_39), (0, .ref p0), (1, .int a1), (2, .int a2)]) hx hb dX9_walk_84 hl (k := 1) rfl (by rw [ev_40]; rfl) (by decide) rfl (fun ls hl => ?_)
                    refine lv_goto (tgt := 45) hx hb dX9_walk_87 (by decide) ?_
                    exact ih45 (fu45 - 1) (by omega) v_39 v_40 o_30 o_34 o_31 o_32 o_33 _ _ _ (by omega) (by omega) ho_35 ((hf_fz_p0.st efs27 (by decide)).tr hf_36 (by decide)) (hf_36.u (by decide) (q_sn efs27 (by decide) fr_fz_p0_13)) (hf_36.u (by decide) (q_sn efs27 (by decide) fr_fz_p0_14)) (hf_36.u (by decide) (q_sn efs27 (by decide) fr_fz_p0_17)) (hf_36.u (by decide) (q_sn efs27 (by decide) fr_fz_p0_31)) (hf_36.u (by decide) (q_sn efs27 (by decide) fr_fz_p0_32)) (hf_36.u (by decide) (q_sn efs27 (by decide) fr_fz_p0_33)) (hf_36.u (by decide) (q_sn efs27 (by decide) fr_fz_p0_36)) (hf_36.u (by decide) (q_sn efs27 (by decide) fr_fz_p0_37)) (hf_36.u (by decide) (q_sn efs27 (by decide) fr_fz_p0_38)) (hf_36.u (by decide) (q_sn efs27 (by decide) fr_fz_p0_39)) (hf_36.u (by decide) (q_sn efs27 (by decide) fr_fz_p0_42)) (hf_36.u (by decide) (q_sn efs27 (by decide) fh_fz_p0_43)) (hf_36.u (by decide) (q_sn efs27 (by decide) fr_fz_p0_49)) (hf_36.u (by decide) (q_sn efs27 (by decide) fr_fz_p0_50)) z_37 (by omega) (by omega) hP29 hS29 (lv_sub hl [0, 1, 2, 3, 4] rfl)
                  · have tc_26 := q_neN c_26
                    refine lv_aload_n hx hb dX9_walk_66 rfl (lv_at hl 2 rfl) (lv_iconst (v := 0) hx hb dX9_walk_67 (by decide) (qp_X9_62 hx hb hts i_X9 hown hK hP15 hDa za_r_walk hS15 0 rfl k_15 (OKX9_l ho_fz_p0) dX9_walk_68 (fun H41 lo41 fs41 efs41 (hP41 : va_P (dC, dI) vwCl (zW_r_walk p0 fs41 p0_bLong c_p0_bLong bz_p0_bLong p0_bTight c_p0_bTight bz_p0_bTight p0_code c_p0_code b_p0_code p0_codeNumber c_p0_codeNumber b_p0_codeNumber p0_laws c_p0_laws b_p0_laws p0_luck c_p0_luck b_p0_luck p0_pile c_p0_pile bz_p0_pile p0_rFrom c_p0_rFrom b_p0_rFrom p0_rTo c_p0_rTo b_p0_rTo p0_steps c_p0_steps b_p0_steps p0_strikes c_p0_strikes b_p0_strikes p0_swings c_p0_swings b_p0_swings p0_walks c_p0_walks b_p0_walks) H41) hS41 => ?_)))
                    have ho41 := OKX9_p62 ho_fz_p0 efs41 fv_fz_p0_63 ⟨by omega, by omega, by omega⟩
                    clear hP15 hS15
                    refine lv_aload_n hx hb dX9_walk_71 rfl (lv_at hl 2 rfl) (lv_iload_n hx hb dX9_walk_72 rfl (lv_at hl 3 rfl) (qp_X9_61 hx hb hts i_X9 hown hK hP41 hDa za_r_walk hS41 0 rfl k_11 (OKX9_l ho41) dX9_walk_73 (fun H42 lo42 fs42 efs42 (hP42 : va_P (dC, dI) vwCl (zW_r_walk p0 fs42 p0_bLong c_p0_bLong bz_p0_bLong p0_bTight c_p0_bTight bz_p0_bTight p0_code c_p0_code b_p0_code p0_codeNumber c_p0_codeNumber b_p0_codeNumber p0_laws c_p0_laws b_p0_laws p0_luck c_p0_luck b_p0_luck p0_pile c_p0_pile bz_p0_pile p0_rFrom c_p0_rFrom b_p0_rFrom p0_rTo c_p0_rTo b_p0_rTo p0_steps c_p0_steps b_p0_steps p0_strikes c_p0_strikes b_p0_strikes p0_swings c_p0_swings b_p0_swings p0_walks c_p0_walks b_p0_walks) H42) hS42 => ?_)))
                    have ho42 := OKX9_p61 ho41 efs42
                    clear hP41 hS41
                    refine lv_iload_n hx hb dX9_walk_76 rfl (lv_at hl 1 rfl) (lv_aload_n hx hb dX9_walk_77 rfl (lv_at hl 2 rfl) (lv_iload_n hx hb dX9_walk_78 rfl (lv_at hl 3 rfl) ?_))
                    refine q_cVi (As := [.int a1]) (rest := [.int sm]) q_w0 trivial hK hP42 hDa za_r_walk hS42 hA [0, 1, 2, 3, 4, 5, 6, 7, 8, 9, 10, 11, 12, 13] [0, 1, 2, 3, 4, 5, 6, 7, 8, 9, 10, 11, 12] (by decide +kernel) ⟨hx, hb, hml, hown, hts⟩ (r_earnest l dC dI H42.size p0 fs42 p0_bLong c_p0_bLong bz_p0_bLong p0_bTight c_p0_bTight bz_p0_bTight p0_code c_p0_code b_p0_code p0_codeNumber c_p0_codeNumber b_p0_codeNumber p0_laws c_p0_laws b_p0_laws p0_luck c_p0_luck b_p0_luck p0_pile c_p0_pile bz_p0_pile p0_rFrom c_p0_rFrom b_p0_rFrom p0_rTo c_p0_rTo b_p0_rTo p0_steps c_p0_steps b_p0_steps p0_strikes c_p0_strikes b_p0_strikes p0_swings c_p0_swings b_p0_swings p0_walks c_p0_walks b_p0_walks a1 sdv bk ho42 ((q_sn efs42 (by decide) (q_sn efs41 (by decide) fr_fz_p0_13))) ((q_sn efs42 (by decide) (q_sn efs41 (by decide) fr_fz_p0_14))) ((q_sn efs42 (by decide) (q_sn efs41 (by decide) fr_fz_p0_17))) ((q_sn efs42 (by decide) (q_sn efs41 (by decide) fr_fz_p0_31))) ((q_sn efs42 (by decide) (q_sn efs41 (by decide) fr_fz_p0_32))) ((q_sn efs42 (by decide) (q_sn efs41 (by decide) fr_fz_p0_33))) ((q_sn efs42 (by decide) (q_sn efs41 (by decide) fr_fz_p0_36))) ((q_sn efs42 (by decide) (q_sn efs41 (by decide) fr_fz_p0_37))) ((q_sn efs42 (by decide) (q_sn efs41 (by decide) fr_fz_p0_38))) ((q_sn efs42 (by decide) (q_sn efs41 (by decide) fr_fz_p0_39))) ((q_sn efs42 (by decide) (q_sn efs41 (by decide) fr_fz_p0_42))) ((q_sn efs42 (by decide) (q_sn efs41 (by decide) fr_fz_p0_49))) ((q_sn efs42 (by decide) (q_sn efs41 (by decide) fr_fz_p0_50))) hr_p0_laws hr_p0_luck hr_p0_rFrom hr_p0_rTo hr_p0_steps hr_p0_walks ((q_sn efs42 (by decide) (q_sn efs41 (by decide) fv_fz_p0_63))) ((q_sn efs42 (by decide) (q_sn efs41 (by decide) fh_fz_p0_43))) ((by omega)) hWB hLB ((by omega)) ((by omega)) ((by omega))) rfl rfl (cwV 1 hts (p1_gV m_12 m_13 m_14 m_4 g_r_earnest gz_r_earnest) rfl rfl rfl (by decide +kernel) ⟨by decide, by decide⟩) (va_recv hK hP42 (ci := 8) (q0 := 0) rfl rfl) zm_r_earnest rfl hl.1 rfl (Nat.le_of_ble_eq_true rfl) dX9_walk_79 ⟨by decide, by decide⟩ (fun r_43 H44 lo44 hG44 hS44 => ?_)
                    obtain ⟨o_45, o_46, o_47, o_48, o_49, ho_50, hf_51, z_52, z_53, hQ44⟩ := hG44
                    have hP44 : va_P (dC, dI) vwCl (zW_r_walk p0 o_45 p0_bLong c_p0_bLong o_46 p0_bTight c_p0_bTight o_47 p0_code c_p0_code b_p0_code p0_codeNumber c_p0_codeNumber b_p0_codeNumber p0_laws c_p0_laws b_p0_laws p0_luck c_p0_luck b_p0_luck p0_pile c_p0_pile o_48 p0_rFrom c_p0_rFrom b_p0_rFrom p0_rTo c_p0_rTo b_p0_rTo p0_steps c_p0_steps b_p0_steps p0_strikes c_p0_strikes b_p0_strikes p0_swings c_p0_swings b_p0_swings p0_walks c_p0_walks b_p0_walks) H44 := hQ44
                    clear hQ44 hP42 hS42
                    refine lv_iadd hx hb dX9_walk_82 (lv_topi fun v_54 ev_54 => lv_istore_n (lv' := [(3, .int v_54), (4, .int k), (0, .ref p0), (1, .int a1), (2, .int a2)]) hx hb dX9_walk_83 rfl hl (by decide) rfl (fun ls hl => ?_))
                    obtain ⟨v_55, ev_55⟩ : ∃ y : Int32, y = k + 1 := ⟨_, rfl⟩
                    have tv_55 := q_add ev_55 (by omega) (by omega)
                    refine lv_iinc (v := v_55) (lv' := [(4, .int v_55), (3, .int v_54), (0, .ref p0), (1, .int a1), (2, .int a2)]) hx hb dX9_walk_84 hl (k := 1) rfl (by rw [ev_55]; rfl) (by decide) rfl (fun ls hl => ?_)
                    refine lv_goto (tgt := 45) hx hb dX9_walk_87 (by decide) ?_
                    exact ih45 (fu45 - 1) (by omega) v_54 v_55 o_45 o_49 o_46 o_47 o_48 _ _ _ (by omega) (by omega) ho_50 (((hf_fz_p0.st efs41 (by decide)).st efs42 (by decide)).tr hf_51 (by decide)) (hf_51.u (by decide) (q_sn efs42 (by decide) (q_sn efs41 (by decide) fr_fz_p0_13))) (hf_51.u (by decide) (q_sn efs42 (by decide) (q_sn efs41 (by decide) fr_fz_p0_14))) (hf_51.u (by decide) (q_sn efs42 (by decide) (q_sn efs41 (by decide) fr_fz_p0_17))) (hf_51.u (by decide) (q_sn efs42 (by decide) (q_sn efs41 (by decide) fr_fz_p0_31))) (hf_51.u (by decide) (q_sn efs42 (by decide) (q_sn efs41 (by decide) fr_fz_p0_32))) (hf_51.u (by decide) (q_sn efs42 (by decide) (q_sn efs41 (by decide) fr_fz_p0_33))) (hf_51.u (by decide) (q_sn efs42 (by decide) (q_sn efs41 (by decide) fr_fz_p0_36))) (hf_51.u (by decide) (q_sn efs42 (by decide) (q_sn efs41 (by decide) fr_fz_p0_37))) (hf_51.u (by decide) (q_sn efs42 (by decide) (q_sn efs41 (by decide) fr_fz_p0_38))) (hf_51.u (by decide) (q_sn efs42 (by decide) (q_sn efs41 (by decide) fr_fz_p0_39))) (hf_51.u (by decide) (q_sn efs42 (by decide) (q_sn efs41 (by decide) fr_fz_p0_42))) (hf_51.u (by decide) (q_sn efs42 (by decide) (q_sn efs41 (by decide) fh_fz_p0_43))) (hf_51.u (by decide) (q_sn efs42 (by decide) (q_sn efs41 (by decide) fr_fz_p0_49))) (hf_51.u (by decide) (q_sn efs42 (by decide) (q_sn efs41 (by decide) fr_fz_p0_50))) z_52 (by omega) (by omega) hP44 hS44 (lv_sub hl [0, 1, 2, 3, 4] rfl)
          exact key45 500 0 0 f_p0 v_12 b_p0_bLong b_p0_bTight b_p0_pile _ _ _ (by omega) (by omega) ho_p0 q_fr.rf fr_p0_13 fr_p0_14 fr_p0_17 fr_p0_31 fr_p0_32 fr_p0_33 fr_p0_36 fr_p0_37 fr_p0_38 fr_p0_39 fr_p0_42 pf_bk fr_p0_49 fr_p0_50 fv_12 (by omega) (by omega) hP8 hS8 (lv_sub hl [0, 1, 2, 3, 4] rfl)
        · have tc_14 := q_gtN c_14
          refine lv_iconst (v := (-1)) hx hb dX9_walk_38 (by decide) ?_
          exact q_iret hx hb hr hlocks hS8 dX9_walk_39 ⟨f_p0, b_p0_bLong, b_p0_bTight, b_p0_pile, ho_p0, q_fr.rf, hP8, za_r_walk⟩
      · refine lv_if_eq (tgt := 38) hx hb dX9_walk_23 (by decide) (fun c_56 => ?_) (fun c_56 => absurd c_56 (by decide))
        refine lv_iconst (v := (-1)) hx hb dX9_walk_38 (by decide) ?_
        exact q_iret hx hb hr hlocks hS8 dX9_walk_39 ⟨f_p0, b_p0_bLong, b_p0_bTight, b_p0_pile, ho_p0, q_fr.rf, hP8, za_r_walk⟩
    · refine lv_if_eq (tgt := 38) hx hb dX9_walk_12 (by decide) (fun c_57 => ?_) (fun c_57 => absurd c_57 (by decide))
      refine lv_iconst (v := (-1)) hx hb dX9_walk_38 (by decide) ?_
      exact q_iret hx hb hr hlocks hS4 dX9_walk_39 ⟨f_p0, b_p0_bLong, b_p0_bTight, b_p0_pile, ho_p0, q_fr.rf, hP4, za_r_walk⟩
