def zo_r_back : List Cond := [.code yX9_back cX9_back 2 (some .int), .methodLink RX9 389 yX9_isIn, .static yX9_isIn, .initialized RX9, .fieldLink RX9 158 "BowWalkModel" "boxMany" "[I", .methodLink RX9 478 yX9_bring, .instanceMethod yX9_bring, .selects RX9 yX9_bring yX9_bring, .fieldLink RX9 297 "BowWalkModel" "hasBow" "Z", .fieldLink RX9 396 "BowWalkModel" "bMany" "I"]
def zw_r_back : List Cond := zo_r_back ++ (zw_r_isIn ++ (zw_r_bring ++ (wsX90 ++ [])))
theorem gz_r_back : zw_r_back.all goodWord = true := p1_ga (by decide +kernel) (p1_ga gz_r_isIn (p1_ga gz_r_bring (p1_ga gk_X9 p1_g0)))
theorem iz_r_back : ∀ w ∈ zw_r_back, w ∈ lw_tbl := p1_ia (p1_all [1684, 1439, 1440, 116, 1115, 1554, 1556, 93, 1097, 1089] (by decide +kernel)) (p1_ia iz_r_isIn (p1_ia iz_r_bring (p1_ia ik_X9 p1_i0)))
def zW_r_back (p0 : Nat) (f_p0 : List Value) (p0_bLong : Nat) (c_p0_bLong : ClassId) (b_p0_bLong : Nat → Int32) (p0_bTight : Nat) (c_p0_bTight : ClassId) (b_p0_bTight : Nat → Int32) (p0_boxMany : Nat) (c_p0_boxMany : ClassId) (b_p0_boxMany : Nat → Int32) (p0_boxRow : Nat) (c_p0_boxRow : ClassId) (b_p0_boxRow : Nat → Int32) (p0_boxTight : Nat) (c_p0_boxTight : ClassId) (b_p0_boxTight : Nat → Int32) : va_W := [(p0, .inr (8, f_p0)), (p0_bLong, .inl (c_p0_bLong, 2, .inl b_p0_bLong)), (p0_bTight, .inl (c_p0_bTight, 12, .inl b_p0_bTight)), (p0_boxMany, .inl (c_p0_boxMany, 4, .inl b_p0_boxMany)), (p0_boxRow, .inl (c_p0_boxRow, 48, .inl b_p0_boxRow)), (p0_boxTight, .inl (c_p0_boxTight, 48, .inl b_p0_boxTight))]
def zT_r_back (c_p0_bLong : ClassId) (c_p0_bTight : ClassId) (c_p0_boxMany : ClassId) (c_p0_boxRow : ClassId) (c_p0_boxTight : ClassId) : List (ClassId × FieldType) := [(c_p0_bLong, .int), (c_p0_bTight, .int), (c_p0_boxMany, .int), (c_p0_boxRow, .int), (c_p0_boxTight, .int)]
def zA_r_back (p0 : Nat) (p0_bLong : Nat) (p0_bTight : Nat) (p0_boxMany : Nat) (p0_boxRow : Nat) (p0_boxTight : Nat) : List Nat := [p0, p0_bLong, p0_bTight, p0_boxMany, p0_boxRow, p0_boxTight]
theorem za_r_back {p0 : Nat} {f_p0 : List Value} {p0_bLong : Nat} {c_p0_bLong : ClassId} {b_p0_bLong : Nat → Int32} {p0_bTight : Nat} {c_p0_bTight : ClassId} {b_p0_bTight : Nat → Int32} {p0_boxMany : Nat} {c_p0_boxMany : ClassId} {b_p0_boxMany : Nat → Int32} {p0_boxRow : Nat} {c_p0_boxRow : ClassId} {b_p0_boxRow : Nat → Int32} {p0_boxTight : Nat} {c_p0_boxTight : ClassId} {b_p0_boxTight : Nat → Int32} : (zW_r_back p0 f_p0 p0_bLong c_p0_bLong b_p0_bLong p0_bTight c_p0_bTight b_p0_bTight p0_boxMany c_p0_boxMany b_p0_boxMany p0_boxRow c_p0_boxRow b_p0_boxRow p0_boxTight c_p0_boxTight b_p0_boxTight).map Prod.fst = (zA_r_back p0 p0_bLong p0_bTight p0_boxMany p0_boxRow p0_boxTight) := rfl
def zG_r_back (p0 : Nat) (f_p0 : List Value) (p0_bLong : Nat) (c_p0_bLong : ClassId) (b_p0_bLong : Nat → Int32) (p0_bTight : Nat) (c_p0_bTight : ClassId) (b_p0_bTight : Nat → Int32) (p0_boxMany : Nat) (c_p0_boxMany : ClassId) (b_p0_boxMany : Nat → Int32) (p0_boxRow : Nat) (c_p0_boxRow : ClassId) (b_p0_boxRow : Nat → Int32) (p0_boxTight : Nat) (c_p0_boxTight : ClassId) (b_p0_boxTight : Nat → Int32) (a1 : Int32) (r : Int32) (X : va_W → Prop) : Prop := ∃ (y_p0 : List Value) (y_p0_bLong : Nat → Int32) (y_p0_bTight : Nat → Int32), OKX9 y_p0 ∧ q_fr [51, 52, 53, 54, 55, 60, 61, 62, 63, 64, 65] f_p0 y_p0 ∧ X (zW_r_back p0 y_p0 p0_bLong c_p0_bLong y_p0_bLong p0_bTight c_p0_bTight y_p0_bTight p0_boxMany c_p0_boxMany b_p0_boxMany p0_boxRow c_p0_boxRow b_p0_boxRow p0_boxTight c_p0_boxTight b_p0_boxTight)
theorem zm_r_back {p0 : Nat} {f_p0 : List Value} {p0_bLong : Nat} {c_p0_bLong : ClassId} {b_p0_bLong : Nat → Int32} {p0_bTight : Nat} {c_p0_bTight : ClassId} {b_p0_bTight : Nat → Int32} {p0_boxMany : Nat} {c_p0_boxMany : ClassId} {b_p0_boxMany : Nat → Int32} {p0_boxRow : Nat} {c_p0_boxRow : ClassId} {b_p0_boxRow : Nat → Int32} {p0_boxTight : Nat} {c_p0_boxTight : ClassId} {b_p0_boxTight : Nat → Int32} {a1 : Int32} : ∀ (r : Int32), ∀ X Y : va_W → Prop, (∀ w, X w → Y w) → zG_r_back p0 f_p0 p0_bLong c_p0_bLong b_p0_bLong p0_bTight c_p0_bTight b_p0_bTight p0_boxMany c_p0_boxMany b_p0_boxMany p0_boxRow c_p0_boxRow b_p0_boxRow p0_boxTight c_p0_boxTight b_p0_boxTight a1 r X → zG_r_back p0 f_p0 p0_bLong c_p0_bLong b_p0_bLong p0_bTight c_p0_bTight b_p0_bTight p0_boxMany c_p0_boxMany b_p0_boxMany p0_boxRow c_p0_boxRow b_p0_boxRow p0_boxTight c_p0_boxTight b_p0_boxTight a1 r Y := fun r X Y h h1 => by obtain ⟨x0, x1, x2, x3, x4, hx⟩ := h1; exact ⟨x0, x1, x2, x3, x4, h _ hx⟩
set_option maxHeartbeats 4000000 in
set_option maxRecDepth 100000 in
theorem r_back (l : Launch) (dC : Nat → ClassId) (dI : Nat → Nat → Nat) (sz : Nat) (p0 : Nat) (f_p0 : List Value) (p0_bLong : Nat) (c_p0_bLong : ClassId) (b_p0_bLong : Nat → Int32) (p0_bTight : Nat) (c_p0_bTight : ClassId) (b_p0_bTight : Nat → Int32) (p0_boxMany : Nat) (c_p0_boxMany : ClassId) (b_p0_boxMany : Nat → Int32) (p0_boxRow : Nat) (c_p0_boxRow : ClassId) (b_p0_boxRow : Nat → Int32) (p0_boxTight : Nat) (c_p0_boxTight : ClassId) (b_p0_boxTight : Nat → Int32) (a1 : Int32) (ho_p0 : OKX9 f_p0) (fr_p0_49 : q_rf f_p0 49 p0_bTight) (fr_p0_50 : q_rf f_p0 50 p0_bLong) (fr_p0_78 : q_rf f_p0 78 p0_boxMany) (fr_p0_79 : q_rf f_p0 79 p0_boxRow) (fr_p0_80 : q_rf f_p0 80 p0_boxTight) (hr_p0_boxMany : q_rg 4 (-1) 12 b_p0_boxMany) (hr_p0_boxRow : q_box b_p0_boxRow) : Met l yX9_back zw_r_back ({ frames := 1, cells := 0, slots := 0, locals := 23 }) (va_Pc [.ref p0, .int a1] (q_pre (dC, dI) (zW_r_back p0 f_p0 p0_bLong c_p0_bLong b_p0_bLong p0_bTight c_p0_bTight b_p0_bTight p0_boxMany c_p0_boxMany b_p0_boxMany p0_boxRow c_p0_boxRow b_p0_boxRow p0_boxTight c_p0_boxTight b_p0_boxTight) (zT_r_back c_p0_bLong c_p0_bTight c_p0_boxMany c_p0_boxRow c_p0_boxTight) q_E0 sz)) (q_Qi (dC, dI) (zG_r_back p0 f_p0 p0_bLong c_p0_bLong b_p0_bLong p0_bTight c_p0_bTight b_p0_bTight p0_boxMany c_p0_boxMany b_p0_boxMany p0_boxRow c_p0_boxRow b_p0_boxRow p0_boxTight c_p0_boxTight b_p0_boxTight a1) (zA_r_back p0 p0_bLong p0_bTight p0_boxMany p0_boxRow p0_boxTight) (va_A (zW_r_back p0 f_p0 p0_bLong c_p0_bLong b_p0_bLong p0_bTight c_p0_bTight b_p0_bTight p0_boxMany c_p0_boxMany b_p0_boxMany p0_boxRow c_p0_boxRow b_p0_boxRow p0_boxTight c_p0_boxTight b_p0_boxTight) sz)) 0 0 (va_A (zW_r_back p0 f_p0 p0_bLong c_p0_bLong b_p0_bLong p0_bTight c_p0_bTight b_p0_bTight p0_boxMany c_p0_boxMany b_p0_boxMany p0_boxRow c_p0_boxRow b_p0_boxRow p0_boxTight c_p0_boxTight b_p0_boxTight) sz) := by
  refine Met.ofW (cc := cX9_back) (maxL := 2) (ret := (some .int)) (by decide) rfl ?_
  intro p e s m args below meth c s₁ B hml hv
  obtain ⟨rfl, hsz, hP, hK, hD0, hE⟩ := hv
  have hx := B.exec
  have hb := B.bytes
  have hr := B.returns
  have hts := atoms_spec (ws := zw_r_back) B.pre
  have hown : s.vm.findClass RX9 = some m.cls := findClass_of_methodNamed B.named
  have hlocks := B.notSynchronized
  subst hsz
  have hD := hD0.self (sz := s.heap.size)
  generalize hAe : va_A (zW_r_back p0 f_p0 p0_bLong c_p0_bLong b_p0_bLong p0_bTight c_p0_bTight b_p0_bTight p0_boxMany c_p0_boxMany b_p0_boxMany p0_boxRow c_p0_boxRow b_p0_boxRow p0_boxTight c_p0_boxTight b_p0_boxTight) s.heap.size = A at hD hE ⊢
  have hA : ∀ q : Nat, s.heap.size ≤ q → A q := fun q h => by rw [← hAe]; exact Or.inr h
  have hDa : q_DA A (zA_r_back p0 p0_bLong p0_bTight p0_boxMany p0_boxRow p0_boxTight) := q_DA.mk hD za_r_back
  clear hAe hD0 hD
  have hS : va_S A s.heap s.heap [] := va_S.rf
  have m_0 : (.methodLink RX9 389 yX9_isIn : Cond) ∈ zw_r_back := List.mem_append_left _ (List.mem_of_getElem? (i := 1) rfl)
  have k_0 := hts _ m_0
  have m_1 : (.static yX9_isIn : Cond) ∈ zw_r_back := List.mem_append_left _ (List.mem_of_getElem? (i := 2) rfl)
  have k_1 := hts _ m_1
  have m_2 : (.initialized RX9 : Cond) ∈ zw_r_back := List.mem_append_left _ (List.mem_of_getElem? (i := 3) rfl)
  have k_2 := hts _ m_2
  have m_3 : (.fieldLink RX9 158 "BowWalkModel" "boxMany" "[I" : Cond) ∈ zw_r_back := List.mem_append_left _ (List.mem_of_getElem? (i := 4) rfl)
  have k_3 := hts _ m_3
  have m_4 : (.methodLink RX9 478 yX9_bring : Cond) ∈ zw_r_back := List.mem_append_left _ (List.mem_of_getElem? (i := 5) rfl)
  have k_4 := hts _ m_4
  have m_5 : (.instanceMethod yX9_bring : Cond) ∈ zw_r_back := List.mem_append_left _ (List.mem_of_getElem? (i := 6) rfl)
  have k_5 := hts _ m_5
  have m_6 : (.selects RX9 yX9_bring yX9_bring : Cond) ∈ zw_r_back := List.mem_append_left _ (List.mem_of_getElem? (i := 7) rfl)
  have k_6 := hts _ m_6
  have m_7 : (.fieldLink RX9 297 "BowWalkModel" "hasBow" "Z" : Cond) ∈ zw_r_back := List.mem_append_left _ (List.mem_of_getElem? (i := 8) rfl)
  have k_7 := hts _ m_7
  have m_8 : (.fieldLink RX9 396 "BowWalkModel" "bMany" "I" : Cond) ∈ zw_r_back := List.mem_append_left _ (List.mem_of_getElem? (i := 9) rfl)
  have k_8 := hts _ m_8
  have g_r_isIn : ∀ w ∈ zw_r_isIn, w ∈ zw_r_back := fun w h => List.mem_append_right _ (List.mem_append_left _ h)
  have g_r_bring : ∀ w ∈ zw_r_bring, w ∈ zw_r_back := fun w h => List.mem_append_right _ (List.mem_append_right _ (List.mem_append_left _ h))
  have i_X9 : ∀ w ∈ u_ws RX9 TX9 81, w ∈ zw_r_back := fun w h => List.mem_append_right _ (List.mem_append_right _ (List.mem_append_right _ (List.mem_append_left _ h)))
  have lt_m1 : ((-1) : Int32).toInt = -1 := by decide
  have lt_0 : (0 : Int32).toInt = 0 := by decide
  have lt_1 : (1 : Int32).toInt = 1 := by decide
  have lt_2 : (2 : Int32).toInt = 2 := by decide
  have hl := lv_entry ([.ref p0, .int a1]) (n := 2) (Nat.le_of_ble_eq_true rfl)
  rw [lg_entry_eq]
  generalize (lg_sl ([.ref p0, .int a1]) ++ List.replicate (2 - (lg_sl ([.ref p0, .int a1])).length) Slot.unset).toArray = ls at hl ⊢
  have hl : lv_has ls 2 [(0, .ref p0), (1, .int a1)] := hl
  refine lv_iload_n hx hb dX9_back_0 rfl (lv_at hl 1 rfl) (lv_iconst (v := 0) hx hb dX9_back_1 (by decide) (lv_iconst (v := 2) hx hb dX9_back_2 (by decide) ?_))
  refine q_cSi (As := [.int a1, .int 0, .int 2]) (rest := []) q_w0 trivial hK hP hDa za_r_back hS hA [] [] (by decide +kernel) ⟨hx, hb, hml, hown, hts⟩ (r_isIn l dC dI s.heap.size a1 0 2) rfl rfl (va_cwS 3 hts (p1_gS m_0 m_1 m_2 g_r_isIn gz_r_isIn) rfl rfl rfl (by decide +kernel) ⟨by decide, by decide⟩) zm_r_isIn rfl hl.1 rfl (Nat.le_of_ble_eq_true rfl) dX9_back_3 ⟨by decide, by decide⟩ (fun r_1 H2 lo2 hG2 hS2 => ?_)
  obtain ⟨z_3, hQ2⟩ := hG2
  have hP2 : va_P (dC, dI) vwCl (zW_r_back p0 f_p0 p0_bLong c_p0_bLong b_p0_bLong p0_bTight c_p0_bTight b_p0_bTight p0_boxMany c_p0_boxMany b_p0_boxMany p0_boxRow c_p0_boxRow b_p0_boxRow p0_boxTight c_p0_boxTight b_p0_boxTight) H2 := hQ2
  clear hQ2 hP hS
  rcases z_3 with ⟨rfl, z_3⟩ | ⟨rfl, z_3⟩
  · refine lv_if_eq (tgt := 18) hx hb dX9_back_6 (by decide) (fun c_4 => absurd c_4 (by decide)) (fun c_4 => ?_)
    refine lv_aload_n hx hb dX9_back_9 rfl (lv_at hl 0 rfl) (qg_X9_78 hx hb hts i_X9 hown hK hP2 0 rfl k_3 fr_p0_78 dX9_back_10 (lv_iload_n hx hb dX9_back_13 rfl (lv_at hl 1 rfl) (q_ild hx hb hK hP2 3 2 rfl rfl (q_in (by omega) (by omega)) dX9_back_14 (fun v_5 ev_5 => ?_))))
    have uv_5 : v_5.toInt = (b_p0_boxMany a1.toNatClampNeg).toInt := by rw [ev_5]
    have tv_5 := q_rd' hr_p0_boxMany (q_in (by omega) (by omega)) ev_5
    refine lv_if_ge (tgt := 20) hx hb dX9_back_15 (by decide) (fun c_6 => ?_) (fun c_6 => ?_)
    · have tc_6 := q_ge c_6
      refine lv_aload_n hx hb dX9_back_20 rfl (lv_at hl 0 rfl) (lv_iload_n hx hb dX9_back_21 rfl (lv_at hl 1 rfl) ?_)
      refine q_cVv (As := [.int a1]) (rest := []) q_w0 trivial hK hP2 hDa za_r_back hS2 hA [0, 1, 2, 3, 4, 5] [0, 1, 2, 3, 4] (by decide +kernel) ⟨hx, hb, hml, hown, hts⟩ (r_bring l dC dI H2.size p0 f_p0 p0_bLong c_p0_bLong b_p0_bLong p0_bTight c_p0_bTight b_p0_bTight p0_boxMany c_p0_boxMany b_p0_boxMany p0_boxRow c_p0_boxRow b_p0_boxRow p0_boxTight c_p0_boxTight b_p0_boxTight a1 ho_p0 fr_p0_49 fr_p0_50 fr_p0_78 fr_p0_79 fr_p0_80 hr_p0_boxMany hr_p0_boxRow ((by omega)) ((by omega))) rfl rfl (cwV 1 hts (p1_gV m_4 m_5 m_6 m_2 g_r_bring gz_r_bring) rfl rfl rfl (by decide +kernel) ⟨by decide, by decide⟩) (va_recv hK hP2 (ci := 8) (q0 := 0) rfl rfl) zm_r_bring rfl hl.1 rfl (Nat.le_of_ble_eq_true rfl) dX9_back_22 ⟨by decide, by decide⟩ (fun H8 lo8 hG8 hS8 => ?_)
      obtain ⟨o_9, o_10, o_11, ho_12, hf_13, hQ8⟩ := hG8
      have hP8 : va_P (dC, dI) vwCl (zW_r_back p0 o_9 p0_bLong c_p0_bLong o_10 p0_bTight c_p0_bTight o_11 p0_boxMany c_p0_boxMany b_p0_boxMany p0_boxRow c_p0_boxRow b_p0_boxRow p0_boxTight c_p0_boxTight b_p0_boxTight) H8 := hQ8
      clear hQ8 hP2 hS2
      refine lv_aload_n hx hb dX9_back_25 rfl (lv_at hl 0 rfl) (lv_iconst (v := 1) hx hb dX9_back_26 (by decide) (qp_X9_60 hx hb hts i_X9 hown hK hP8 hDa za_r_back hS8 0 rfl k_7 rfl rfl (OKX9_l ho_12) dX9_back_27 (fun H14 lo14 fs14 efs14 (hP14 : va_P (dC, dI) vwCl (zW_r_back p0 fs14 p0_bLong c_p0_bLong o_10 p0_bTight c_p0_bTight o_11 p0_boxMany c_p0_boxMany b_p0_boxMany p0_boxRow c_p0_boxRow b_p0_boxRow p0_boxTight c_p0_boxTight b_p0_boxTight) H14) hS14 => ?_)))
      have ho14 := OKX9_p60 ho_12 efs14
      clear hP8 hS8
      refine lv_aload_n hx hb dX9_back_30 rfl (lv_at hl 0 rfl) ?_
      obtain ⟨v_15, fv_15, tv_15⟩ := OKX9_g52 ho14
      refine qg_X9_52 hx hb hts i_X9 hown hK hP14 0 rfl k_8 fv_15 dX9_back_31 ?_
      exact q_iret hx hb hr hlocks hS14 dX9_back_34 ⟨fs14, o_10, o_11, ho14, ((q_fr.rf.tr hf_13 (by decide)).st efs14 (by decide)), hP14, za_r_back⟩
    · have tc_6 := q_ltN c_6
      refine lv_iconst (v := (-1)) hx hb dX9_back_18 (by decide) ?_
      exact q_iret hx hb hr hlocks hS2 dX9_back_19 ⟨f_p0, b_p0_bLong, b_p0_bTight, ho_p0, q_fr.rf, hP2, za_r_back⟩
  · refine lv_if_eq (tgt := 18) hx hb dX9_back_6 (by decide) (fun c_16 => ?_) (fun c_16 => absurd c_16 (by decide))
    refine lv_iconst (v := (-1)) hx hb dX9_back_18 (by decide) ?_
    exact q_iret hx hb hr hlocks hS2 dX9_back_19 ⟨f_p0, b_p0_bLong, b_p0_bTight, ho_p0, q_fr.rf, hP2, za_r_back⟩
def zo_r_about : List Cond := [.code yX9_about cX9_about 2 (some .int), .fieldLink RX9 20 "BowWalkModel" "knots" "[I", .fieldLink RX9 291 "BowWalkModel" "bank" "I", .fieldLink RX9 24 "BowWalkModel" "cords" "[I", .fieldLink RX9 27 "BowWalkModel" "walks" "[I", .fieldLink RX9 30 "BowWalkModel" "laws" "[I", .fieldLink RX9 33 "BowWalkModel" "wants" "[I", .fieldLink RX9 301 "BowWalkModel" "films" "I", .fieldLink RX9 517 "BowWalkModel" "time" "I", .fieldLink RX9 288 "BowWalkModel" "taped" "I", .fieldLink RX9 125 "BowWalkModel" "w" "I", .fieldLink RX9 42 "BowWalkModel" "unitsOf" "[I"]
def zw_r_about : List Cond := zo_r_about ++ (wsX90 ++ [])
theorem gz_r_about : zw_r_about.all goodWord = true := p1_ga (by decide +kernel) (p1_ga gk_X9 p1_g0)
theorem iz_r_about : ∀ w ∈ zw_r_about, w ∈ lw_tbl := p1_ia (p1_all [1688, 1048, 1080, 1049, 1050, 1051, 1052, 1112, 1113, 1039, 1102, 1055] (by decide +kernel)) (p1_ia ik_X9 p1_i0)
def zW_r_about (p0 : Nat) (f_p0 : List Value) (p0_cords : Nat) (c_p0_cords : ClassId) (b_p0_cords : Nat → Int32) (p0_knots : Nat) (c_p0_knots : ClassId) (b_p0_knots : Nat → Int32) (p0_laws : Nat) (c_p0_laws : ClassId) (b_p0_laws : Nat → Int32) (p0_unitsOf : Nat) (c_p0_unitsOf : ClassId) (b_p0_unitsOf : Nat → Int32) (p0_walks : Nat) (c_p0_walks : ClassId) (b_p0_walks : Nat → Int32) (p0_wants : Nat) (c_p0_wants : ClassId) (b_p0_wants : Nat → Int32) : va_W := [(p0, .inr (8, f_p0)), (p0_cords, .inl (c_p0_cords, 2, .inl b_p0_cords)), (p0_knots, .inl (c_p0_knots, 2, .inl b_p0_knots)), (p0_laws, .inl (c_p0_laws, 2, .inl b_p0_laws)), (p0_unitsOf, .inl (c_p0_unitsOf, 2, .inl b_p0_unitsOf)), (p0_walks, .inl (c_p0_walks, 2, .inl b_p0_walks)), (p0_wants, .inl (c_p0_wants, 2, .inl b_p0_wants))]
def zT_r_about (c_p0_cords : ClassId) (c_p0_knots : ClassId) (c_p0_laws : ClassId) (c_p0_unitsOf : ClassId) (c_p0_walks : ClassId) (c_p0_wants : ClassId) : List (ClassId × FieldType) := [(c_p0_cords, .int), (c_p0_knots, .int), (c_p0_laws, .int), (c_p0_unitsOf, .int), (c_p0_walks, .int), (c_p0_wants, .int)]
def zA_r_about (p0 : Nat) (p0_cords : Nat) (p0_knots : Nat) (p0_laws : Nat) (p0_unitsOf : Nat) (p0_walks : Nat) (p0_wants : Nat) : List Nat := [p0, p0_cords, p0_knots, p0_laws, p0_unitsOf, p0_walks, p0_wants]
theorem za_r_about {p0 : Nat} {f_p0 : List Value} {p0_cords : Nat} {c_p0_cords : ClassId} {b_p0_cords : Nat → Int32} {p0_knots : Nat} {c_p0_knots : ClassId} {b_p0_knots : Nat → Int32} {p0_laws : Nat} {c_p0_laws : ClassId} {b_p0_laws : Nat → Int32} {p0_unitsOf : Nat} {c_p0_unitsOf : ClassId} {b_p0_unitsOf : Nat → Int32} {p0_walks : Nat} {c_p0_walks : ClassId} {b_p0_walks : Nat → Int32} {p0_wants : Nat} {c_p0_wants : ClassId} {b_p0_wants : Nat → Int32} : (zW_r_about p0 f_p0 p0_cords c_p0_cords b_p0_cords p0_knots c_p0_knots b_p0_knots p0_laws c_p0_laws b_p0_laws p0_unitsOf c_p0_unitsOf b_p0_unitsOf p0_walks c_p0_walks b_p0_walks p0_wants c_p0_wants b_p0_wants).map Prod.fst = (zA_r_about p0 p0_cords p0_knots p0_laws p0_unitsOf p0_walks p0_wants) := rfl
def zG_r_about (p0 : Nat) (f_p0 : List Value) (p0_cords : Nat) (c_p0_cords : ClassId) (b_p0_cords : Nat → Int32) (p0_knots : Nat) (c_p0_knots : ClassId) (b_p0_knots : Nat → Int32) (p0_laws : Nat) (c_p0_laws : ClassId) (b_p0_laws : Nat → Int32) (p0_unitsOf : Nat) (c_p0_unitsOf : ClassId) (b_p0_unitsOf : Nat → Int32) (p0_walks : Nat) (c_p0_walks : ClassId) (b_p0_walks : Nat → Int32) (p0_wants : Nat) (c_p0_wants : ClassId) (b_p0_wants : Nat → Int32) (a1 : Int32) (bk : Int32) (r : Int32) (X : va_W → Prop) : Prop := X (zW_r_about p0 f_p0 p0_cords c_p0_cords b_p0_cords p0_knots c_p0_knots b_p0_knots p0_laws c_p0_laws b_p0_laws p0_unitsOf c_p0_unitsOf b_p0_unitsOf p0_walks c_p0_walks b_p0_walks p0_wants c_p0_wants b_p0_wants)
theorem zm_r_about {p0 : Nat} {f_p0 : List Value} {p0_cords : Nat} {c_p0_cords : ClassId} {b_p0_cords : Nat → Int32} {p0_knots : Nat} {c_p0_knots : ClassId} {b_p0_knots : Nat → Int32} {p0_laws : Nat} {c_p0_laws : ClassId} {b_p0_laws : Nat → Int32} {p0_unitsOf : Nat} {c_p0_unitsOf : ClassId} {b_p0_unitsOf : Nat → Int32} {p0_walks : Nat} {c_p0_walks : ClassId} {b_p0_walks : Nat → Int32} {p0_wants : Nat} {c_p0_wants : ClassId} {b_p0_wants : Nat → Int32} {a1 : Int32} {bk : Int32} : ∀ (r : Int32), ∀ X Y : va_W → Prop, (∀ w, X w → Y w) → zG_r_about p0 f_p0 p0_cords c_p0_cords b_p0_cords p0_knots c_p0_knots b_p0_knots p0_laws c_p0_laws b_p0_laws p0_unitsOf c_p0_unitsOf b_p0_unitsOf p0_walks c_p0_walks b_p0_walks p0_wants c_p0_wants b_p0_wants a1 bk r X → zG_r_about p0 f_p0 p0_cords c_p0_cords b_p0_cords p0_knots c_p0_knots b_p0_knots p0_laws c_p0_laws b_p0_laws p0_unitsOf c_p0_unitsOf b_p0_unitsOf p0_walks c_p0_walks b_p0_walks p0_wants c_p0_wants b_p0_wants a1 bk r Y := fun r X Y h h1 => h _ h1
set_option maxHeartbeats 4000000 in
set_option maxRecDepth 100000 in
theorem r_about (l : Launch) (dC : Nat → ClassId) (dI : Nat → Nat → Nat) (sz : Nat) (p0 : Nat) (f_p0 : List Value) (p0_cords : Nat) (c_p0_cords : ClassId) (b_p0_cords : Nat → Int32) (p0_knots : Nat) (c_p0_knots : ClassId) (b_p0_knots : Nat → Int32) (p0_laws : Nat) (c_p0_laws : ClassId) (b_p0_laws : Nat → Int32) (p0_unitsOf : Nat) (c_p0_unitsOf : ClassId) (b_p0_unitsOf : Nat → Int32) (p0_walks : Nat) (c_p0_walks : ClassId) (b_p0_walks : Nat → Int32) (p0_wants : Nat) (c_p0_wants : ClassId) (b_p0_wants : Nat → Int32) (a1 : Int32) (bk : Int32) (ho_p0 : OKX9 f_p0) (fr_p0_11 : q_rf f_p0 11 p0_knots) (fr_p0_12 : q_rf f_p0 12 p0_cords) (fr_p0_13 : q_rf f_p0 13 p0_walks) (fr_p0_14 : q_rf f_p0 14 p0_laws) (fr_p0_15 : q_rf f_p0 15 p0_wants) (fr_p0_18 : q_rf f_p0 18 p0_unitsOf) (hr_p0_cords : q_rg 2 (0) 4 b_p0_cords) (hr_p0_knots : q_rg 2 (0) 6 b_p0_knots) (hr_p0_laws : q_rg 2 (0) 3 b_p0_laws) (hr_p0_walks : q_rg 2 (0) 4 b_p0_walks) (hr_p0_wants : q_rg 2 (0) 4 b_p0_wants) (pf_bk : q_if f_p0 43 bk) : Met l yX9_about zw_r_about ({ frames := 0, cells := 0, slots := 0, locals := 0 }) (va_Pc [.ref p0, .int a1] (q_pre (dC, dI) (zW_r_about p0 f_p0 p0_cords c_p0_cords b_p0_cords p0_knots c_p0_knots b_p0_knots p0_laws c_p0_laws b_p0_laws p0_unitsOf c_p0_unitsOf b_p0_unitsOf p0_walks c_p0_walks b_p0_walks p0_wants c_p0_wants b_p0_wants) (zT_r_about c_p0_cords c_p0_knots c_p0_laws c_p0_unitsOf c_p0_walks c_p0_wants) q_E0 sz)) (q_Qi (dC, dI) (zG_r_about p0 f_p0 p0_cords c_p0_cords b_p0_cords p0_knots c_p0_knots b_p0_knots p0_laws c_p0_laws b_p0_laws p0_unitsOf c_p0_unitsOf b_p0_unitsOf p0_walks c_p0_walks b_p0_walks p0_wants c_p0_wants b_p0_wants a1 bk) (zA_r_about p0 p0_cords p0_knots p0_laws p0_unitsOf p0_walks p0_wants) (va_A (zW_r_about p0 f_p0 p0_cords c_p0_cords b_p0_cords p0_knots c_p0_knots b_p0_knots p0_laws c_p0_laws b_p0_laws p0_unitsOf c_p0_unitsOf b_p0_unitsOf p0_walks c_p0_walks b_p0_walks p0_wants c_p0_wants b_p0_wants) sz)) 0 0 (va_A (zW_r_about p0 f_p0 p0_cords c_p0_cords b_p0_cords p0_knots c_p0_knots b_p0_knots p0_laws c_p0_laws b_p0_laws p0_unitsOf c_p0_unitsOf b_p0_unitsOf p0_walks c_p0_walks b_p0_walks p0_wants c_p0_wants b_p0_wants) sz) := by
  refine Met.ofW (cc := cX9_about) (maxL := 2) (ret := (some .int)) (by decide) rfl ?_
  intro p e s m args below meth c s₁ B hml hv
  obtain ⟨rfl, hsz, hP, hK, hD0, hE⟩ := hv
  have hx := B.exec
  have hb := B.bytes
  have hr := B.returns
  have hts := atoms_spec (ws := zw_r_about) B.pre
  have hown : s.vm.findClass RX9 = some m.cls := findClass_of_methodNamed B.named
  have hlocks := B.notSynchronized
  subst hsz
  have hD := hD0.self (sz := s.heap.size)
  generalize hAe : va_A (zW_r_about p0 f_p0 p0_cords c_p0_cords b_p0_cords p0_knots c_p0_knots b_p0_knots p0_laws c_p0_laws b_p0_laws p0_unitsOf c_p0_unitsOf b_p0_unitsOf p0_walks c_p0_walks b_p0_walks p0_wants c_p0_wants b_p0_wants) s.heap.size = A at hD hE ⊢
  have hA : ∀ q : Nat, s.heap.size ≤ q → A q := fun q h => by rw [← hAe]; exact Or.inr h
  have hDa : q_DA A (zA_r_about p0 p0_cords p0_knots p0_laws p0_unitsOf p0_walks p0_wants) := q_DA.mk hD za_r_about
  clear hAe hD0 hD
  have hS : va_S A s.heap s.heap [] := va_S.rf
  have m_0 : (.fieldLink RX9 20 "BowWalkModel" "knots" "[I" : Cond) ∈ zw_r_about := List.mem_append_left _ (List.mem_of_getElem? (i := 1) rfl)
  have k_0 := hts _ m_0
  have m_1 : (.fieldLink RX9 291 "BowWalkModel" "bank" "I" : Cond) ∈ zw_r_about := List.mem_append_left _ (List.mem_of_getElem? (i := 2) rfl)
  have k_1 := hts _ m_1
  have m_2 : (.fieldLink RX9 24 "BowWalkModel" "cords" "[I" : Cond) ∈ zw_r_about := List.mem_append_left _ (List.mem_of_getElem? (i := 3) rfl)
  have k_2 := hts _ m_2
  have m_3 : (.fieldLink RX9 27 "BowWalkModel" "walks" "[I" : Cond) ∈ zw_r_about := List.mem_append_left _ (List.mem_of_getElem? (i := 4) rfl)
  have k_3 := hts _ m_3
  have m_4 : (.fieldLink RX9 30 "BowWalkModel" "laws" "[I" : Cond) ∈ zw_r_about := List.mem_append_left _ (List.mem_of_getElem? (i := 5) rfl)
  have k_4 := hts _ m_4
  have m_5 : (.fieldLink RX9 33 "BowWalkModel" "wants" "[I" : Cond) ∈ zw_r_about := List.mem_append_left _ (List.mem_of_getElem? (i := 6) rfl)
  have k_5 := hts _ m_5
  have m_6 : (.fieldLink RX9 301 "BowWalkModel" "films" "I" : Cond) ∈ zw_r_about := List.mem_append_left _ (List.mem_of_getElem? (i := 7) rfl)
  have k_6 := hts _ m_6
  have m_7 : (.fieldLink RX9 517 "BowWalkModel" "time" "I" : Cond) ∈ zw_r_about := List.mem_append_left _ (List.mem_of_getElem? (i := 8) rfl)
  have k_7 := hts _ m_7
  have m_8 : (.fieldLink RX9 288 "BowWalkModel" "taped" "I" : Cond) ∈ zw_r_about := List.mem_append_left _ (List.mem_of_getElem? (i := 9) rfl)
  have k_8 := hts _ m_8
  have m_9 : (.fieldLink RX9 125 "BowWalkModel" "w" "I" : Cond) ∈ zw_r_about := List.mem_append_left _ (List.mem_of_getElem? (i := 10) rfl)
  have k_9 := hts _ m_9
  have m_10 : (.fieldLink RX9 42 "BowWalkModel" "unitsOf" "[I" : Cond) ∈ zw_r_about := List.mem_append_left _ (List.mem_of_getElem? (i := 11) rfl)
  have k_10 := hts _ m_10
  have i_X9 : ∀ w ∈ u_ws RX9 TX9 81, w ∈ zw_r_about := fun w h => List.mem_append_right _ (List.mem_append_left _ h)
  have lt_m1 : ((-1) : Int32).toInt = -1 := by decide
  have lt_0 : (0 : Int32).toInt = 0 := by decide
  have lt_1 : (1 : Int32).toInt = 1 := by decide
  have lt_2 : (2 : Int32).toInt = 2 := by decide
  have lt_3 : (3 : Int32).toInt = 3 := by decide
  have lt_4 : (4 : Int32).toInt = 4 := by decide
  have lt_5 : (5 : Int32).toInt = 5 := by decide
  have lt_6 : (6 : Int32).toInt = 6 := by decide
  have lt_7 : (7 : Int32).toInt = 7 := by decide
  have lt_8 : (8 : Int32).toInt = 8 := by decide
  have lt_9 : (9 : Int32).toInt = 9 := by decide
  have hl := lv_entry ([.ref p0, .int a1]) (n := 2) (Nat.le_of_ble_eq_true rfl)
  rw [lg_entry_eq]
  generalize (lg_sl ([.ref p0, .int a1]) ++ List.replicate (2 - (lg_sl ([.ref p0, .int a1])).length) Slot.unset).toArray = ls at hl ⊢
  have hl : lv_has ls 2 [(0, .ref p0), (1, .int a1)] := hl
  have tbk := (OKX9_g43 ho_p0).use pf_bk
  have hwb := hr_p0_walks bk.toNatClampNeg (q_cl (q_in (by omega) (by omega)))
  have hlb := hr_p0_laws bk.toNatClampNeg (q_cl (q_in (by omega) (by omega)))
  refine lv_iload_n hx hb dX9_about_0 rfl (lv_at hl 1 rfl) ?_
  by_cases hk_1 : a1 = 0
  · refine lv_tableIn (tgt := 56) (off := 55) hx hb dX9_about_1 (by rw [hk_1]; decide) (by rw [hk_1]; decide) (by rw [hk_1]; decide) (by decide) ?_
    have thk_1 := q_eq hk_1
    refine lv_aload_n hx hb dX9_about_56 rfl (lv_at hl 0 rfl) (qg_X9_11 hx hb hts i_X9 hown hK hP 0 rfl k_0 fr_p0_11 dX9_about_57 (lv_aload_n hx hb dX9_about_60 rfl (lv_at hl 0 rfl) (qg_X9_43 hx hb hts i_X9 hown hK hP 0 rfl k_1 pf_bk dX9_about_61 (q_ild hx hb hK hP 2 1 rfl rfl (q_in (by omega) (by omega)) dX9_about_64 (fun v_2 ev_2 => ?_)))))
    have uv_2 : v_2.toInt = (b_p0_knots bk.toNatClampNeg).toInt := by rw [ev_2]
    have tv_2 := q_rd' hr_p0_knots (q_in (by omega) (by omega)) ev_2
    exact q_iret hx hb hr hlocks hS dX9_about_65 ⟨hP, za_r_about⟩
  by_cases hk_3 : a1 = 1
  · refine lv_tableIn (tgt := 66) (off := 65) hx hb dX9_about_1 (by rw [hk_3]; decide) (by rw [hk_3]; decide) (by rw [hk_3]; decide) (by decide) ?_
    have thk_3 := q_eq hk_3
    refine lv_aload_n hx hb dX9_about_66 rfl (lv_at hl 0 rfl) (qg_X9_12 hx hb hts i_X9 hown hK hP 0 rfl k_2 fr_p0_12 dX9_about_67 (lv_aload_n hx hb dX9_about_70 rfl (lv_at hl 0 rfl) (qg_X9_43 hx hb hts i_X9 hown hK hP 0 rfl k_1 pf_bk dX9_about_71 (q_ild hx hb hK hP 1 0 rfl rfl (q_in (by omega) (by omega)) dX9_about_74 (fun v_4 ev_4 => ?_)))))
    have uv_4 : v_4.toInt = (b_p0_cords bk.toNatClampNeg).toInt := by rw [ev_4]
    have tv_4 := q_rd' hr_p0_cords (q_in (by omega) (by omega)) ev_4
    exact q_iret hx hb hr hlocks hS dX9_about_75 ⟨hP, za_r_about⟩
  by_cases hk_5 : a1 = 2
  · refine lv_tableIn (tgt := 76) (off := 75) hx hb dX9_about_1 (by rw [hk_5]; decide) (by rw [hk_5]; decide) (by rw [hk_5]; decide) (by decide) ?_
    have thk_5 := q_eq hk_5
    refine lv_aload_n hx hb dX9_about_76 rfl (lv_at hl 0 rfl) (qg_X9_13 hx hb hts i_X9 hown hK hP 0 rfl k_3 fr_p0_13 dX9_about_77 (lv_aload_n hx hb dX9_about_80 rfl (lv_at hl 0 rfl) (qg_X9_43 hx hb hts i_X9 hown hK hP 0 rfl k_1 pf_bk dX9_about_81 (q_ild hx hb hK hP 5 4 rfl rfl (q_in (by omega) (by omega)) dX9_about_84 (fun v_6 ev_6 => ?_)))))
    have uv_6 : v_6.toInt = (b_p0_walks bk.toNatClampNeg).toInt := by rw [ev_6]
    have tv_6 := q_rd' hr_p0_walks (q_in (by omega) (by omega)) ev_6
    exact q_iret hx hb hr hlocks hS dX9_about_85 ⟨hP, za_r_about⟩
  by_cases hk_7 : a1 = 3
  · refine lv_tableIn (tgt := 86) (off := 85) hx hb dX9_about_1 (by rw [hk_7]; decide) (by rw [hk_7]; decide) (by rw [hk_7]; decide) (by decide) ?_
    have thk_7 := q_eq hk_7
    refine lv_aload_n hx hb dX9_about_86 rfl (lv_at hl 0 rfl) (qg_X9_14 hx hb hts i_X9 hown hK hP 0 rfl k_4 fr_p0_14 dX9_about_87 (lv_aload_n hx hb dX9_about_90 rfl (lv_at hl 0 rfl) (qg_X9_43 hx hb hts i_X9 hown hK hP 0 rfl k_1 pf_bk dX9_about_91 (q_ild hx hb hK hP 3 2 rfl rfl (q_in (by omega) (by omega)) dX9_about_94 (fun v_8 ev_8 => ?_)))))
    have uv_8 : v_8.toInt = (b_p0_laws bk.toNatClampNeg).toInt := by rw [ev_8]
    have tv_8 := q_rd' hr_p0_laws (q_in (by omega) (by omega)) ev_8
    exact q_iret hx hb hr hlocks hS dX9_about_95 ⟨hP, za_r_about⟩
  by_cases hk_9 : a1 = 4
  · refine lv_tableIn (tgt := 96) (off := 95) hx hb dX9_about_1 (by rw [hk_9]; decide) (by rw [hk_9]; decide) (by rw [hk_9]; decide) (by decide) ?_
    have thk_9 := q_eq hk_9
    refine lv_aload_n hx hb dX9_about_96 rfl (lv_at hl 0 rfl) (qg_X9_15 hx hb hts i_X9 hown hK hP 0 rfl k_5 fr_p0_15 dX9_about_97 (lv_aload_n hx hb dX9_about_100 rfl (lv_at hl 0 rfl) (qg_X9_43 hx hb hts i_X9 hown hK hP 0 rfl k_1 pf_bk dX9_about_101 (q_ild hx hb hK hP 6 5 rfl rfl (q_in (by omega) (by omega)) dX9_about_104 (fun v_10 ev_10 => ?_)))))
    have tv_10 := q_rd' hr_p0_wants (q_in (by omega) (by omega)) ev_10
    exact q_iret hx hb hr hlocks hS dX9_about_105 ⟨hP, za_r_about⟩
  by_cases hk_11 : a1 = 5
  · refine lv_tableIn (tgt := 106) (off := 105) hx hb dX9_about_1 (by rw [hk_11]; decide) (by rw [hk_11]; decide) (by rw [hk_11]; decide) (by decide) ?_
    have thk_11 := q_eq hk_11
    refine lv_aload_n hx hb dX9_about_106 rfl (lv_at hl 0 rfl) ?_
    obtain ⟨v_12, fv_12, tv_12⟩ := OKX9_g75 ho_p0
    refine qg_X9_75 hx hb hts i_X9 hown hK hP 0 rfl k_6 fv_12 dX9_about_107 ?_
    exact q_iret hx hb hr hlocks hS dX9_about_110 ⟨hP, za_r_about⟩
  by_cases hk_13 : a1 = 6
  · refine lv_tableIn (tgt := 111) (off := 110) hx hb dX9_about_1 (by rw [hk_13]; decide) (by rw [hk_13]; decide) (by rw [hk_13]; decide) (by decide) ?_
    have thk_13 := q_eq hk_13
    refine lv_aload_n hx hb dX9_about_111 rfl (lv_at hl 0 rfl) ?_
    obtain ⟨v_14, fv_14, tv_14⟩ := OKX9_g76 ho_p0
    refine qg_X9_76 hx hb hts i_X9 hown hK hP 0 rfl k_7 fv_14 dX9_about_112 ?_
    exact q_iret hx hb hr hlocks hS dX9_about_115 ⟨hP, za_r_about⟩
  by_cases hk_15 : a1 = 7
  · refine lv_tableIn (tgt := 116) (off := 115) hx hb dX9_about_1 (by rw [hk_15]; decide) (by rw [hk_15]; decide) (by rw [hk_15]; decide) (by decide) ?_
    have thk_15 := q_eq hk_15
    refine lv_aload_n hx hb dX9_about_116 rfl (lv_at hl 0 rfl) ?_
    obtain ⟨v_16, fv_16, tv_16⟩ := OKX9_g2 ho_p0
    refine qg_X9_2 hx hb hts i_X9 hown hK hP 0 rfl k_8 fv_16 dX9_about_117 ?_
    exact q_iret hx hb hr hlocks hS dX9_about_120 ⟨hP, za_r_about⟩
  by_cases hk_17 : a1 = 8
  · refine lv_tableIn (tgt := 121) (off := 120) hx hb dX9_about_1 (by rw [hk_17]; decide) (by rw [hk_17]; decide) (by rw [hk_17]; decide) (by decide) ?_
    have thk_17 := q_eq hk_17
    refine lv_aload_n hx hb dX9_about_121 rfl (lv_at hl 0 rfl) ?_
    obtain ⟨v_18, fv_18⟩ := OKX9_g65 ho_p0
    refine qg_X9_65 hx hb hts i_X9 hown hK hP 0 rfl k_9 fv_18 dX9_about_122 ?_
    exact q_iret hx hb hr hlocks hS dX9_about_125 ⟨hP, za_r_about⟩
  by_cases hk_19 : a1 = 9
  · refine lv_tableIn (tgt := 126) (off := 125) hx hb dX9_about_1 (by rw [hk_19]; decide) (by rw [hk_19]; decide) (by rw [hk_19]; decide) (by decide) ?_
    have thk_19 := q_eq hk_19
    refine lv_aload_n hx hb dX9_about_126 rfl (lv_at hl 0 rfl) (qg_X9_18 hx hb hts i_X9 hown hK hP 0 rfl k_10 fr_p0_18 dX9_about_127 (lv_aload_n hx hb dX9_about_130 rfl (lv_at hl 0 rfl) (qg_X9_43 hx hb hts i_X9 hown hK hP 0 rfl k_1 pf_bk dX9_about_131 (q_ild hx hb hK hP 4 3 rfl rfl (q_in (by omega) (by omega)) dX9_about_134 (fun v_20 ev_20 => ?_)))))
    exact q_iret hx hb hr hlocks hS dX9_about_135 ⟨hP, za_r_about⟩
  have thk_1 := q_ne hk_1
  have thk_3 := q_ne hk_3
  have thk_5 := q_ne hk_5
  have thk_7 := q_ne hk_7
  have thk_9 := q_ne hk_9
  have thk_11 := q_ne hk_11
  have thk_13 := q_ne hk_13
  have thk_15 := q_ne hk_15
  have thk_17 := q_ne hk_17
  have thk_19 := q_ne hk_19
  refine lv_tableOut (tgt := 136) hx hb dX9_about_1 (by omega) (by decide) ?_
  refine lv_iconst (v := (-1)) hx hb dX9_about_136 (by decide) ?_
  exact q_iret hx hb hr hlocks hS dX9_about_137 ⟨hP, za_r_about⟩
def zo_r_feed : List Cond := [.code yX9_feed cX9_feed 8 (some .int), .fieldLink RX9 288 "BowWalkModel" "taped" "I", .fieldLink RX9 7 "BowWalkModel" "tape" "[B"]
def zw_r_feed : List Cond := zo_r_feed ++ (wsX90 ++ [])
theorem gz_r_feed : zw_r_feed.all goodWord = true := p1_ga (by decide +kernel) (p1_ga gk_X9 p1_g0)
theorem iz_r_feed : ∀ w ∈ zw_r_feed, w ∈ lw_tbl := p1_ia (p1_all [1692, 1039, 1037] (by decide +kernel)) (p1_ia ik_X9 p1_i0)
def zW_r_feed (p0 : Nat) (f_p0 : List Value) (p0_tape : Nat) (c_p0_tape : ClassId) (b_p0_tape : Nat → Int32) : va_W := [(p0, .inr (8, f_p0)), (p0_tape, .inl (c_p0_tape, 1620, .inl b_p0_tape))]
def zT_r_feed (c_p0_tape : ClassId) : List (ClassId × FieldType) := [(c_p0_tape, .byte)]
def zA_r_feed (p0 : Nat) (p0_tape : Nat) : List Nat := [p0, p0_tape]
theorem za_r_feed {p0 : Nat} {f_p0 : List Value} {p0_tape : Nat} {c_p0_tape : ClassId} {b_p0_tape : Nat → Int32} : (zW_r_feed p0 f_p0 p0_tape c_p0_tape b_p0_tape).map Prod.fst = (zA_r_feed p0 p0_tape) := rfl
def zG_r_feed (p0 : Nat) (f_p0 : List Value) (p0_tape : Nat) (c_p0_tape : ClassId) (b_p0_tape : Nat → Int32) (a1 : Int32) (a2 : Int32) (a3 : Int32) (a4 : Int32) (a5 : Int32) (r : Int32) (X : va_W → Prop) : Prop := ∃ (y_p0 : List Value) (y_p0_tape : Nat → Int32), OKX9 y_p0 ∧ q_fr [2] f_p0 y_p0 ∧ X (zW_r_feed p0 y_p0 p0_tape c_p0_tape y_p0_tape)
theorem zm_r_feed {p0 : Nat} {f_p0 : List Value} {p0_tape : Nat} {c_p0_tape : ClassId} {b_p0_tape : Nat → Int32} {a1 : Int32} {a2 : Int32} {a3 : Int32} {a4 : Int32} {a5 : Int32} : ∀ (r : Int32), ∀ X Y : va_W → Prop, (∀ w, X w → Y w) → zG_r_feed p0 f_p0 p0_tape c_p0_tape b_p0_tape a1 a2 a3 a4 a5 r X → zG_r_feed p0 f_p0 p0_tape c_p0_tape b_p0_tape a1 a2 a3 a4 a5 r Y := fun r X Y h h1 => by obtain ⟨x0, x1, x2, x3, hx⟩ := h1; exact ⟨x0, x1, x2, x3, h _ hx⟩
set_option maxHeartbeats 4000000 in
set_option maxRecDepth 100000 in
theorem r_feed (l : Launch) (dC : Nat → ClassId) (dI : Nat → Nat → Nat) (sz : Nat) (p0 : Nat) (f_p0 : List Value) (p0_tape : Nat) (c_p0_tape : ClassId) (b_p0_tape : Nat → Int32) (a1 : Int32) (a2 : Int32) (a3 : Int32) (a4 : Int32) (a5 : Int32) (ho_p0 : OKX9 f_p0) (fr_p0_0 : q_rf f_p0 0 p0_tape) : Met l yX9_feed zw_r_feed ({ frames := 0, cells := 0, slots := 0, locals := 0 }) (va_Pc [.ref p0, .int a1, .int a2, .int a3, .int a4, .int a5] (q_pre (dC, dI) (zW_r_feed p0 f_p0 p0_tape c_p0_tape b_p0_tape) (zT_r_feed c_p0_tape) q_E0 sz)) (q_Qi (dC, dI) (zG_r_feed p0 f_p0 p0_tape c_p0_tape b_p0_tape a1 a2 a3 a4 a5) (zA_r_feed p0 p0_tape) (va_A (zW_r_feed p0 f_p0 p0_tape c_p0_tape b_p0_tape) sz)) 0 0 (va_A (zW_r_feed p0 f_p0 p0_tape c_p0_tape b_p0_tape) sz) := by
  refine Met.ofW (cc := cX9_feed) (maxL := 8) (ret := (some .int)) (by decide) rfl ?_
  intro p e s m args below meth c s₁ B hml hv
  obtain ⟨rfl, hsz, hP, hK, hD0, hE⟩ := hv
  have hx := B.exec
  have hb := B.bytes
  have hr := B.returns
  have hts := atoms_spec (ws := zw_r_feed) B.pre
  have hown : s.vm.findClass RX9 = some m.cls := findClass_of_methodNamed B.named
  have hlocks := B.notSynchronized
  subst hsz
  have hD := hD0.self (sz := s.heap.size)
  generalize hAe : va_A (zW_r_feed p0 f_p0 p0_tape c_p0_tape b_p0_tape) s.heap.size = A at hD hE ⊢
  have hA : ∀ q : Nat, s.heap.size ≤ q → A q := fun q h => by rw [← hAe]; exact Or.inr h
  have hDa : q_DA A (zA_r_feed p0 p0_tape) := q_DA.mk hD za_r_feed
  clear hAe hD0 hD
  have hS : va_S A s.heap s.heap [] := va_S.rf
  have m_0 : (.fieldLink RX9 288 "BowWalkModel" "taped" "I" : Cond) ∈ zw_r_feed := List.mem_append_left _ (List.mem_of_getElem? (i := 1) rfl)
  have k_0 := hts _ m_0
  have m_1 : (.fieldLink RX9 7 "BowWalkModel" "tape" "[B" : Cond) ∈ zw_r_feed := List.mem_append_left _ (List.mem_of_getElem? (i := 2) rfl)
  have k_1 := hts _ m_1
  have i_X9 : ∀ w ∈ u_ws RX9 TX9 81, w ∈ zw_r_feed := fun w h => List.mem_append_right _ (List.mem_append_left _ h)
  have lt_m1 : ((-1) : Int32).toInt = -1 := by decide
  have lt_0 : (0 : Int32).toInt = 0 := by decide
  have lt_1 : (1 : Int32).toInt = 1 := by decide
  have lt_3 : (3 : Int32).toInt = 3 := by decide
  have lt_4 : (4 : Int32).toInt = 4 := by decide
  have lt_8 : (8 : Int32).toInt = 8 := by decide
  have lt_12 : (12 : Int32).toInt = 12 := by decide
  have lt_16 : (16 : Int32).toInt = 16 := by decide
  have lt_20 : (20 : Int32).toInt = 20 := by decide
  have lt_24 : (24 : Int32).toInt = 24 := by decide
  have lt_1600 : (1600 : Int32).toInt = 1600 := by decide
  have hl := lv_entry ([.ref p0, .int a1, .int a2, .int a3, .int a4, .int a5]) (n := 8) (Nat.le_of_ble_eq_true rfl)
  rw [lg_entry_eq]
  generalize (lg_sl ([.ref p0, .int a1, .int a2, .int a3, .int a4, .int a5]) ++ List.replicate (8 - (lg_sl ([.ref p0, .int a1, .int a2, .int a3, .int a4, .int a5])).length) Slot.unset).toArray = ls at hl ⊢
  have hl : lv_has ls 8 [(0, .ref p0), (1, .int a1), (2, .int a2), (3, .int a3), (4, .int a4), (5, .int a5)] := hl
  refine lv_aload_n hx hb dX9_feed_0 rfl (lv_at hl 0 rfl) ?_
  obtain ⟨v_1, fv_1, tv_1⟩ := OKX9_g2 ho_p0
  refine qg_X9_2 hx hb hts i_X9 hown hK hP 0 rfl k_0 fv_1 dX9_feed_1 (lv_bipush (v := 20) hx hb dX9_feed_4 (by decide) (lv_iadd hx hb dX9_feed_6 (lv_topi fun v_2 ev_2 => ?_)))
  have tv_2 := q_add ev_2 (by omega) (by omega)
  refine lv_sipush (v := 1600) hx hb dX9_feed_7 (by decide) ?_
  refine lv_icmp_le (tgt := 15) hx hb dX9_feed_10 (by decide) (fun c_3 => ?_) (fun c_3 => ?_)
  · have tc_3 := q_le c_3
    refine lv_iconst (v := 0) hx hb dX9_feed_15 (by decide) (lv_istore (lv' := [(6, .int 0), (0, .ref p0), (1, .int a1), (2, .int a2), (3, .int a3), (4, .int a4), (5, .int a5)]) hx hb dX9_feed_16 hl (by decide) rfl (fun ls hl => ?_))
    have key18 : ∀ (fu18 : Nat) (k : Int32) (bz_p0_tape : Nat → Int32) (H : Heap) (locs : List Loc) (ls : Array Slot) (hfu18 : 20 - k.toInt ≤ (fu18 : Int)) (tk : (0) ≤ k.toInt ∧ k.toInt ≤ 20), va_P (dC, dI) vwCl (zW_r_feed p0 f_p0 p0_tape c_p0_tape bz_p0_tape) H → va_S A s.heap H locs → lv_has ls 8 [(6, .int k), (0, .ref p0), (1, .int a1), (2, .int a2), (3, .int a3), (4, .int a4), (5, .int a5)] → W p l e (headSpec zw_r_feed { frames := 0, cells := 0, slots := 0, locals := 0 }).room s m ([.ref p0, .int a1, .int a2, .int a3, .int a4, .int a5] : List Value).toArray below meth c H locs 0 0 (MQ below (q_Qi (dC, dI) (zG_r_feed p0 f_p0 p0_tape c_p0_tape b_p0_tape a1 a2 a3 a4 a5) (zA_r_feed p0 p0_tape) A) ([.ref p0, .int a1, .int a2, .int a3, .int a4, .int a5] : List Value).toArray s 0 0 A) (F0 m 18 ls []) := by
      intro fu18
      induction fu18 using Nat.strongRecOn with
      | ind fu18 ih18 =>
        intro k bz_p0_tape H4 lo4 ls hfu18 tk hP4 hS4 hl
        refine lv_iload hx hb dX9_feed_18 (lv_at hl 0 rfl) (lv_bipush (v := 20) hx hb dX9_feed_20 (by decide) ?_)
        refine lv_icmp_ge (tgt := 105) hx hb dX9_feed_22 (by decide) (fun c_5 => ?_) (fun c_5 => ?_)
        · have tc_5 := q_ge c_5
          refine lv_aload_n hx hb dX9_feed_105 rfl (lv_at hl 1 rfl) (lv_dup hx hb dX9_feed_106 rfl (qg_X9_2 hx hb hts i_X9 hown hK hP4 0 rfl k_0 fv_1 dX9_feed_107 (lv_bipush (v := 20) hx hb dX9_feed_110 (by decide) (lv_iadd hx hb dX9_feed_112 (lv_topi fun v_6 ev_6 => ?_)))))
          have tv_6 := q_add ev_6 (by omega) (by omega)
          refine qp_X9_2 hx hb hts i_X9 hown hK hP4 hDa za_r_feed hS4 0 rfl k_0 (OKX9_l ho_p0) dX9_feed_113 (fun H7 lo7 fs7 efs7 (hP7 : va_P (dC, dI) vwCl (zW_r_feed p0 fs7 p0_tape c_p0_tape bz_p0_tape) H7) hS7 => ?_)
          have ho7 := OKX9_p2 ho_p0 efs7 ⟨by omega, by omega⟩
          clear hP4 hS4
          refine lv_aload_n hx hb dX9_feed_116 rfl (lv_at hl 1 rfl) (qg_X9_2 hx hb hts i_X9 hown hK hP7 0 rfl k_0 (q_sa efs7 (OKX9_l ho_p0) (by decide)) dX9_feed_117 ?_)
          exact q_iret hx hb hr hlocks hS7 dX9_feed_120 ⟨fs7, bz_p0_tape, ho7, (q_fr.rf.st efs7 (by decide)), hP7, za_r_feed⟩
        · have tc_5 := q_ltN c_5
          refine lv_iload hx hb dX9_feed_25 (lv_at hl 0 rfl) (lv_iconst (v := 4) hx hb dX9_feed_27 (by decide) ?_)
          refine lv_icmp_ge (tgt := 35) hx hb dX9_feed_28 (by decide) (fun c_8 => ?_) (fun c_8 => ?_)
          · have tc_8 := q_ge c_8
            refine lv_iload hx hb dX9_feed_35 (lv_at hl 0 rfl) (lv_bipush (v := 8) hx hb dX9_feed_37 (by decide) ?_)
            refine lv_icmp_ge (tgt := 46) hx hb dX9_feed_39 (by decide) (fun c_9 => ?_) (fun c_9 => ?_)
            · have tc_9 := q_ge c_9
              refine lv_iload hx hb dX9_feed_46 (lv_at hl 0 rfl) (lv_bipush (v := 12) hx hb dX9_feed_48 (by decide) ?_)
              refine lv_icmp_ge (tgt := 57) hx hb dX9_feed_50 (by decide) (fun c_10 => ?_) (fun c_10 => ?_)
              · have tc_10 := q_ge c_10
                refine lv_iload hx hb dX9_feed_57 (lv_at hl 0 rfl) (lv_bipush (v := 16) hx hb dX9_feed_59 (by decide) ?_)
                refine lv_icmp_ge (tgt := 69) hx hb dX9_feed_61 (by decide) (fun c_11 => ?_) (fun c_11 => ?_)
                · have tc_11 := q_ge c_11
                  refine lv_iload hx hb dX9_feed_69 (lv_at hl 6 rfl) (lv_istore (lv' := [(7, .int a5), (6, .int k), (0, .ref p0), (1, .int a1), (2, .int a2), (3, .int a3), (4, .int a4), (5, .int a5)]) hx hb dX9_feed_71 hl (by decide) rfl (fun ls hl => ?_))
                  refine lv_aload_n hx hb dX9_feed_73 rfl (lv_at hl 2 rfl) (qg_X9_0 hx hb hts i_X9 hown hK hP4 0 rfl k_1 fr_p0_0 dX9_feed_74 (lv_aload_n hx hb dX9_feed_77 rfl (lv_at hl 2 rfl) (qg_X9_2 hx hb hts i_X9 hown hK hP4 0 rfl k_0 fv_1 dX9_feed_78 (lv_iload hx hb dX9_feed_81 (lv_at hl 1 rfl) (lv_iadd hx hb dX9_feed_83 (lv_topi fun v_12 ev_12 => ?_))))))
                  have tv_12 := q_add ev_12 (by omega) (by omega)
                  refine lv_iload hx hb dX9_feed_84 (lv_at hl 0 rfl) (lv_bipush (v := 24) hx hb dX9_feed_86 (by decide) (lv_bipush (v := 8) hx hb dX9_feed_88 (by decide) (lv_iload hx hb dX9_feed_90 (lv_at hl 1 rfl) (lv_iconst (v := 3) hx hb dX9_feed_92 (by decide) (lv_iand hx hb dX9_feed_93 (lv_topi fun v_13 ev_13 => ?_))))))
                  have tv_13 := q_and (k := 2) ev_13 (by decide) (by decide)
                  refine lv_imul hx hb dX9_feed_94 (lv_topi fun v_14 ev_14 => ?_)
                  have tv_14 := q_mulc (c := 8) ev_14 (by decide) (by omega) (by omega)
                  refine lv_isub hx hb dX9_feed_95 (lv_topi fun v_15 ev_15 => ?_)
                  have tv_15 := q_sub ev_15 (by omega) (by omega)
                  refine lv_ishr hx hb dX9_feed_96 (lv_topi fun v_16 ev_16 => lv_i2b hx hb dX9_feed_97 rfl (lv_topi fun v_17 ev_17 => q_bst hx hb hK hP4 hDa za_r_feed hS4 1 0 rfl rfl (q_in (by omega) (by omega)) dX9_feed_98 (fun H18 lo18 g18 eg18 (hP18 : va_P (dC, dI) vwCl (zW_r_feed p0 f_p0 p0_tape c_p0_tape g18) H18) hS18 => ?_)))
                  clear hP4 hS4
                  obtain ⟨v_19, ev_19⟩ : ∃ y : Int32, y = k + 1 := ⟨_, rfl⟩
                  have tv_19 := q_add ev_19 (by omega) (by omega)
                  refine lv_iinc (v := v_19) (lv' := [(6, .int v_19), (7, .int a5), (0, .ref p0), (1, .int a1), (2, .int a2), (3, .int a3), (4, .int a4), (5, .int a5)]) hx hb dX9_feed_99 hl (k := 1) rfl (by rw [ev_19]; rfl) (by decide) rfl (fun ls hl => ?_)
                  refine lv_goto (tgt := 18) hx hb dX9_feed_102 (by decide) ?_
                  exact ih18 (fu18 - 1) (by omega) v_19 g18 _ _ _ (by omega) (by omega) hP18 hS18 (lv_sub hl [0, 2, 3, 4, 5, 6, 7] rfl)
                · have tc_11 := q_ltN c_11
                  refine lv_iload hx hb dX9_feed_64 (lv_at hl 5 rfl) (lv_goto (tgt := 71) hx hb dX9_feed_66 (by decide) (lv_istore (lv' := [(7, .int a4), (6, .int k), (0, .ref p0), (1, .int a1), (2, .int a2), (3, .int a3), (4, .int a4), (5, .int a5)]) hx hb dX9_feed_71 hl (by decide) rfl (fun ls hl => ?_)))
                  refine lv_aload_n hx hb dX9_feed_73 rfl (lv_at hl 2 rfl) (qg_X9_0 hx hb hts i_X9 hown hK hP4 0 rfl k_1 fr_p0_0 dX9_feed_74 (lv_aload_n hx hb dX9_feed_77 rfl (lv_at hl 2 rfl) (qg_X9_2 hx hb hts i_X9 hown hK hP4 0 rfl k_0 fv_1 dX9_feed_78 (lv_iload hx hb dX9_feed_81 (lv_at hl 1 rfl) (lv_iadd hx hb dX9_feed_83 (lv_topi fun v_20 ev_20 => ?_))))))
                  have tv_20 := q_add ev_20 (by omega) (by omega)
                  refine lv_iload hx hb dX9_feed_84 (lv_at hl 0 rfl) (lv_bipush (v := 24) hx hb dX9_feed_86 (by decide) (lv_bipush (v := 8) hx hb dX9_feed_88 (by decide) (lv_iload hx hb dX9_feed_90 (lv_at hl 1 rfl) (lv_iconst (v := 3) hx hb dX9_feed_92 (by decide) (lv_iand hx hb dX9_feed_93 (lv_topi fun v_21 ev_21 => ?_))))))
                  have tv_21 := q_and (k := 2) ev_21 (by decide) (by decide)
                  refine lv_imul hx hb dX9_feed_94 (lv_topi fun v_22 ev_22 => ?_)
                  have tv_22 := q_mulc (c := 8) ev_22 (by decide) (by omega) (by omega)
                  refine lv_isub hx hb dX9_feed_95 (lv_topi fun v_23 ev_23 => ?_)
                  have tv_23 := q_sub ev_23 (by omega) (by omega)
                  refine lv_ishr hx hb dX9_feed_96 (lv_topi fun v_24 ev_24 => lv_i2b hx hb dX9_feed_97 rfl (lv_topi fun v_25 ev_25 => q_bst hx hb hK hP4 hDa za_r_feed hS4 1 0 rfl rfl (q_in (by omega) (by omega)) dX9_feed_98 (fun H26 lo26 g26 eg26 (hP26 : va_P (dC, dI) vwCl (zW_r_feed p0 f_p0 p0_tape c_p0_tape g26) H26) hS26 => ?_)))
                  clear hP4 hS4
                  obtain ⟨v_27, ev_27⟩ : ∃ y : Int32, y = k + 1 := ⟨_, rfl⟩
                  have tv_27 := q_add ev_27 (by omega) (by omega)
                  refine lv_iinc (v := v_27) (lv' := [(6, .int v_27), (7, .int a4), (0, .ref p0), (1, .int a1), (2, .int a2), (3, .int a3), (4, .int a4), (5, .int a5)]) hx hb dX9_feed_99 hl (k := 1) rfl (by rw [ev_27]; rfl) (by decide) rfl (fun ls hl => ?_)
                  refine lv_goto (tgt := 18) hx hb dX9_feed_102 (by decide) ?_
                  exact ih18 (fu18 - 1) (by omega) v_27 g26 _ _ _ (by omega) (by omega) hP26 hS26 (lv_sub hl [0, 2, 3, 4, 5, 6, 7] rfl)
              · have tc_10 := q_ltN c_10
                refine lv_iload_n hx hb dX9_feed_53 rfl (lv_at hl 4 rfl) (lv_goto (tgt := 71) hx hb dX9_feed_54 (by decide) (lv_istore (lv' := [(7, .int a3), (6, .int k), (0, .ref p0), (1, .int a1), (2, .int a2), (3, .int a3), (4, .int a4), (5, .int a5)]) hx hb dX9_feed_71 hl (by decide) rfl (fun ls hl => ?_)))
                refine lv_aload_n hx hb dX9_feed_73 rfl (lv_at hl 2 rfl) (qg_X9_0 hx hb hts i_X9 hown hK hP4 0 rfl k_1 fr_p0_0 dX9_feed_74 (lv_aload_n hx hb dX9_feed_77 rfl (lv_at hl 2 rfl) (qg_X9_2 hx hb hts i_X9 hown hK hP4 0 rfl k_0 fv_1 dX9_feed_78 (lv_iload hx hb dX9_feed_81 (lv_at hl 1 rfl) (lv_iadd hx hb dX9_feed_83 (lv_topi fun v_28 ev_28 => ?_))))))
                have tv_28 := q_add ev_28 (by omega) (by omega)
                refine lv_iload hx hb dX9_feed_84 (lv_at hl 0 rfl) (lv_bipush (v := 24) hx hb dX9_feed_86 (by decide) (lv_bipush (v := 8) hx hb dX9_feed_88 (by decide) (lv_iload hx hb dX9_feed_90 (lv_at hl 1 rfl) (lv_iconst (v := 3) hx hb dX9_feed_92 (by decide) (lv_iand hx hb dX9_feed_93 (lv_topi fun v_29 ev_29 => ?_))))))
                have tv_29 := q_and (k := 2) ev_29 (by decide) (by decide)
                refine lv_imul hx hb dX9_feed_94 (lv_topi fun v_30 ev_30 => ?_)
                have tv_30 := q_mulc (c := 8) ev_30 (by decide) (by omega) (by omega)
                refine lv_isub hx hb dX9_feed_95 (lv_topi fun v_31 ev_31 => ?_)
                have tv_31 := q_sub ev_31 (by omega) (by omega)
                refine lv_ishr hx hb dX9_feed_96 (lv_topi fun v_32 ev_32 => lv_i2b hx hb dX9_feed_97 rfl (lv_topi fun v_33 ev_33 => q_bst hx hb hK hP4 hDa za_r_feed hS4 1 0 rfl rfl (q_in (by omega) (by omega)) dX9_feed_98 (fun H34 lo34 g34 eg34 (hP34 : va_P (dC, dI) vwCl (zW_r_feed p0 f_p0 p0_tape c_p0_tape g34) H34) hS34 => ?_)))
                clear hP4 hS4
                obtain ⟨v_35, ev_35⟩ : ∃ y : Int32, y = k + 1 := ⟨_, rfl⟩
                have tv_35 := q_add ev_35 (by omega) (by omega)
                refine lv_iinc (v := v_35) (lv' := [(6, .int v_35), (7, .int a3), (0, .ref p0), (1, .int a1), (2, .int a2), (3, .int a3), (4, .int a4), (5, .int a5)]) hx hb dX9_feed_99 hl (k := 1) rfl (by rw [ev_35]; rfl) (by decide) rfl (fun ls hl => ?_)
                refine lv_goto (tgt := 18) hx hb dX9_feed_102 (by decide) ?_
                exact ih18 (fu18 - 1) (by omega) v_35 g34 _ _ _ (by omega) (by omega) hP34 hS34 (lv_sub hl [0, 2, 3, 4, 5, 6, 7] rfl)
            · have tc_9 := q_ltN c_9
              refine lv_iload_n hx hb dX9_feed_42 rfl (lv_at hl 3 rfl) (lv_goto (tgt := 71) hx hb dX9_feed_43 (by decide) (lv_istore (lv' := [(7, .int a2), (6, .int k), (0, .ref p0), (1, .int a1), (2, .int a2), (3, .int a3), (4, .int a4), (5, .int a5)]) hx hb dX9_feed_71 hl (by decide) rfl (fun ls hl => ?_)))
              refine lv_aload_n hx hb dX9_feed_73 rfl (lv_at hl 2 rfl) (qg_X9_0 hx hb hts i_X9 hown hK hP4 0 rfl k_1 fr_p0_0 dX9_feed_74 (lv_aload_n hx hb dX9_feed_77 rfl (lv_at hl 2 rfl) (qg_X9_2 hx hb hts i_X9 hown hK hP4 0 rfl k_0 fv_1 dX9_feed_78 (lv_iload hx hb dX9_feed_81 (lv_at hl 1 rfl) (lv_iadd hx hb dX9_feed_83 (lv_topi fun v_36 ev_36 => ?_))))))
              have tv_36 := q_add ev_36 (by omega) (by omega)
              refine lv_iload hx hb dX9_feed_84 (lv_at hl 0 rfl) (lv_bipush (v := 24) hx hb dX9_feed_86 (by decide) (lv_bipush (v := 8) hx hb dX9_feed_88 (by decide) (lv_iload hx hb dX9_feed_90 (lv_at hl 1 rfl) (lv_iconst (v := 3) hx hb dX9_feed_92 (by decide) (lv_iand hx hb dX9_feed_93 (lv_topi fun v_37 ev_37 => ?_))))))
              have tv_37 := q_and (k := 2) ev_37 (by decide) (by decide)
              refine lv_imul hx hb dX9_feed_94 (lv_topi fun v_38 ev_38 => ?_)
              have tv_38 := q_mulc (c := 8) ev_38 (by decide) (by omega) (by omega)
              refine lv_isub hx hb dX9_feed_95 (lv_topi fun v_39 ev_39 => ?_)
              have tv_39 := q_sub ev_39 (by omega) (by omega)
              refine lv_ishr hx hb dX9_feed_96 (lv_topi fun v_40 ev_40 => lv_i2b hx hb dX9_feed_97 rfl (lv_topi fun v_41 ev_41 => q_bst hx hb hK hP4 hDa za_r_feed hS4 1 0 rfl rfl (q_in (by omega) (by omega)) dX9_feed_98 (fun H42 lo42 g42 eg42 (hP42 : va_P (dC, dI) vwCl (zW_r_feed p0 f_p0 p0_tape c_p0_tape g42) H42) hS42 => ?_)))
              clear hP4 hS4
              obtain ⟨v_43, ev_43⟩ : ∃ y : Int32, y = k + 1 := ⟨_, rfl⟩
              have tv_43 := q_add ev_43 (by omega) (by omega)
              refine lv_iinc (v := v_43) (lv' := [(6, .int v_43), (7, .int a2), (0, .ref p0), (1, .int a1), (2, .int a2), (3, .int a3), (4, .int a4), (5, .int a5)]) hx hb dX9_feed_99 hl (k := 1) rfl (by rw [ev_43]; rfl) (by decide) rfl (fun ls hl => ?_)
              refine lv_goto (tgt := 18) hx hb dX9_feed_102 (by decide) ?_
              exact ih18 (fu18 - 1) (by omega) v_43 g42 _ _ _ (by omega) (by omega) hP42 hS42 (lv_sub hl [0, 2, 3, 4, 5, 6, 7] rfl)
          · have tc_8 := q_ltN c_8
            refine lv_iload_n hx hb dX9_feed_31 rfl (lv_at hl 2 rfl) (lv_goto (tgt := 71) hx hb dX9_feed_32 (by decide) (lv_istore (lv' := [(7, .int a1), (6, .int k), (0, .ref p0), (1, .int a1), (2, .int a2), (3, .int a3), (4, .int a4), (5, .int a5)]) hx hb dX9_feed_71 hl (by decide) rfl (fun ls hl => ?_)))
            refine lv_aload_n hx hb dX9_feed_73 rfl (lv_at hl 2 rfl) (qg_X9_0 hx hb hts i_X9 hown hK hP4 0 rfl k_1 fr_p0_0 dX9_feed_74 (lv_aload_n hx hb dX9_feed_77 rfl (lv_at hl 2 rfl) (qg_X9_2 hx hb hts i_X9 hown hK hP4 0 rfl k_0 fv_1 dX9_feed_78 (lv_iload hx hb dX9_feed_81 (lv_at hl 1 rfl) (lv_iadd hx hb dX9_feed_83 (lv_topi fun v_44 ev_44 => ?_))))))
            have tv_44 := q_add ev_44 (by omega) (by omega)
            refine lv_iload hx hb dX9_feed_84 (lv_at hl 0 rfl) (lv_bipush (v := 24) hx hb dX9_feed_86 (by decide) (lv_bipush (v := 8) hx hb dX9_feed_88 (by decide) (lv_iload hx hb dX9_feed_90 (lv_at hl 1 rfl) (lv_iconst (v := 3) hx hb dX9_feed_92 (by decide) (lv_iand hx hb dX9_feed_93 (lv_topi fun v_45 ev_45 => ?_))))))
            have tv_45 := q_and (k := 2) ev_45 (by decide) (by decide)
            refine lv_imul hx hb dX9_feed_94 (lv_topi fun v_46 ev_46 => ?_)
            have tv_46 := q_mulc (c := 8) ev_46 (by decide) (by omega) (by omega)
            refine lv_isub hx hb dX9_feed_95 (lv_topi fun v_47 ev_47 => ?_)
            have tv_47 := q_sub ev_47 (by omega) (by omega)
            refine lv_ishr hx hb dX9_feed_96 (lv_topi fun v_48 ev_48 => lv_i2b hx hb dX9_feed_97 rfl (lv_topi fun v_49 ev_49 => q_bst hx hb hK hP4 hDa za_r_feed hS4 1 0 rfl rfl (q_in (by omega) (by omega)) dX9_feed_98 (fun H50 lo50 g50 eg50 (hP50 : va_P (dC, dI) vwCl (zW_r_feed p0 f_p0 p0_tape c_p0_tape g50) H50) hS50 => ?_)))
            clear hP4 hS4
            obtain ⟨v_51, ev_51⟩ : ∃ y : Int32, y = k + 1 := ⟨_, rfl⟩
            have tv_51 := q_add ev_51 (by omega) (by omega)
            refine lv_iinc (v := v_51) (lv' := [(6, .int v_51), (7, .int a1), (0, .ref p0), (1, .int a1), (2, .int a2), (3, .int a3), (4, .int a4), (5, .int a5)]) hx hb dX9_feed_99 hl (k := 1) rfl (by rw [ev_51]; rfl) (by decide) rfl (fun ls hl => ?_)
            refine lv_goto (tgt := 18) hx hb dX9_feed_102 (by decide) ?_
            exact ih18 (fu18 - 1) (by omega) v_51 g50 _ _ _ (by omega) (by omega) hP50 hS50 (lv_sub hl [0, 2, 3, 4, 5, 6, 7] rfl)
    exact key18 20 0 b_p0_tape _ _ _ (by omega) (by omega) hP hS (lv_sub hl [0, 1, 2, 3, 4, 5, 6] rfl)
  · have tc_3 := q_gtN c_3
    refine lv_iconst (v := (-1)) hx hb dX9_feed_13 (by decide) ?_
    exact q_iret hx hb hr hlocks hS dX9_feed_14 ⟨f_p0, b_p0_tape, ho_p0, q_fr.rf, hP, za_r_feed⟩
def zo_r_end : List Cond := [.code yX9_end cX9_end 2 (some .int), .fieldLink RX9 288 "BowWalkModel" "taped" "I"]
def zw_r_end : List Cond := zo_r_end ++ (wsX90 ++ [])
theorem gz_r_end : zw_r_end.all goodWord = true := p1_ga (by decide +kernel) (p1_ga gk_X9 p1_g0)
theorem iz_r_end : ∀ w ∈ zw_r_end, w ∈ lw_tbl := p1_ia (p1_all [1696, 1039] (by decide +kernel)) (p1_ia ik_X9 p1_i0)
def zW_r_end (p0 : Nat) (f_p0 : List Value) : va_W := [(p0, .inr (8, f_p0))]
def zT_r_end : List (ClassId × FieldType) := []
def zA_r_end (p0 : Nat) : List Nat := [p0]
theorem za_r_end {p0 : Nat} {f_p0 : List Value} : (zW_r_end p0 f_p0).map Prod.fst = (zA_r_end p0) := rfl
def zG_r_end (p0 : Nat) (f_p0 : List Value) (a1 : Int32) (r : Int32) (X : va_W → Prop) : Prop := ∃ (y_p0 : List Value), OKX9 y_p0 ∧ q_fr [2] f_p0 y_p0 ∧ X (zW_r_end p0 y_p0)
theorem zm_r_end {p0 : Nat} {f_p0 : List Value} {a1 : Int32} : ∀ (r : Int32), ∀ X Y : va_W → Prop, (∀ w, X w → Y w) → zG_r_end p0 f_p0 a1 r X → zG_r_end p0 f_p0 a1 r Y := fun r X Y h h1 => by obtain ⟨x0, x1, x2, hx⟩ := h1; exact ⟨x0, x1, x2, h _ hx⟩
set_option maxHeartbeats 4000000 in
set_option maxRecDepth 100000 in
theorem r_end (l : Launch) (dC : Nat → ClassId) (dI : Nat → Nat → Nat) (sz : Nat) (p0 : Nat) (f_p0 : List Value) (a1 : Int32) (ho_p0 : OKX9 f_p0) : Met l yX9_end zw_r_end ({ frames := 0, cells := 0, slots := 0, locals := 0 }) (va_Pc [.ref p0, .int a1] (q_pre (dC, dI) (zW_r_end p0 f_p0) (zT_r_end) q_E0 sz)) (q_Qi (dC, dI) (zG_r_end p0 f_p0 a1) (zA_r_end p0) (va_A (zW_r_end p0 f_p0) sz)) 0 0 (va_A (zW_r_end p0 f_p0) sz) := by
  refine Met.ofW (cc := cX9_end) (maxL := 2) (ret := (some .int)) (by decide) rfl ?_
  intro p e s m args below meth c s₁ B hml hv
  obtain ⟨rfl, hsz, hP, hK, hD0, hE⟩ := hv
  have hx := B.exec
  have hb := B.bytes
  have hr := B.returns
  have hts := atoms_spec (ws := zw_r_end) B.pre
  have hown : s.vm.findClass RX9 = some m.cls := findClass_of_methodNamed B.named
  have hlocks := B.notSynchronized
  subst hsz
  have hD := hD0.self (sz := s.heap.size)
  generalize hAe : va_A (zW_r_end p0 f_p0) s.heap.size = A at hD hE ⊢
  have hA : ∀ q : Nat, s.heap.size ≤ q → A q := fun q h => by rw [← hAe]; exact Or.inr h
  have hDa : q_DA A (zA_r_end p0) := q_DA.mk hD za_r_end
  clear hAe hD0 hD
  have hS : va_S A s.heap s.heap [] := va_S.rf
  have m_0 : (.fieldLink RX9 288 "BowWalkModel" "taped" "I" : Cond) ∈ zw_r_end := List.mem_append_left _ (List.mem_of_getElem? (i := 1) rfl)
  have k_0 := hts _ m_0
  have i_X9 : ∀ w ∈ u_ws RX9 TX9 81, w ∈ zw_r_end := fun w h => List.mem_append_right _ (List.mem_append_left _ h)
  have lt_m1 : ((-1) : Int32).toInt = -1 := by decide
  have lt_0 : (0 : Int32).toInt = 0 := by decide
  have hl := lv_entry ([.ref p0, .int a1]) (n := 2) (Nat.le_of_ble_eq_true rfl)
  rw [lg_entry_eq]
  generalize (lg_sl ([.ref p0, .int a1]) ++ List.replicate (2 - (lg_sl ([.ref p0, .int a1])).length) Slot.unset).toArray = ls at hl ⊢
  have hl : lv_has ls 2 [(0, .ref p0), (1, .int a1)] := hl
  refine lv_iload_n hx hb dX9_end_0 rfl (lv_at hl 1 rfl) ?_
  refine lv_if_lt (tgt := 12) hx hb dX9_end_1 (by decide) (fun c_1 => ?_) (fun c_1 => ?_)
  · have tc_1 := q_lt c_1
    refine lv_iconst (v := (-1)) hx hb dX9_end_12 (by decide) ?_
    exact q_iret hx hb hr hlocks hS dX9_end_13 ⟨f_p0, ho_p0, q_fr.rf, hP, za_r_end⟩
  · have tc_1 := q_geN c_1
    refine lv_iload_n hx hb dX9_end_4 rfl (lv_at hl 1 rfl) (lv_aload_n hx hb dX9_end_5 rfl (lv_at hl 0 rfl) ?_)
    obtain ⟨v_2, fv_2, tv_2⟩ := OKX9_g2 ho_p0
    refine qg_X9_2 hx hb hts i_X9 hown hK hP 0 rfl k_0 fv_2 dX9_end_6 ?_
    refine lv_icmp_le (tgt := 14) hx hb dX9_end_9 (by decide) (fun c_3 => ?_) (fun c_3 => ?_)
    · have tc_3 := q_le c_3
      refine lv_aload_n hx hb dX9_end_14 rfl (lv_at hl 0 rfl) (lv_iload_n hx hb dX9_end_15 rfl (lv_at hl 1 rfl) (qp_X9_2 hx hb hts i_X9 hown hK hP hDa za_r_end hS 0 rfl k_0 (OKX9_l ho_p0) dX9_end_16 (fun H4 lo4 fs4 efs4 (hP4 : va_P (dC, dI) vwCl (zW_r_end p0 fs4) H4) hS4 => ?_)))
      have ho4 := OKX9_p2 ho_p0 efs4 ⟨by omega, by omega⟩
      clear hP hS
      refine lv_iload_n hx hb dX9_end_19 rfl (lv_at hl 1 rfl) ?_
      exact q_iret hx hb hr hlocks hS4 dX9_end_20 ⟨fs4, ho4, (q_fr.rf.st efs4 (by decide)), hP4, za_r_end⟩
    · have tc_3 := q_gtN c_3
      refine lv_iconst (v := (-1)) hx hb dX9_end_12 (by decide) ?_
      exact q_iret hx hb hr hlocks hS dX9_end_13 ⟨f_p0, ho_p0, q_fr.rf, hP, za_r_end⟩
