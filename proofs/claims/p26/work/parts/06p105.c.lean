def zo_r_fault : List Cond := [.code yX9_fault cX9_fault 2 (some .int), .fieldLink RX9 16 "BowWalkModel" "faultPlace" "I", .fieldLink RX9 173 "BowWalkModel" "faultKind" "I"]
def zw_r_fault : List Cond := zo_r_fault ++ (wsX90 ++ [])
theorem gz_r_fault : zw_r_fault.all goodWord = true := p1_ga (by decide +kernel) (p1_ga gk_X9 p1_g0)
theorem iz_r_fault : ∀ w ∈ zw_r_fault, w ∈ lw_tbl := p1_ia (p1_all [1430, 1042, 1041] (by decide +kernel)) (p1_ia ik_X9 p1_i0)
def zW_r_fault (p0 : Nat) (f_p0 : List Value) : va_W := [(p0, .inr (8, f_p0))]
def zT_r_fault : List (ClassId × FieldType) := []
def zA_r_fault (p0 : Nat) : List Nat := [p0]
theorem za_r_fault {p0 : Nat} {f_p0 : List Value} : (zW_r_fault p0 f_p0).map Prod.fst = (zA_r_fault p0) := rfl
def zG_r_fault (p0 : Nat) (f_p0 : List Value) (a1 : Int32) (r : Int32) (X : va_W → Prop) : Prop := X (zW_r_fault p0 f_p0)
theorem zm_r_fault {p0 : Nat} {f_p0 : List Value} {a1 : Int32} : ∀ (r : Int32), ∀ X Y : va_W → Prop, (∀ w, X w → Y w) → zG_r_fault p0 f_p0 a1 r X → zG_r_fault p0 f_p0 a1 r Y := fun r X Y h h1 => h _ h1
set_option maxHeartbeats 4000000 in
set_option maxRecDepth 100000 in
theorem r_fault (l : Launch) (dC : Nat → ClassId) (dI : Nat → Nat → Nat) (sz : Nat) (p0 : Nat) (f_p0 : List Value) (a1 : Int32) (ho_p0 : OKX9 f_p0) : Met l yX9_fault zw_r_fault ({ frames := 0, cells := 0, slots := 0, locals := 0 }) (va_Pc [.ref p0, .int a1] (q_pre (dC, dI) (zW_r_fault p0 f_p0) (zT_r_fault) q_E0 sz)) (q_Qi (dC, dI) (zG_r_fault p0 f_p0 a1) (zA_r_fault p0) (va_A (zW_r_fault p0 f_p0) sz)) 0 0 (va_A (zW_r_fault p0 f_p0) sz) := by
  refine Met.ofW (cc := cX9_fault) (maxL := 2) (ret := (some .int)) (by decide) rfl ?_
  intro p e s m args below meth c s₁ B hml hv
  obtain ⟨rfl, hsz, hP, hK, hD0, hE⟩ := hv
  have hx := B.exec
  have hb := B.bytes
  have hr := B.returns
  have hts := atoms_spec (ws := zw_r_fault) B.pre
  have hown : s.vm.findClass RX9 = some m.cls := findClass_of_methodNamed B.named
  have hlocks := B.notSynchronized
  subst hsz
  have hD := hD0.self (sz := s.heap.size)
  generalize hAe : va_A (zW_r_fault p0 f_p0) s.heap.size = A at hD hE ⊢
  have hA : ∀ q : Nat, s.heap.size ≤ q → A q := fun q h => by rw [← hAe]; exact Or.inr h
  have hDa : q_DA A (zA_r_fault p0) := q_DA.mk hD za_r_fault
  clear hAe hD0 hD
  have hS : va_S A s.heap s.heap [] := va_S.rf
  have m_0 : (.fieldLink RX9 16 "BowWalkModel" "faultPlace" "I" : Cond) ∈ zw_r_fault := List.mem_append_left _ (List.mem_of_getElem? (i := 1) rfl)
  have k_0 := hts _ m_0
  have m_1 : (.fieldLink RX9 173 "BowWalkModel" "faultKind" "I" : Cond) ∈ zw_r_fault := List.mem_append_left _ (List.mem_of_getElem? (i := 2) rfl)
  have k_1 := hts _ m_1
  have i_X9 : ∀ w ∈ u_ws RX9 TX9 81, w ∈ zw_r_fault := fun w h => List.mem_append_right _ (List.mem_append_left _ h)
  have lt_m1 : ((-1) : Int32).toInt = -1 := by decide
  have lt_0 : (0 : Int32).toInt = 0 := by decide
  have lt_1 : (1 : Int32).toInt = 1 := by decide
  have hl := lv_entry ([.ref p0, .int a1]) (n := 2) (Nat.le_of_ble_eq_true rfl)
  rw [lg_entry_eq]
  generalize (lg_sl ([.ref p0, .int a1]) ++ List.replicate (2 - (lg_sl ([.ref p0, .int a1])).length) Slot.unset).toArray = ls at hl ⊢
  have hl : lv_has ls 2 [(0, .ref p0), (1, .int a1)] := hl
  refine lv_iload_n hx hb dX9_fault_0 rfl (lv_at hl 1 rfl) ?_
  refine lv_if_ne (tgt := 11) hx hb dX9_fault_1 (by decide) (fun c_1 => ?_) (fun c_1 => ?_)
  · have tc_1 := q_ne c_1
    refine lv_iload_n hx hb dX9_fault_11 rfl (lv_at hl 1 rfl) (lv_iconst (v := 1) hx hb dX9_fault_12 (by decide) ?_)
    refine lv_icmp_ne (tgt := 23) hx hb dX9_fault_13 (by decide) (fun c_2 => ?_) (fun c_2 => ?_)
    · have tc_2 := q_ne c_2
      refine lv_iconst (v := (-1)) hx hb dX9_fault_23 (by decide) ?_
      exact q_iret hx hb hr hlocks hS dX9_fault_24 ⟨hP, za_r_fault⟩
    · have tc_2 := q_eqN c_2
      refine lv_aload_n hx hb dX9_fault_16 rfl (lv_at hl 0 rfl) ?_
      obtain ⟨v_3, fv_3⟩ := OKX9_g5 ho_p0
      refine qg_X9_5 hx hb hts i_X9 hown hK hP 0 rfl k_0 fv_3 dX9_fault_17 (lv_goto (tgt := 24) hx hb dX9_fault_20 (by decide) ?_)
      exact q_iret hx hb hr hlocks hS dX9_fault_24 ⟨hP, za_r_fault⟩
  · have tc_1 := q_eqN c_1
    refine lv_aload_n hx hb dX9_fault_4 rfl (lv_at hl 0 rfl) ?_
    obtain ⟨v_4, fv_4, tv_4⟩ := OKX9_g4 ho_p0
    refine qg_X9_4 hx hb hts i_X9 hown hK hP 0 rfl k_1 fv_4 dX9_fault_5 (lv_goto (tgt := 24) hx hb dX9_fault_8 (by decide) ?_)
    exact q_iret hx hb hr hlocks hS dX9_fault_24 ⟨hP, za_r_fault⟩
def zo_r_untell : List Cond := [.code yX9_untell cX9_untell 2 (some .boolean), .fieldLink RX9 301 "BowWalkModel" "films" "I", .methodLink RX9 389 yX9_isIn, .static yX9_isIn, .initialized RX9, .fieldLink RX9 152 "BowWalkModel" "fUntold" "[I", .fieldLink RX9 517 "BowWalkModel" "time" "I"]
def zw_r_untell : List Cond := zo_r_untell ++ (zw_r_isIn ++ (wsX90 ++ []))
theorem gz_r_untell : zw_r_untell.all goodWord = true := p1_ga (by decide +kernel) (p1_ga gz_r_isIn (p1_ga gk_X9 p1_g0))
theorem iz_r_untell : ∀ w ∈ zw_r_untell, w ∈ lw_tbl := p1_ia (p1_all [1639, 1112, 1439, 1440, 116, 1111, 1113] (by decide +kernel)) (p1_ia iz_r_isIn (p1_ia ik_X9 p1_i0))
def zW_r_untell (p0 : Nat) (f_p0 : List Value) (p0_fUntold : Nat) (c_p0_fUntold : ClassId) (b_p0_fUntold : Nat → Int32) : va_W := [(p0, .inr (8, f_p0)), (p0_fUntold, .inl (c_p0_fUntold, 40, .inl b_p0_fUntold))]
def zT_r_untell (c_p0_fUntold : ClassId) : List (ClassId × FieldType) := [(c_p0_fUntold, .int)]
def zA_r_untell (p0 : Nat) (p0_fUntold : Nat) : List Nat := [p0, p0_fUntold]
theorem za_r_untell {p0 : Nat} {f_p0 : List Value} {p0_fUntold : Nat} {c_p0_fUntold : ClassId} {b_p0_fUntold : Nat → Int32} : (zW_r_untell p0 f_p0 p0_fUntold c_p0_fUntold b_p0_fUntold).map Prod.fst = (zA_r_untell p0 p0_fUntold) := rfl
def zG_r_untell (p0 : Nat) (f_p0 : List Value) (p0_fUntold : Nat) (c_p0_fUntold : ClassId) (b_p0_fUntold : Nat → Int32) (a1 : Int32) (fi : Int32) (r : Int32) (X : va_W → Prop) : Prop := ∃ (y_p0_fUntold : Nat → Int32), ((r = 1 ∧ (True)) ∨ (r = 0 ∧ (True))) ∧ X (zW_r_untell p0 f_p0 p0_fUntold c_p0_fUntold y_p0_fUntold)
theorem zm_r_untell {p0 : Nat} {f_p0 : List Value} {p0_fUntold : Nat} {c_p0_fUntold : ClassId} {b_p0_fUntold : Nat → Int32} {a1 : Int32} {fi : Int32} : ∀ (r : Int32), ∀ X Y : va_W → Prop, (∀ w, X w → Y w) → zG_r_untell p0 f_p0 p0_fUntold c_p0_fUntold b_p0_fUntold a1 fi r X → zG_r_untell p0 f_p0 p0_fUntold c_p0_fUntold b_p0_fUntold a1 fi r Y := fun r X Y h h1 => by obtain ⟨x0, x1, hx⟩ := h1; exact ⟨x0, x1, h _ hx⟩
set_option maxHeartbeats 4000000 in
set_option maxRecDepth 100000 in
theorem r_untell (l : Launch) (dC : Nat → ClassId) (dI : Nat → Nat → Nat) (sz : Nat) (p0 : Nat) (f_p0 : List Value) (p0_fUntold : Nat) (c_p0_fUntold : ClassId) (b_p0_fUntold : Nat → Int32) (a1 : Int32) (fi : Int32) (ho_p0 : OKX9 f_p0) (fr_p0_74 : q_rf f_p0 74 p0_fUntold) (pf_fi : q_if f_p0 75 fi) : Met l yX9_untell zw_r_untell ({ frames := 1, cells := 0, slots := 0, locals := 22 }) (va_Pc [.ref p0, .int a1] (q_pre (dC, dI) (zW_r_untell p0 f_p0 p0_fUntold c_p0_fUntold b_p0_fUntold) (zT_r_untell c_p0_fUntold) q_E0 sz)) (q_Qi (dC, dI) (zG_r_untell p0 f_p0 p0_fUntold c_p0_fUntold b_p0_fUntold a1 fi) (zA_r_untell p0 p0_fUntold) (va_A (zW_r_untell p0 f_p0 p0_fUntold c_p0_fUntold b_p0_fUntold) sz)) 0 0 (va_A (zW_r_untell p0 f_p0 p0_fUntold c_p0_fUntold b_p0_fUntold) sz) := by
  refine Met.ofW (cc := cX9_untell) (maxL := 2) (ret := (some .boolean)) (by decide) rfl ?_
  intro p e s m args below meth c s₁ B hml hv
  obtain ⟨rfl, hsz, hP, hK, hD0, hE⟩ := hv
  have hx := B.exec
  have hb := B.bytes
  have hr := B.returns
  have hts := atoms_spec (ws := zw_r_untell) B.pre
  have hown : s.vm.findClass RX9 = some m.cls := findClass_of_methodNamed B.named
  have hlocks := B.notSynchronized
  subst hsz
  have hD := hD0.self (sz := s.heap.size)
  generalize hAe : va_A (zW_r_untell p0 f_p0 p0_fUntold c_p0_fUntold b_p0_fUntold) s.heap.size = A at hD hE ⊢
  have hA : ∀ q : Nat, s.heap.size ≤ q → A q := fun q h => by rw [← hAe]; exact Or.inr h
  have hDa : q_DA A (zA_r_untell p0 p0_fUntold) := q_DA.mk hD za_r_untell
  clear hAe hD0 hD
  have hS : va_S A s.heap s.heap [] := va_S.rf
  have m_0 : (.fieldLink RX9 301 "BowWalkModel" "films" "I" : Cond) ∈ zw_r_untell := List.mem_append_left _ (List.mem_of_getElem? (i := 1) rfl)
  have k_0 := hts _ m_0
  have m_1 : (.methodLink RX9 389 yX9_isIn : Cond) ∈ zw_r_untell := List.mem_append_left _ (List.mem_of_getElem? (i := 2) rfl)
  have k_1 := hts _ m_1
  have m_2 : (.static yX9_isIn : Cond) ∈ zw_r_untell := List.mem_append_left _ (List.mem_of_getElem? (i := 3) rfl)
  have k_2 := hts _ m_2
  have m_3 : (.initialized RX9 : Cond) ∈ zw_r_untell := List.mem_append_left _ (List.mem_of_getElem? (i := 4) rfl)
  have k_3 := hts _ m_3
  have m_4 : (.fieldLink RX9 152 "BowWalkModel" "fUntold" "[I" : Cond) ∈ zw_r_untell := List.mem_append_left _ (List.mem_of_getElem? (i := 5) rfl)
  have k_4 := hts _ m_4
  have m_5 : (.fieldLink RX9 517 "BowWalkModel" "time" "I" : Cond) ∈ zw_r_untell := List.mem_append_left _ (List.mem_of_getElem? (i := 6) rfl)
  have k_5 := hts _ m_5
  have g_r_isIn : ∀ w ∈ zw_r_isIn, w ∈ zw_r_untell := fun w h => List.mem_append_right _ (List.mem_append_left _ h)
  have i_X9 : ∀ w ∈ u_ws RX9 TX9 81, w ∈ zw_r_untell := fun w h => List.mem_append_right _ (List.mem_append_right _ (List.mem_append_left _ h))
  have lt_0 : (0 : Int32).toInt = 0 := by decide
  have lt_1 : (1 : Int32).toInt = 1 := by decide
  have hl := lv_entry ([.ref p0, .int a1]) (n := 2) (Nat.le_of_ble_eq_true rfl)
  rw [lg_entry_eq]
  generalize (lg_sl ([.ref p0, .int a1]) ++ List.replicate (2 - (lg_sl ([.ref p0, .int a1])).length) Slot.unset).toArray = ls at hl ⊢
  have hl : lv_has ls 2 [(0, .ref p0), (1, .int a1)] := hl
  have tfi := (OKX9_g75 ho_p0).use pf_fi
  refine lv_iload_n hx hb dX9_untell_0 rfl (lv_at hl 1 rfl) (lv_iconst (v := 0) hx hb dX9_untell_1 (by decide) (lv_aload_n hx hb dX9_untell_2 rfl (lv_at hl 0 rfl) (qg_X9_75 hx hb hts i_X9 hown hK hP 0 rfl k_0 pf_fi dX9_untell_3 (lv_iconst (v := 1) hx hb dX9_untell_6 (by decide) (lv_isub hx hb dX9_untell_7 (lv_topi fun v_1 ev_1 => ?_))))))
  have tv_1 := q_sub ev_1 (by omega) (by omega)
  refine q_cSi (As := [.int a1, .int 0, .int v_1]) (rest := []) q_w0 trivial hK hP hDa za_r_untell hS hA [] [] (by decide +kernel) ⟨hx, hb, hml, hown, hts⟩ (r_isIn l dC dI s.heap.size a1 0 v_1) rfl rfl (va_cwS 3 hts (p1_gS m_1 m_2 m_3 g_r_isIn gz_r_isIn) rfl rfl rfl (by decide +kernel) ⟨by decide, by decide⟩) zm_r_isIn rfl hl.1 rfl (Nat.le_of_ble_eq_true rfl) dX9_untell_8 ⟨by decide, by decide⟩ (fun r_2 H3 lo3 hG3 hS3 => ?_)
  obtain ⟨z_4, hQ3⟩ := hG3
  have hP3 : va_P (dC, dI) vwCl (zW_r_untell p0 f_p0 p0_fUntold c_p0_fUntold b_p0_fUntold) H3 := hQ3
  clear hQ3 hP hS
  rcases z_4 with ⟨rfl, z_4⟩ | ⟨rfl, z_4⟩
  · refine lv_if_eq (tgt := 23) hx hb dX9_untell_11 (by decide) (fun c_5 => absurd c_5 (by decide)) (fun c_5 => ?_)
    refine lv_aload_n hx hb dX9_untell_14 rfl (lv_at hl 0 rfl) (qg_X9_74 hx hb hts i_X9 hown hK hP3 0 rfl k_4 fr_p0_74 dX9_untell_15 (lv_iload_n hx hb dX9_untell_18 rfl (lv_at hl 1 rfl) (q_ild hx hb hK hP3 1 0 rfl rfl (q_in (by omega) (by omega)) dX9_untell_19 (fun v_6 ev_6 => ?_))))
    refine lv_if_lt (tgt := 25) hx hb dX9_untell_20 (by decide) (fun c_7 => ?_) (fun c_7 => ?_)
    · have tc_7 := q_lt c_7
      refine lv_aload_n hx hb dX9_untell_25 rfl (lv_at hl 0 rfl) (qg_X9_74 hx hb hts i_X9 hown hK hP3 0 rfl k_4 fr_p0_74 dX9_untell_26 (lv_iload_n hx hb dX9_untell_29 rfl (lv_at hl 1 rfl) (lv_aload_n hx hb dX9_untell_30 rfl (lv_at hl 0 rfl) ?_)))
      obtain ⟨v_8, fv_8, tv_8⟩ := OKX9_g76 ho_p0
      refine qg_X9_76 hx hb hts i_X9 hown hK hP3 0 rfl k_5 fv_8 dX9_untell_31 (q_ist hx hb hK hP3 hDa za_r_untell hS3 1 0 rfl rfl (q_in (by omega) (by omega)) dX9_untell_34 (fun H9 lo9 g9 eg9 (hP9 : va_P (dC, dI) vwCl (zW_r_untell p0 f_p0 p0_fUntold c_p0_fUntold g9) H9) hS9 => ?_))
      clear hP3 hS3
      refine lv_iconst (v := 1) hx hb dX9_untell_35 (by decide) ?_
      exact q_zret hx hb hr hlocks (by decide) hS9 dX9_untell_36 ⟨g9, (Or.inl ⟨rfl, by first | trivial | omega⟩), hP9, za_r_untell⟩
    · have tc_7 := q_geN c_7
      refine lv_iconst (v := 0) hx hb dX9_untell_23 (by decide) ?_
      exact q_zret hx hb hr hlocks (by decide) hS3 dX9_untell_24 ⟨b_p0_fUntold, (Or.inr ⟨rfl, by first | trivial | omega⟩), hP3, za_r_untell⟩
  · refine lv_if_eq (tgt := 23) hx hb dX9_untell_11 (by decide) (fun c_10 => ?_) (fun c_10 => absurd c_10 (by decide))
    refine lv_iconst (v := 0) hx hb dX9_untell_23 (by decide) ?_
    exact q_zret hx hb hr hlocks (by decide) hS3 dX9_untell_24 ⟨b_p0_fUntold, (Or.inr ⟨rfl, by first | trivial | omega⟩), hP3, za_r_untell⟩
def zo_r_film : List Cond := [.code yX9_film cX9_film 6 (some .int), .methodLink RX9 431 yX9_isKnot, .instanceMethod yX9_isKnot, .selects RX9 yX9_isKnot yX9_isKnot, .initialized RX9, .methodLink RX9 455 yX9_isWalk, .instanceMethod yX9_isWalk, .selects RX9 yX9_isWalk yX9_isWalk, .methodLink RX9 389 yX9_isIn, .static yX9_isIn, .fieldLink RX9 301 "BowWalkModel" "films" "I", .fieldLink RX9 134 "BowWalkModel" "fKnot" "[I", .fieldLink RX9 137 "BowWalkModel" "fWalk" "[I", .fieldLink RX9 140 "BowWalkModel" "fSteps" "[I", .fieldLink RX9 143 "BowWalkModel" "fLength" "[I", .fieldLink RX9 146 "BowWalkModel" "fOff" "[I", .fieldLink RX9 149 "BowWalkModel" "fTold" "[I", .fieldLink RX9 517 "BowWalkModel" "time" "I", .fieldLink RX9 152 "BowWalkModel" "fUntold" "[I"]
def zw_r_film : List Cond := zo_r_film ++ (zw_r_isKnot ++ (zw_r_isWalk ++ (zw_r_isIn ++ (wsX90 ++ []))))
theorem gz_r_film : zw_r_film.all goodWord = true := p1_ga (by decide +kernel) (p1_ga gz_r_isKnot (p1_ga gz_r_isWalk (p1_ga gz_r_isIn (p1_ga gk_X9 p1_g0))))
theorem iz_r_film : ∀ w ∈ zw_r_film, w ∈ lw_tbl := p1_ia (p1_all [1635, 1435, 1437, 71, 116, 1458, 1460, 75, 1439, 1440, 1112, 1105, 1106, 1107, 1108, 1109, 1110, 1113, 1111] (by decide +kernel)) (p1_ia iz_r_isKnot (p1_ia iz_r_isWalk (p1_ia iz_r_isIn (p1_ia ik_X9 p1_i0))))
def zW_r_film (p0 : Nat) (f_p0 : List Value) (p0_fKnot : Nat) (c_p0_fKnot : ClassId) (b_p0_fKnot : Nat → Int32) (p0_fLength : Nat) (c_p0_fLength : ClassId) (b_p0_fLength : Nat → Int32) (p0_fOff : Nat) (c_p0_fOff : ClassId) (b_p0_fOff : Nat → Int32) (p0_fSteps : Nat) (c_p0_fSteps : ClassId) (b_p0_fSteps : Nat → Int32) (p0_fTold : Nat) (c_p0_fTold : ClassId) (b_p0_fTold : Nat → Int32) (p0_fUntold : Nat) (c_p0_fUntold : ClassId) (b_p0_fUntold : Nat → Int32) (p0_fWalk : Nat) (c_p0_fWalk : ClassId) (b_p0_fWalk : Nat → Int32) (p0_knots : Nat) (c_p0_knots : ClassId) (b_p0_knots : Nat → Int32) (p0_walks : Nat) (c_p0_walks : ClassId) (b_p0_walks : Nat → Int32) : va_W := [(p0, .inr (8, f_p0)), (p0_fKnot, .inl (c_p0_fKnot, 40, .inl b_p0_fKnot)), (p0_fLength, .inl (c_p0_fLength, 40, .inl b_p0_fLength)), (p0_fOff, .inl (c_p0_fOff, 40, .inl b_p0_fOff)), (p0_fSteps, .inl (c_p0_fSteps, 40, .inl b_p0_fSteps)), (p0_fTold, .inl (c_p0_fTold, 40, .inl b_p0_fTold)), (p0_fUntold, .inl (c_p0_fUntold, 40, .inl b_p0_fUntold)), (p0_fWalk, .inl (c_p0_fWalk, 40, .inl b_p0_fWalk)), (p0_knots, .inl (c_p0_knots, 2, .inl b_p0_knots)), (p0_walks, .inl (c_p0_walks, 2, .inl b_p0_walks))]
def zT_r_film (c_p0_fKnot : ClassId) (c_p0_fLength : ClassId) (c_p0_fOff : ClassId) (c_p0_fSteps : ClassId) (c_p0_fTold : ClassId) (c_p0_fUntold : ClassId) (c_p0_fWalk : ClassId) (c_p0_knots : ClassId) (c_p0_walks : ClassId) : List (ClassId × FieldType) := [(c_p0_fKnot, .int), (c_p0_fLength, .int), (c_p0_fOff, .int), (c_p0_fSteps, .int), (c_p0_fTold, .int), (c_p0_fUntold, .int), (c_p0_fWalk, .int), (c_p0_knots, .int), (c_p0_walks, .int)]
def zA_r_film (p0 : Nat) (p0_fKnot : Nat) (p0_fLength : Nat) (p0_fOff : Nat) (p0_fSteps : Nat) (p0_fTold : Nat) (p0_fUntold : Nat) (p0_fWalk : Nat) (p0_knots : Nat) (p0_walks : Nat) : List Nat := [p0, p0_fKnot, p0_fLength, p0_fOff, p0_fSteps, p0_fTold, p0_fUntold, p0_fWalk, p0_knots, p0_walks]
theorem za_r_film {p0 : Nat} {f_p0 : List Value} {p0_fKnot : Nat} {c_p0_fKnot : ClassId} {b_p0_fKnot : Nat → Int32} {p0_fLength : Nat} {c_p0_fLength : ClassId} {b_p0_fLength : Nat → Int32} {p0_fOff : Nat} {c_p0_fOff : ClassId} {b_p0_fOff : Nat → Int32} {p0_fSteps : Nat} {c_p0_fSteps : ClassId} {b_p0_fSteps : Nat → Int32} {p0_fTold : Nat} {c_p0_fTold : ClassId} {b_p0_fTold : Nat → Int32} {p0_fUntold : Nat} {c_p0_fUntold : ClassId} {b_p0_fUntold : Nat → Int32} {p0_fWalk : Nat} {c_p0_fWalk : ClassId} {b_p0_fWalk : Nat → Int32} {p0_knots : Nat} {c_p0_knots : ClassId} {b_p0_knots : Nat → Int32} {p0_walks : Nat} {c_p0_walks : ClassId} {b_p0_walks : Nat → Int32} : (zW_r_film p0 f_p0 p0_fKnot c_p0_fKnot b_p0_fKnot p0_fLength c_p0_fLength b_p0_fLength p0_fOff c_p0_fOff b_p0_fOff p0_fSteps c_p0_fSteps b_p0_fSteps p0_fTold c_p0_fTold b_p0_fTold p0_fUntold c_p0_fUntold b_p0_fUntold p0_fWalk c_p0_fWalk b_p0_fWalk p0_knots c_p0_knots b_p0_knots p0_walks c_p0_walks b_p0_walks).map Prod.fst = (zA_r_film p0 p0_fKnot p0_fLength p0_fOff p0_fSteps p0_fTold p0_fUntold p0_fWalk p0_knots p0_walks) := rfl
def zG_r_film (p0 : Nat) (f_p0 : List Value) (p0_fKnot : Nat) (c_p0_fKnot : ClassId) (b_p0_fKnot : Nat → Int32) (p0_fLength : Nat) (c_p0_fLength : ClassId) (b_p0_fLength : Nat → Int32) (p0_fOff : Nat) (c_p0_fOff : ClassId) (b_p0_fOff : Nat → Int32) (p0_fSteps : Nat) (c_p0_fSteps : ClassId) (b_p0_fSteps : Nat → Int32) (p0_fTold : Nat) (c_p0_fTold : ClassId) (b_p0_fTold : Nat → Int32) (p0_fUntold : Nat) (c_p0_fUntold : ClassId) (b_p0_fUntold : Nat → Int32) (p0_fWalk : Nat) (c_p0_fWalk : ClassId) (b_p0_fWalk : Nat → Int32) (p0_knots : Nat) (c_p0_knots : ClassId) (b_p0_knots : Nat → Int32) (p0_walks : Nat) (c_p0_walks : ClassId) (b_p0_walks : Nat → Int32) (a1 : Int32) (a2 : Int32) (a3 : Int32) (a4 : Int32) (a5 : Int32) (bk : Int32) (fi : Int32) (r : Int32) (X : va_W → Prop) : Prop := ∃ (y_p0 : List Value) (y_p0_fKnot : Nat → Int32) (y_p0_fLength : Nat → Int32) (y_p0_fOff : Nat → Int32) (y_p0_fSteps : Nat → Int32) (y_p0_fTold : Nat → Int32) (y_p0_fUntold : Nat → Int32) (y_p0_fWalk : Nat → Int32) (fi1 : Int32), OKX9 y_p0 ∧ q_fr [75] f_p0 y_p0 ∧ (q_rg 40 (0) 5 y_p0_fKnot) ∧ (q_rg 40 (0) 500 y_p0_fSteps) ∧ (q_rg 40 (0) 3 y_p0_fWalk) ∧ q_if y_p0 75 fi1 ∧ (q_FW bk fi1 b_p0_walks y_p0_fWalk) ∧ X (zW_r_film p0 y_p0 p0_fKnot c_p0_fKnot y_p0_fKnot p0_fLength c_p0_fLength y_p0_fLength p0_fOff c_p0_fOff y_p0_fOff p0_fSteps c_p0_fSteps y_p0_fSteps p0_fTold c_p0_fTold y_p0_fTold p0_fUntold c_p0_fUntold y_p0_fUntold p0_fWalk c_p0_fWalk y_p0_fWalk p0_knots c_p0_knots b_p0_knots p0_walks c_p0_walks b_p0_walks)
theorem zm_r_film {p0 : Nat} {f_p0 : List Value} {p0_fKnot : Nat} {c_p0_fKnot : ClassId} {b_p0_fKnot : Nat → Int32} {p0_fLength : Nat} {c_p0_fLength : ClassId} {b_p0_fLength : Nat → Int32} {p0_fOff : Nat} {c_p0_fOff : ClassId} {b_p0_fOff : Nat → Int32} {p0_fSteps : Nat} {c_p0_fSteps : ClassId} {b_p0_fSteps : Nat → Int32} {p0_fTold : Nat} {c_p0_fTold : ClassId} {b_p0_fTold : Nat → Int32} {p0_fUntold : Nat} {c_p0_fUntold : ClassId} {b_p0_fUntold : Nat → Int32} {p0_fWalk : Nat} {c_p0_fWalk : ClassId} {b_p0_fWalk : Nat → Int32} {p0_knots : Nat} {c_p0_knots : ClassId} {b_p0_knots : Nat → Int32} {p0_walks : Nat} {c_p0_walks : ClassId} {b_p0_walks : Nat → Int32} {a1 : Int32} {a2 : Int32} {a3 : Int32} {a4 : Int32} {a5 : Int32} {bk : Int32} {fi : Int32} : ∀ (r : Int32), ∀ X Y : va_W → Prop, (∀ w, X w → Y w) → zG_r_film p0 f_p0 p0_fKnot c_p0_fKnot b_p0_fKnot p0_fLength c_p0_fLength b_p0_fLength p0_fOff c_p0_fOff b_p0_fOff p0_fSteps c_p0_fSteps b_p0_fSteps p0_fTold c_p0_fTold b_p0_fTold p0_fUntold c_p0_fUntold b_p0_fUntold p0_fWalk c_p0_fWalk b_p0_fWalk p0_knots c_p0_knots b_p0_knots p0_walks c_p0_walks b_p0_walks a1 a2 a3 a4 a5 bk fi r X → zG_r_film p0 f_p0 p0_fKnot c_p0_fKnot b_p0_fKnot p0_fLength c_p0_fLength b_p0_fLength p0_fOff c_p0_fOff b_p0_fOff p0_fSteps c_p0_fSteps b_p0_fSteps p0_fTold c_p0_fTold b_p0_fTold p0_fUntold c_p0_fUntold b_p0_fUntold p0_fWalk c_p0_fWalk b_p0_fWalk p0_knots c_p0_knots b_p0_knots p0_walks c_p0_walks b_p0_walks a1 a2 a3 a4 a5 bk fi r Y := fun r X Y h h1 => by obtain ⟨x0, x1, x2, x3, x4, x5, x6, x7, x8, x9, x10, x11, x12, x13, x14, x15, hx⟩ := h1; exact ⟨x0, x1, x2, x3, x4, x5, x6, x7, x8, x9, x10, x11, x12, x13, x14, x15, h _ hx⟩
set_option maxHeartbeats 4000000 in
set_option maxRecDepth 100000 in
theorem r_film (l : Launch) (dC : Nat → ClassId) (dI : Nat → Nat → Nat) (sz : Nat) (p0 : Nat) (f_p0 : List Value) (p0_fKnot : Nat) (c_p0_fKnot : ClassId) (b_p0_fKnot : Nat → Int32) (p0_fLength : Nat) (c_p0_fLength : ClassId) (b_p0_fLength : Nat → Int32) (p0_fOff : Nat) (c_p0_fOff : ClassId) (b_p0_fOff : Nat → Int32) (p0_fSteps : Nat) (c_p0_fSteps : ClassId) (b_p0_fSteps : Nat → Int32) (p0_fTold : Nat) (c_p0_fTold : ClassId) (b_p0_fTold : Nat → Int32) (p0_fUntold : Nat) (c_p0_fUntold : ClassId) (b_p0_fUntold : Nat → Int32) (p0_fWalk : Nat) (c_p0_fWalk : ClassId) (b_p0_fWalk : Nat → Int32) (p0_knots : Nat) (c_p0_knots : ClassId) (b_p0_knots : Nat → Int32) (p0_walks : Nat) (c_p0_walks : ClassId) (b_p0_walks : Nat → Int32) (a1 : Int32) (a2 : Int32) (a3 : Int32) (a4 : Int32) (a5 : Int32) (bk : Int32) (fi : Int32) (ho_p0 : OKX9 f_p0) (fr_p0_11 : q_rf f_p0 11 p0_knots) (fr_p0_13 : q_rf f_p0 13 p0_walks) (fr_p0_68 : q_rf f_p0 68 p0_fKnot) (fr_p0_69 : q_rf f_p0 69 p0_fWalk) (fr_p0_70 : q_rf f_p0 70 p0_fSteps) (fr_p0_71 : q_rf f_p0 71 p0_fLength) (fr_p0_72 : q_rf f_p0 72 p0_fOff) (fr_p0_73 : q_rf f_p0 73 p0_fTold) (fr_p0_74 : q_rf f_p0 74 p0_fUntold) (hr_p0_fKnot : q_rg 40 (0) 5 b_p0_fKnot) (hr_p0_fSteps : q_rg 40 (0) 500 b_p0_fSteps) (hr_p0_fWalk : q_rg 40 (0) 3 b_p0_fWalk) (hr_p0_knots : q_rg 2 (0) 6 b_p0_knots) (hr_p0_walks : q_rg 2 (0) 4 b_p0_walks) (pf_bk : q_if f_p0 43 bk) (pf_fi : q_if f_p0 75 fi) (hFW : q_FW bk fi b_p0_walks b_p0_fWalk) : Met l yX9_film zw_r_film ({ frames := 2, cells := 0, slots := 0, locals := 43 }) (va_Pc [.ref p0, .int a1, .int a2, .int a3, .int a4, .int a5] (q_pre (dC, dI) (zW_r_film p0 f_p0 p0_fKnot c_p0_fKnot b_p0_fKnot p0_fLength c_p0_fLength b_p0_fLength p0_fOff c_p0_fOff b_p0_fOff p0_fSteps c_p0_fSteps b_p0_fSteps p0_fTold c_p0_fTold b_p0_fTold p0_fUntold c_p0_fUntold b_p0_fUntold p0_fWalk c_p0_fWalk b_p0_fWalk p0_knots c_p0_knots b_p0_knots p0_walks c_p0_walks b_p0_walks) (zT_r_film c_p0_fKnot c_p0_fLength c_p0_fOff c_p0_fSteps c_p0_fTold c_p0_fUntold c_p0_fWalk c_p0_knots c_p0_walks) q_E0 sz)) (q_Qi (dC, dI) (zG_r_film p0 f_p0 p0_fKnot c_p0_fKnot b_p0_fKnot p0_fLength c_p0_fLength b_p0_fLength p0_fOff c_p0_fOff b_p0_fOff p0_fSteps c_p0_fSteps b_p0_fSteps p0_fTold c_p0_fTold b_p0_fTold p0_fUntold c_p0_fUntold b_p0_fUntold p0_fWalk c_p0_fWalk b_p0_fWalk p0_knots c_p0_knots b_p0_knots p0_walks c_p0_walks b_p0_walks a1 a2 a3 a4 a5 bk fi) (zA_r_film p0 p0_fKnot p0_fLength p0_fOff p0_fSteps p0_fTold p0_fUntold p0_fWalk p0_knots p0_walks) (va_A (zW_r_film p0 f_p0 p0_fKnot c_p0_fKnot b_p0_fKnot p0_fLength c_p0_fLength b_p0_fLength p0_fOff c_p0_fOff b_p0_fOff p0_fSteps c_p0_fSteps b_p0_fSteps p0_fTold c_p0_fTold b_p0_fTold p0_fUntold c_p0_fUntold b_p0_fUntold p0_fWalk c_p0_fWalk b_p0_fWalk p0_knots c_p0_knots b_p0_knots p0_walks c_p0_walks b_p0_walks) sz)) 0 0 (va_A (zW_r_film p0 f_p0 p0_fKnot c_p0_fKnot b_p0_fKnot p0_fLength c_p0_fLength b_p0_fLength p0_fOff c_p0_fOff b_p0_fOff p0_fSteps c_p0_fSteps b_p0_fSteps p0_fTold c_p0_fTold b_p0_fTold p0_fUntold c_p0_fUntold b_p0_fUntold p0_fWalk c_p0_fWalk b_p0_fWalk p0_knots c_p0_knots b_p0_knots p0_walks c_p0_walks b_p0_walks) sz) := by
  refine Met.ofW (cc := cX9_film) (maxL := 6) (ret := (some .int)) (by decide) rfl ?_
  intro p e s m args below meth c s₁ B hml hv
  obtain ⟨rfl, hsz, hP, hK, hD0, hE⟩ := hv
  have hx := B.exec
  have hb := B.bytes
  have hr := B.returns
  have hts := atoms_spec (ws := zw_r_film) B.pre
  have hown : s.vm.findClass RX9 = some m.cls := findClass_of_methodNamed B.named
  have hlocks := B.notSynchronized
  subst hsz
  have hD := hD0.self (sz := s.heap.size)
  generalize hAe : va_A (zW_r_film p0 f_p0 p0_fKnot c_p0_fKnot b_p0_fKnot p0_fLength c_p0_fLength b_p0_fLength p0_fOff c_p0_fOff b_p0_fOff p0_fSteps c_p0_fSteps b_p0_fSteps p0_fTold c_p0_fTold b_p0_fTold p0_fUntold c_p0_fUntold b_p0_fUntold p0_fWalk c_p0_fWalk b_p0_fWalk p0_knots c_p0_knots b_p0_knots p0_walks c_p0_walks b_p0_walks) s.heap.size = A at hD hE ⊢
  have hA : ∀ q : Nat, s.heap.size ≤ q → A q := fun q h => by rw [← hAe]; exact Or.inr h
  have hDa : q_DA A (zA_r_film p0 p0_fKnot p0_fLength p0_fOff p0_fSteps p0_fTold p0_fUntold p0_fWalk p0_knots p0_walks) := q_DA.mk hD za_r_film
  clear hAe hD0 hD
  have hS : va_S A s.heap s.heap [] := va_S.rf
  have m_0 : (.methodLink RX9 431 yX9_isKnot : Cond) ∈ zw_r_film := List.mem_append_left _ (List.mem_of_getElem? (i := 1) rfl)
  have k_0 := hts _ m_0
  have m_1 : (.instanceMethod yX9_isKnot : Cond) ∈ zw_r_film := List.mem_append_left _ (List.mem_of_getElem? (i := 2) rfl)
  have k_1 := hts _ m_1
  have m_2 : (.selects RX9 yX9_isKnot yX9_isKnot : Cond) ∈ zw_r_film := List.mem_append_left _ (List.mem_of_getElem? (i := 3) rfl)
  have k_2 := hts _ m_2
  have m_3 : (.initialized RX9 : Cond) ∈ zw_r_film := List.mem_append_left _ (List.mem_of_getElem? (i := 4) rfl)
  have k_3 := hts _ m_3
  have m_4 : (.methodLink RX9 455 yX9_isWalk : Cond) ∈ zw_r_film := List.mem_append_left _ (List.mem_of_getElem? (i := 5) rfl)
  have k_4 := hts _ m_4
  have m_5 : (.instanceMethod yX9_isWalk : Cond) ∈ zw_r_film := List.mem_append_left _ (List.mem_of_getElem? (i := 6) rfl)
  have k_5 := hts _ m_5
  have m_6 : (.selects RX9 yX9_isWalk yX9_isWalk : Cond) ∈ zw_r_film := List.mem_append_left _ (List.mem_of_getElem? (i := 7) rfl)
  have k_6 := hts _ m_6
  have m_7 : (.methodLink RX9 389 yX9_isIn : Cond) ∈ zw_r_film := List.mem_append_left _ (List.mem_of_getElem? (i := 8) rfl)
  have k_7 := hts _ m_7
  have m_8 : (.static yX9_isIn : Cond) ∈ zw_r_film := List.mem_append_left _ (List.mem_of_getElem? (i := 9) rfl)
  have k_8 := hts _ m_8
  have m_9 : (.fieldLink RX9 301 "BowWalkModel" "films" "I" : Cond) ∈ zw_r_film := List.mem_append_left _ (List.mem_of_getElem? (i := 10) rfl)
  have k_9 := hts _ m_9
  have m_10 : (.fieldLink RX9 134 "BowWalkModel" "fKnot" "[I" : Cond) ∈ zw_r_film := List.mem_append_left _ (List.mem_of_getElem? (i := 11) rfl)
  have k_10 := hts _ m_10
  have m_11 : (.fieldLink RX9 137 "BowWalkModel" "fWalk" "[I" : Cond) ∈ zw_r_film := List.mem_append_left _ (List.mem_of_getElem? (i := 12) rfl)
  have k_11 := hts _ m_11
  have m_12 : (.fieldLink RX9 140 "BowWalkModel" "fSteps" "[I" : Cond) ∈ zw_r_film := List.mem_append_left _ (List.mem_of_getElem? (i := 13) rfl)
  have k_12 := hts _ m_12
  have m_13 : (.fieldLink RX9 143 "BowWalkModel" "fLength" "[I" : Cond) ∈ zw_r_film := List.mem_append_left _ (List.mem_of_getElem? (i := 14) rfl)
  have k_13 := hts _ m_13
  have m_14 : (.fieldLink RX9 146 "BowWalkModel" "fOff" "[I" : Cond) ∈ zw_r_film := List.mem_append_left _ (List.mem_of_getElem? (i := 15) rfl)
  have k_14 := hts _ m_14
  have m_15 : (.fieldLink RX9 149 "BowWalkModel" "fTold" "[I" : Cond) ∈ zw_r_film := List.mem_append_left _ (List.mem_of_getElem? (i := 16) rfl)
  have k_15 := hts _ m_15
  have m_16 : (.fieldLink RX9 517 "BowWalkModel" "time" "I" : Cond) ∈ zw_r_film := List.mem_append_left _ (List.mem_of_getElem? (i := 17) rfl)
  have k_16 := hts _ m_16
  have m_17 : (.fieldLink RX9 152 "BowWalkModel" "fUntold" "[I" : Cond) ∈ zw_r_film := List.mem_append_left _ (List.mem_of_getElem? (i := 18) rfl)
  have k_17 := hts _ m_17
  have g_r_isKnot : ∀ w ∈ zw_r_isKnot, w ∈ zw_r_film := fun w h => List.mem_append_right _ (List.mem_append_left _ h)
  have g_r_isWalk : ∀ w ∈ zw_r_isWalk, w ∈ zw_r_film := fun w h => List.mem_append_right _ (List.mem_append_right _ (List.mem_append_left _ h))
  have g_r_isIn : ∀ w ∈ zw_r_isIn, w ∈ zw_r_film := fun w h => List.mem_append_right _ (List.mem_append_right _ (List.mem_append_right _ (List.mem_append_left _ h)))
  have i_X9 : ∀ w ∈ u_ws RX9 TX9 81, w ∈ zw_r_film := fun w h => List.mem_append_right _ (List.mem_append_right _ (List.mem_append_right _ (List.mem_append_right _ (List.mem_append_left _ h))))
  have lt_m1 : ((-1) : Int32).toInt = -1 := by decide
  have lt_0 : (0 : Int32).toInt = 0 := by decide
  have lt_1 : (1 : Int32).toInt = 1 := by decide
  have lt_40 : (40 : Int32).toInt = 40 := by decide
  have lt_500 : (500 : Int32).toInt = 500 := by decide
  have lt_999 : (999 : Int32).toInt = 999 := by decide
  have lt_29999 : (29999 : Int32).toInt = 29999 := by decide
  have hl := lv_entry ([.ref p0, .int a1, .int a2, .int a3, .int a4, .int a5]) (n := 6) (Nat.le_of_ble_eq_true rfl)
  rw [lg_entry_eq]
  generalize (lg_sl ([.ref p0, .int a1, .int a2, .int a3, .int a4, .int a5]) ++ List.replicate (6 - (lg_sl ([.ref p0, .int a1, .int a2, .int a3, .int a4, .int a5])).length) Slot.unset).toArray = ls at hl ⊢
  have hl : lv_has ls 6 [(0, .ref p0), (1, .int a1), (2, .int a2), (3, .int a3), (4, .int a4), (5, .int a5)] := hl
  have tbk := (OKX9_g43 ho_p0).use pf_bk
  have tfi := (OKX9_g75 ho_p0).use pf_fi
  have hwb := hr_p0_walks bk.toNatClampNeg (q_cl (q_in (by omega) (by omega)))
  refine lv_aload_n hx hb dX9_film_0 rfl (lv_at hl 0 rfl) (lv_iload_n hx hb dX9_film_1 rfl (lv_at hl 1 rfl) ?_)
  refine q_cVi (As := [.int a1]) (rest := []) q_w0 trivial hK hP hDa za_r_film hS hA [0, 8] [7] (by decide +kernel) ⟨hx, hb, hml, hown, hts⟩ (r_isKnot l dC dI s.heap.size p0 f_p0 p0_knots c_p0_knots b_p0_knots a1 bk ho_p0 fr_p0_11 hr_p0_knots pf_bk) rfl rfl (cwV 1 hts (p1_gV m_0 m_1 m_2 m_3 g_r_isKnot gz_r_isKnot) rfl rfl rfl (by decide +kernel) ⟨by decide, by decide⟩) (va_recv hK hP (ci := 8) (q0 := 0) rfl rfl) zm_r_isKnot rfl hl.1 rfl (Nat.le_of_ble_eq_true rfl) dX9_film_2 ⟨by decide, by decide⟩ (fun r_1 H2 lo2 hG2 hS2 => ?_)
  obtain ⟨z_3, hQ2⟩ := hG2
  have hP2 : va_P (dC, dI) vwCl (zW_r_film p0 f_p0 p0_fKnot c_p0_fKnot b_p0_fKnot p0_fLength c_p0_fLength b_p0_fLength p0_fOff c_p0_fOff b_p0_fOff p0_fSteps c_p0_fSteps b_p0_fSteps p0_fTold c_p0_fTold b_p0_fTold p0_fUntold c_p0_fUntold b_p0_fUntold p0_fWalk c_p0_fWalk b_p0_fWalk p0_knots c_p0_knots b_p0_knots p0_walks c_p0_walks b_p0_walks) H2 := hQ2
  clear hQ2 hP hS
  rcases z_3 with ⟨rfl, z_3⟩ | ⟨rfl, z_3⟩
  · refine lv_if_eq (tgt := 60) hx hb dX9_film_5 (by decide) (fun c_4 => absurd c_4 (by decide)) (fun c_4 => ?_)
    refine lv_aload_n hx hb dX9_film_8 rfl (lv_at hl 0 rfl) (lv_iload_n hx hb dX9_film_9 rfl (lv_at hl 2 rfl) ?_)
    refine q_cVi (As := [.int a2]) (rest := []) q_w0 trivial hK hP2 hDa za_r_film hS2 hA [0, 9] [8] (by decide +kernel) ⟨hx, hb, hml, hown, hts⟩ (r_isWalk l dC dI H2.size p0 f_p0 p0_walks c_p0_walks b_p0_walks a2 bk ho_p0 fr_p0_13 hr_p0_walks pf_bk) rfl rfl (cwV 1 hts (p1_gV m_4 m_5 m_6 m_3 g_r_isWalk gz_r_isWalk) rfl rfl rfl (by decide +kernel) ⟨by decide, by decide⟩) (va_recv hK hP2 (ci := 8) (q0 := 0) rfl rfl) zm_r_isWalk rfl hl.1 rfl (Nat.le_of_ble_eq_true rfl) dX9_film_10 ⟨by decide, by decide⟩ (fun r_5 H6 lo6 hG6 hS6 => ?_)
    obtain ⟨z_7, hQ6⟩ := hG6
    have hP6 : va_P (dC, dI) vwCl (zW_r_film p0 f_p0 p0_fKnot c_p0_fKnot b_p0_fKnot p0_fLength c_p0_fLength b_p0_fLength p0_fOff c_p0_fOff b_p0_fOff p0_fSteps c_p0_fSteps b_p0_fSteps p0_fTold c_p0_fTold b_p0_fTold p0_fUntold c_p0_fUntold b_p0_fUntold p0_fWalk c_p0_fWalk b_p0_fWalk p0_knots c_p0_knots b_p0_knots p0_walks c_p0_walks b_p0_walks) H6 := hQ6
    clear hQ6 hP2 hS2
    rcases z_7 with ⟨rfl, z_7⟩ | ⟨rfl, z_7⟩
    · refine lv_if_eq (tgt := 60) hx hb dX9_film_13 (by decide) (fun c_8 => absurd c_8 (by decide)) (fun c_8 => ?_)
      refine lv_iload_n hx hb dX9_film_16 rfl (lv_at hl 3 rfl) (lv_iconst (v := 1) hx hb dX9_film_17 (by decide) (lv_sipush (v := 500) hx hb dX9_film_18 (by decide) ?_))
      refine q_cSi (As := [.int a3, .int 1, .int 500]) (rest := []) q_w0 trivial hK hP6 hDa za_r_film hS6 hA [] [] (by decide +kernel) ⟨hx, hb, hml, hown, hts⟩ (r_isIn l dC dI H6.size a3 1 500) rfl rfl (va_cwS 3 hts (p1_gS m_7 m_8 m_3 g_r_isIn gz_r_isIn) rfl rfl rfl (by decide +kernel) ⟨by decide, by decide⟩) zm_r_isIn rfl hl.1 rfl (Nat.le_of_ble_eq_true rfl) dX9_film_21 ⟨by decide, by decide⟩ (fun r_9 H10 lo10 hG10 hS10 => ?_)
      obtain ⟨z_11, hQ10⟩ := hG10
      have hP10 : va_P (dC, dI) vwCl (zW_r_film p0 f_p0 p0_fKnot c_p0_fKnot b_p0_fKnot p0_fLength c_p0_fLength b_p0_fLength p0_fOff c_p0_fOff b_p0_fOff p0_fSteps c_p0_fSteps b_p0_fSteps p0_fTold c_p0_fTold b_p0_fTold p0_fUntold c_p0_fUntold b_p0_fUntold p0_fWalk c_p0_fWalk b_p0_fWalk p0_knots c_p0_knots b_p0_knots p0_walks c_p0_walks b_p0_walks) H10 := hQ10
      clear hQ10 hP6 hS6
      rcases z_11 with ⟨rfl, z_11⟩ | ⟨rfl, z_11⟩
      · refine lv_if_eq (tgt := 60) hx hb dX9_film_24 (by decide) (fun c_12 => absurd c_12 (by decide)) (fun c_12 => ?_)
        refine lv_iload hx hb dX9_film_27 (lv_at hl 4 rfl) (lv_iconst (v := 0) hx hb dX9_film_29 (by decide) (lv_sipush (v := 29999) hx hb dX9_film_30 (by decide) ?_))
        refine q_cSi (As := [.int a4, .int 0, .int 29999]) (rest := []) q_w0 trivial hK hP10 hDa za_r_film hS10 hA [] [] (by decide +kernel) ⟨hx, hb, hml, hown, hts⟩ (r_isIn l dC dI H10.size a4 0 29999) rfl rfl (va_cwS 3 hts (p1_gS m_7 m_8 m_3 g_r_isIn gz_r_isIn) rfl rfl rfl (by decide +kernel) ⟨by decide, by decide⟩) zm_r_isIn rfl hl.1 rfl (Nat.le_of_ble_eq_true rfl) dX9_film_33 ⟨by decide, by decide⟩ (fun r_13 H14 lo14 hG14 hS14 => ?_)
        obtain ⟨z_15, hQ14⟩ := hG14
        have hP14 : va_P (dC, dI) vwCl (zW_r_film p0 f_p0 p0_fKnot c_p0_fKnot b_p0_fKnot p0_fLength c_p0_fLength b_p0_fLength p0_fOff c_p0_fOff b_p0_fOff p0_fSteps c_p0_fSteps b_p0_fSteps p0_fTold c_p0_fTold b_p0_fTold p0_fUntold c_p0_fUntold b_p0_fUntold p0_fWalk c_p0_fWalk b_p0_fWalk p0_knots c_p0_knots b_p0_knots p0_walks c_p0_walks b_p0_walks) H14 := hQ14
        clear hQ14 hP10 hS10
        rcases z_15 with ⟨rfl, z_15⟩ | ⟨rfl, z_15⟩
        · refine lv_if_eq (tgt := 60) hx hb dX9_film_36 (by decide) (fun c_16 => absurd c_16 (by decide)) (fun c_16 => ?_)
          refine lv_iload hx hb dX9_film_39 (lv_at hl 5 rfl) (lv_iconst (v := 0) hx hb dX9_film_41 (by decide) (lv_sipush (v := 999) hx hb dX9_film_42 (by decide) ?_))
          refine q_cSi (As := [.int a5, .int 0, .int 999]) (rest := []) q_w0 trivial hK hP14 hDa za_r_film hS14 hA [] [] (by decide +kernel) ⟨hx, hb, hml, hown, hts⟩ (r_isIn l dC dI H14.size a5 0 999) rfl rfl (va_cwS 3 hts (p1_gS m_7 m_8 m_3 g_r_isIn gz_r_isIn) rfl rfl rfl (by decide +kernel) ⟨by decide, by decide⟩) zm_r_isIn rfl hl.1 rfl (Nat.le_of_ble_eq_true rfl) dX9_film_45 ⟨by decide, by decide⟩ (fun r_17 H18 lo18 hG18 hS18 => ?_)
          obtain ⟨z_19, hQ18⟩ := hG18
          have hP18 : va_P (dC, dI) vwCl (zW_r_film p0 f_p0 p0_fKnot c_p0_fKnot b_p0_fKnot p0_fLength c_p0_fLength b_p0_fLength p0_fOff c_p0_fOff b_p0_fOff p0_fSteps c_p0_fSteps b_p0_fSteps p0_fTold c_p0_fTold b_p0_fTold p0_fUntold c_p0_fUntold b_p0_fUntold p0_fWalk c_p0_fWalk b_p0_fWalk p0_knots c_p0_knots b_p0_knots p0_walks c_p0_walks b_p0_walks) H18 := hQ18
          clear hQ18 hP14 hS14
          rcases z_19 with ⟨rfl, z_19⟩ | ⟨rfl, z_19⟩
          · refine lv_if_eq (tgt := 60) hx hb dX9_film_48 (by decide) (fun c_20 => absurd c_20 (by decide)) (fun c_20 => ?_)
            refine lv_aload_n hx hb dX9_film_51 rfl (lv_at hl 0 rfl) (qg_X9_75 hx hb hts i_X9 hown hK hP18 0 rfl k_9 pf_fi dX9_film_52 (lv_bipush (v := 40) hx hb dX9_film_55 (by decide) ?_))
            refine lv_icmp_ne (tgt := 62) hx hb dX9_film_57 (by decide) (fun c_21 => ?_) (fun c_21 => ?_)
            · have tc_21 := q_ne c_21
              refine lv_aload_n hx hb dX9_film_62 rfl (lv_at hl 0 rfl) (qg_X9_68 hx hb hts i_X9 hown hK hP18 0 rfl k_10 fr_p0_68 dX9_film_63 (lv_aload_n hx hb dX9_film_66 rfl (lv_at hl 0 rfl) (qg_X9_75 hx hb hts i_X9 hown hK hP18 0 rfl k_9 pf_fi dX9_film_67 (lv_iload_n hx hb dX9_film_70 rfl (lv_at hl 1 rfl) (q_ist hx hb hK hP18 hDa za_r_film hS18 1 0 rfl rfl (q_in (by omega) (by omega)) dX9_film_71 (fun H22 lo22 g22 eg22 (hP22 : va_P (dC, dI) vwCl (zW_r_film p0 f_p0 p0_fKnot c_p0_fKnot g22 p0_fLength c_p0_fLength b_p0_fLength p0_fOff c_p0_fOff b_p0_fOff p0_fSteps c_p0_fSteps b_p0_fSteps p0_fTold c_p0_fTold b_p0_fTold p0_fUntold c_p0_fUntold b_p0_fUntold p0_fWalk c_p0_fWalk b_p0_fWalk p0_knots c_p0_knots b_p0_knots p0_walks c_p0_walks b_p0_walks) H22) hS22 => ?_))))))
              clear hP18 hS18
              have hr_g22 := q_up' hr_p0_fKnot eg22 ⟨by omega, by omega⟩
              refine lv_aload_n hx hb dX9_film_72 rfl (lv_at hl 0 rfl) (qg_X9_69 hx hb hts i_X9 hown hK hP22 0 rfl k_11 fr_p0_69 dX9_film_73 (lv_aload_n hx hb dX9_film_76 rfl (lv_at hl 0 rfl) (qg_X9_75 hx hb hts i_X9 hown hK hP22 0 rfl k_9 pf_fi dX9_film_77 (lv_iload_n hx hb dX9_film_80 rfl (lv_at hl 2 rfl) (q_ist hx hb hK hP22 hDa za_r_film hS22 7 6 rfl rfl (q_in (by omega) (by omega)) dX9_film_81 (fun H23 lo23 g23 eg23 (hP23 : va_P (dC, dI) vwCl (zW_r_film p0 f_p0 p0_fKnot c_p0_fKnot g22 p0_fLength c_p0_fLength b_p0_fLength p0_fOff c_p0_fOff b_p0_fOff p0_fSteps c_p0_fSteps b_p0_fSteps p0_fTold c_p0_fTold b_p0_fTold p0_fUntold c_p0_fUntold b_p0_fUntold p0_fWalk c_p0_fWalk g23 p0_knots c_p0_knots b_p0_knots p0_walks c_p0_walks b_p0_walks) H23) hS23 => ?_))))))
              clear hP22 hS22
              have hr_g23 := q_up' hr_p0_fWalk eg23 ⟨by omega, by omega⟩
              refine lv_aload_n hx hb dX9_film_82 rfl (lv_at hl 0 rfl) (qg_X9_70 hx hb hts i_X9 hown hK hP23 0 rfl k_12 fr_p0_70 dX9_film_83 (lv_aload_n hx hb dX9_film_86 rfl (lv_at hl 0 rfl) (qg_X9_75 hx hb hts i_X9 hown hK hP23 0 rfl k_9 pf_fi dX9_film_87 (lv_iload_n hx hb dX9_film_90 rfl (lv_at hl 3 rfl) (q_ist hx hb hK hP23 hDa za_r_film hS23 4 3 rfl rfl (q_in (by omega) (by omega)) dX9_film_91 (fun H24 lo24 g24 eg24 (hP24 : va_P (dC, dI) vwCl (zW_r_film p0 f_p0 p0_fKnot c_p0_fKnot g22 p0_fLength c_p0_fLength b_p0_fLength p0_fOff c_p0_fOff b_p0_fOff p0_fSteps c_p0_fSteps g24 p0_fTold c_p0_fTold b_p0_fTold p0_fUntold c_p0_fUntold b_p0_fUntold p0_fWalk c_p0_fWalk g23 p0_knots c_p0_knots b_p0_knots p0_walks c_p0_walks b_p0_walks) H24) hS24 => ?_))))))
              clear hP23 hS23
              have hr_g24 := q_up' hr_p0_fSteps eg24 ⟨by omega, by omega⟩
              refine lv_aload_n hx hb dX9_film_92 rfl (lv_at hl 0 rfl) (qg_X9_71 hx hb hts i_X9 hown hK hP24 0 rfl k_13 fr_p0_71 dX9_film_93 (lv_aload_n hx hb dX9_film_96 rfl (lv_at hl 0 rfl) (qg_X9_75 hx hb hts i_X9 hown hK hP24 0 rfl k_9 pf_fi dX9_film_97 (lv_iload hx hb dX9_film_100 (lv_at hl 4 rfl) (q_ist hx hb hK hP24 hDa za_r_film hS24 2 1 rfl rfl (q_in (by omega) (by omega)) dX9_film_102 (fun H25 lo25 g25 eg25 (hP25 : va_P (dC, dI) vwCl (zW_r_film p0 f_p0 p0_fKnot c_p0_fKnot g22 p0_fLength c_p0_fLength g25 p0_fOff c_p0_fOff b_p0_fOff p0_fSteps c_p0_fSteps g24 p0_fTold c_p0_fTold b_p0_fTold p0_fUntold c_p0_fUntold b_p0_fUntold p0_fWalk c_p0_fWalk g23 p0_knots c_p0_knots b_p0_knots p0_walks c_p0_walks b_p0_walks) H25) hS25 => ?_))))))
              clear hP24 hS24
              refine lv_aload_n hx hb dX9_film_103 rfl (lv_at hl 0 rfl) (qg_X9_72 hx hb hts i_X9 hown hK hP25 0 rfl k_14 fr_p0_72 dX9_film_104 (lv_aload_n hx hb dX9_film_107 rfl (lv_at hl 0 rfl) (qg_X9_75 hx hb hts i_X9 hown hK hP25 0 rfl k_9 pf_fi dX9_film_108 (lv_iload hx hb dX9_film_111 (lv_at hl 5 rfl) (q_ist hx hb hK hP25 hDa za_r_film hS25 3 2 rfl rfl (q_in (by omega) (by omega)) dX9_film_113 (fun H26 lo26 g26 eg26 (hP26 : va_P (dC, dI) vwCl (zW_r_film p0 f_p0 p0_fKnot c_p0_fKnot g22 p0_fLength c_p0_fLength g25 p0_fOff c_p0_fOff g26 p0_fSteps c_p0_fSteps g24 p0_fTold c_p0_fTold b_p0_fTold p0_fUntold c_p0_fUntold b_p0_fUntold p0_fWalk c_p0_fWalk g23 p0_knots c_p0_knots b_p0_knots p0_walks c_p0_walks b_p0_walks) H26) hS26 => ?_))))))
              clear hP25 hS25
              refine lv_aload_n hx hb dX9_film_114 rfl (lv_at hl 0 rfl) (qg_X9_73 hx hb hts i_X9 hown hK hP26 0 rfl k_15 fr_p0_73 dX9_film_115 (lv_aload_n hx hb dX9_film_118 rfl (lv_at hl 0 rfl) (qg_X9_75 hx hb hts i_X9 hown hK hP26 0 rfl k_9 pf_fi dX9_film_119 (lv_aload_n hx hb dX9_film_122 rfl (lv_at hl 0 rfl) ?_))))
              obtain ⟨v_27, fv_27, tv_27⟩ := OKX9_g76 ho_p0
              refine qg_X9_76 hx hb hts i_X9 hown hK hP26 0 rfl k_16 fv_27 dX9_film_123 (q_ist hx hb hK hP26 hDa za_r_film hS26 5 4 rfl rfl (q_in (by omega) (by omega)) dX9_film_126 (fun H28 lo28 g28 eg28 (hP28 : va_P (dC, dI) vwCl (zW_r_film p0 f_p0 p0_fKnot c_p0_fKnot g22 p0_fLength c_p0_fLength g25 p0_fOff c_p0_fOff g26 p0_fSteps c_p0_fSteps g24 p0_fTold c_p0_fTold g28 p0_fUntold c_p0_fUntold b_p0_fUntold p0_fWalk c_p0_fWalk g23 p0_knots c_p0_knots b_p0_knots p0_walks c_p0_walks b_p0_walks) H28) hS28 => ?_))
              clear hP26 hS26
              refine lv_aload_n hx hb dX9_film_127 rfl (lv_at hl 0 rfl) (qg_X9_74 hx hb hts i_X9 hown hK hP28 0 rfl k_17 fr_p0_74 dX9_film_128 (lv_aload_n hx hb dX9_film_131 rfl (lv_at hl 0 rfl) (qg_X9_75 hx hb hts i_X9 hown hK hP28 0 rfl k_9 pf_fi dX9_film_132 (lv_iconst (v := (-1)) hx hb dX9_film_135 (by decide) (q_ist hx hb hK hP28 hDa za_r_film hS28 6 5 rfl rfl (q_in (by omega) (by omega)) dX9_film_136 (fun H29 lo29 g29 eg29 (hP29 : va_P (dC, dI) vwCl (zW_r_film p0 f_p0 p0_fKnot c_p0_fKnot g22 p0_fLength c_p0_fLength g25 p0_fOff c_p0_fOff g26 p0_fSteps c_p0_fSteps g24 p0_fTold c_p0_fTold g28 p0_fUntold c_p0_fUntold g29 p0_fWalk c_p0_fWalk g23 p0_knots c_p0_knots b_p0_knots p0_walks c_p0_walks b_p0_walks) H29) hS29 => ?_))))))
              clear hP28 hS28
              refine lv_aload_n hx hb dX9_film_137 rfl (lv_at hl 0 rfl) (lv_dup hx hb dX9_film_138 rfl (qg_X9_75 hx hb hts i_X9 hown hK hP29 0 rfl k_9 pf_fi dX9_film_139 (lv_iconst (v := 1) hx hb dX9_film_142 (by decide) (lv_iadd hx hb dX9_film_143 (lv_topi fun v_30 ev_30 => ?_)))))
              have tv_30 := q_add ev_30 (by omega) (by omega)
              refine qp_X9_75 hx hb hts i_X9 hown hK hP29 hDa za_r_film hS29 0 rfl k_9 (OKX9_l ho_p0) dX9_film_144 (fun H31 lo31 fs31 efs31 (hP31 : va_P (dC, dI) vwCl (zW_r_film p0 fs31 p0_fKnot c_p0_fKnot g22 p0_fLength c_p0_fLength g25 p0_fOff c_p0_fOff g26 p0_fSteps c_p0_fSteps g24 p0_fTold c_p0_fTold g28 p0_fUntold c_p0_fUntold g29 p0_fWalk c_p0_fWalk g23 p0_knots c_p0_knots b_p0_knots p0_walks c_p0_walks b_p0_walks) H31) hS31 => ?_)
              have ho31 := OKX9_p75 ho_p0 efs31 ⟨by omega, by omega⟩
              clear hP29 hS29
              refine lv_aload_n hx hb dX9_film_147 rfl (lv_at hl 0 rfl) (qg_X9_75 hx hb hts i_X9 hown hK hP31 0 rfl k_9 (q_sa efs31 (OKX9_l ho_p0) (by decide)) dX9_film_148 (lv_iconst (v := 1) hx hb dX9_film_151 (by decide) (lv_isub hx hb dX9_film_152 (lv_topi fun v_32 ev_32 => ?_))))
              have tv_32 := q_sub ev_32 (by omega) (by omega)
              exact q_iret hx hb hr hlocks hS31 dX9_film_153 ⟨fs31, g22, g25, g26, g24, g28, g29, g23, v_30, ho31, (q_fr.rf.st efs31 (by decide)), hr_g22, hr_g24, hr_g23, (q_sa efs31 (OKX9_l ho_p0) (by decide)), (hFW.push (by omega) eg23 (by omega) (by omega)), hP31, za_r_film⟩
            · have tc_21 := q_eqN c_21
              refine lv_iconst (v := (-1)) hx hb dX9_film_60 (by decide) ?_
              exact q_iret hx hb hr hlocks hS18 dX9_film_61 ⟨f_p0, b_p0_fKnot, b_p0_fLength, b_p0_fOff, b_p0_fSteps, b_p0_fTold, b_p0_fUntold, b_p0_fWalk, fi, ho_p0, q_fr.rf, hr_p0_fKnot, hr_p0_fSteps, hr_p0_fWalk, pf_fi, hFW, hP18, za_r_film⟩
          · refine lv_if_eq (tgt := 60) hx hb dX9_film_48 (by decide) (fun c_33 => ?_) (fun c_33 => absurd c_33 (by decide))
            refine lv_iconst (v := (-1)) hx hb dX9_film_60 (by decide) ?_
            exact q_iret hx hb hr hlocks hS18 dX9_film_61 ⟨f_p0, b_p0_fKnot, b_p0_fLength, b_p0_fOff, b_p0_fSteps, b_p0_fTold, b_p0_fUntold, b_p0_fWalk, fi, ho_p0, q_fr.rf, hr_p0_fKnot, hr_p0_fSteps, hr_p0_fWalk, pf_fi, hFW, hP18, za_r_film⟩
        · refine lv_if_eq (tgt := 60) hx hb dX9_film_36 (by decide) (fun c_34 => ?_) (fun c_34 => absurd c_34 (by decide))
          refine lv_iconst (v := (-1)) hx hb dX9_film_60 (by decide) ?_
          exact q_iret hx hb hr hlocks hS14 dX9_film_61 ⟨f_p0, b_p0_fKnot, b_p0_fLength, b_p0_fOff, b_p0_fSteps, b_p0_fTold, b_p0_fUntold, b_p0_fWalk, fi, ho_p0, q_fr.rf, hr_p0_fKnot, hr_p0_fSteps, hr_p0_fWalk, pf_fi, hFW, hP14, za_r_film⟩
      · refine lv_if_eq (tgt := 60) hx hb dX9_film_24 (by decide) (fun c_35 => ?_) (fun c_35 => absurd c_35 (by decide))
        refine lv_iconst (v := (-1)) hx hb dX9_film_60 (by decide) ?_
        exact q_iret hx hb hr hlocks hS10 dX9_film_61 ⟨f_p0, b_p0_fKnot, b_p0_fLength, b_p0_fOff, b_p0_fSteps, b_p0_fTold, b_p0_fUntold, b_p0_fWalk, fi, ho_p0, q_fr.rf, hr_p0_fKnot, hr_p0_fSteps, hr_p0_fWalk, pf_fi, hFW, hP10, za_r_film⟩
    · refine lv_if_eq (tgt := 60) hx hb dX9_film_13 (by decide) (fun c_36 => ?_) (fun c_36 => absurd c_36 (by decide))
      refine lv_iconst (v := (-1)) hx hb dX9_film_60 (by decide) ?_
      exact q_iret hx hb hr hlocks hS6 dX9_film_61 ⟨f_p0, b_p0_fKnot, b_p0_fLength, b_p0_fOff, b_p0_fSteps, b_p0_fTold, b_p0_fUntold, b_p0_fWalk, fi, ho_p0, q_fr.rf, hr_p0_fKnot, hr_p0_fSteps, hr_p0_fWalk, pf_fi, hFW, hP6, za_r_film⟩
  · refine lv_if_eq (tgt := 60) hx hb dX9_film_5 (by decide) (fun c_37 => ?_) (fun c_37 => absurd c_37 (by decide))
    refine lv_iconst (v := (-1)) hx hb dX9_film_60 (by decide) ?_
    exact q_iret hx hb hr hlocks hS2 dX9_film_61 ⟨f_p0, b_p0_fKnot, b_p0_fLength, b_p0_fOff, b_p0_fSteps, b_p0_fTold, b_p0_fUntold, b_p0_fWalk, fi, ho_p0, q_fr.rf, hr_p0_fKnot, hr_p0_fSteps, hr_p0_fWalk, pf_fi, hFW, hP2, za_r_film⟩
