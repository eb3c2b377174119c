def zo_r_pushE : List Cond := [.code yX9_pushE cX9_pushE 3 none, .fieldLink RX9 110 "BowWalkModel" "eWhat" "[I", .fieldLink RX9 339 "BowWalkModel" "piled" "I", .fieldLink RX9 113 "BowWalkModel" "eSign" "[I"]
def zw_r_pushE : List Cond := zo_r_pushE ++ (wsX90 ++ [])
theorem gz_r_pushE : zw_r_pushE.all goodWord = true := p1_ga (by decide +kernel) (p1_ga gk_X9 p1_g0)
theorem iz_r_pushE : ∀ w ∈ zw_r_pushE, w ∈ lw_tbl := p1_ia (p1_all [1394, 1077, 1085, 1078] (by decide +kernel)) (p1_ia ik_X9 p1_i0)
def zW_r_pushE (p0 : Nat) (f_p0 : List Value) (p0_eSign : Nat) (c_p0_eSign : ClassId) (b_p0_eSign : Nat → Int32) (p0_eWhat : Nat) (c_p0_eWhat : ClassId) (b_p0_eWhat : Nat → Int32) : va_W := [(p0, .inr (8, f_p0)), (p0_eSign, .inl (c_p0_eSign, 120, .inl b_p0_eSign)), (p0_eWhat, .inl (c_p0_eWhat, 120, .inl b_p0_eWhat))]
def zT_r_pushE (c_p0_eSign : ClassId) (c_p0_eWhat : ClassId) : List (ClassId × FieldType) := [(c_p0_eSign, .int), (c_p0_eWhat, .int)]
def zA_r_pushE (p0 : Nat) (p0_eSign : Nat) (p0_eWhat : Nat) : List Nat := [p0, p0_eSign, p0_eWhat]
theorem za_r_pushE {p0 : Nat} {f_p0 : List Value} {p0_eSign : Nat} {c_p0_eSign : ClassId} {b_p0_eSign : Nat → Int32} {p0_eWhat : Nat} {c_p0_eWhat : ClassId} {b_p0_eWhat : Nat → Int32} : (zW_r_pushE p0 f_p0 p0_eSign c_p0_eSign b_p0_eSign p0_eWhat c_p0_eWhat b_p0_eWhat).map Prod.fst = (zA_r_pushE p0 p0_eSign p0_eWhat) := rfl
def zG_r_pushE (p0 : Nat) (f_p0 : List Value) (p0_eSign : Nat) (c_p0_eSign : ClassId) (b_p0_eSign : Nat → Int32) (p0_eWhat : Nat) (c_p0_eWhat : ClassId) (b_p0_eWhat : Nat → Int32) (a1 : Int32) (a2 : Int32) (pi : Int32) (X : va_W → Prop) : Prop := ∃ (y_p0 : List Value) (y_p0_eSign : Nat → Int32) (y_p0_eWhat : Nat → Int32) (pi1 : Int32), OKX9 y_p0 ∧ q_fr [48] f_p0 y_p0 ∧ y_p0[48]? = some (.int pi1) ∧ (pi1.toInt = pi.toInt + 1) ∧ (y_p0_eWhat = upd b_p0_eWhat pi.toInt.toNat a1) ∧ (y_p0_eSign = upd b_p0_eSign pi.toInt.toNat a2) ∧ X (zW_r_pushE p0 y_p0 p0_eSign c_p0_eSign y_p0_eSign p0_eWhat c_p0_eWhat y_p0_eWhat)
theorem zm_r_pushE {p0 : Nat} {f_p0 : List Value} {p0_eSign : Nat} {c_p0_eSign : ClassId} {b_p0_eSign : Nat → Int32} {p0_eWhat : Nat} {c_p0_eWhat : ClassId} {b_p0_eWhat : Nat → Int32} {a1 : Int32} {a2 : Int32} {pi : Int32} : ∀ X Y : va_W → Prop, (∀ w, X w → Y w) → zG_r_pushE p0 f_p0 p0_eSign c_p0_eSign b_p0_eSign p0_eWhat c_p0_eWhat b_p0_eWhat a1 a2 pi X → zG_r_pushE p0 f_p0 p0_eSign c_p0_eSign b_p0_eSign p0_eWhat c_p0_eWhat b_p0_eWhat a1 a2 pi Y := fun X Y h h1 => by obtain ⟨x0, x1, x2, x3, x4, x5, x6, x7, x8, x9, hx⟩ := h1; exact ⟨x0, x1, x2, x3, x4, x5, x6, x7, x8, x9, h _ hx⟩
set_option maxHeartbeats 4000000 in
set_option maxRecDepth 100000 in
theorem r_pushE (l : Launch) (dC : Nat → ClassId) (dI : Nat → Nat → Nat) (sz : Nat) (p0 : Nat) (f_p0 : List Value) (p0_eSign : Nat) (c_p0_eSign : ClassId) (b_p0_eSign : Nat → Int32) (p0_eWhat : Nat) (c_p0_eWhat : ClassId) (b_p0_eWhat : Nat → Int32) (a1 : Int32) (a2 : Int32) (pi : Int32) (ho_p0 : OKX9 f_p0) (fr_p0_40 : f_p0[40]? = some (.ref p0_eWhat)) (fr_p0_41 : f_p0[41]? = some (.ref p0_eSign)) (pf_pi : f_p0[48]? = some (.int pi)) (hp : 0 ≤ pi.toInt ∧ pi.toInt ≤ 119) : Met l yX9_pushE zw_r_pushE ({ frames := 0, cells := 0, slots := 0, locals := 0 }) (va_Pc [.ref p0, .int a1, .int a2] (q_pre (dC, dI) (zW_r_pushE p0 f_p0 p0_eSign c_p0_eSign b_p0_eSign p0_eWhat c_p0_eWhat b_p0_eWhat) (zT_r_pushE c_p0_eSign c_p0_eWhat) q_E0 sz)) (q_Qv (dC, dI) (zG_r_pushE p0 f_p0 p0_eSign c_p0_eSign b_p0_eSign p0_eWhat c_p0_eWhat b_p0_eWhat a1 a2 pi) (zA_r_pushE p0 p0_eSign p0_eWhat) (va_A (zW_r_pushE p0 f_p0 p0_eSign c_p0_eSign b_p0_eSign p0_eWhat c_p0_eWhat b_p0_eWhat) sz)) 0 0 (va_A (zW_r_pushE p0 f_p0 p0_eSign c_p0_eSign b_p0_eSign p0_eWhat c_p0_eWhat b_p0_eWhat) sz) := by
  refine Met.ofW (cc := cX9_pushE) (maxL := 3) (ret := none) (by decide) rfl ?_
  intro p e s m args below meth c s₁ B hml hv
  obtain ⟨rfl, hsz, hP, hK, hD0, hE⟩ := hv
  have hx := B.exec
  have hb := B.bytes
  have hr := B.returns
  have hts := atoms_spec (ws := zw_r_pushE) B.pre
  have hown : s.vm.findClass RX9 = some m.cls := findClass_of_methodNamed B.named
  have hlocks := B.notSynchronized
  subst hsz
  have hD := hD0.self (sz := s.heap.size)
  generalize hAe : va_A (zW_r_pushE p0 f_p0 p0_eSign c_p0_eSign b_p0_eSign p0_eWhat c_p0_eWhat b_p0_eWhat) s.heap.size = A at hD hE ⊢
  have hA : ∀ q : Nat, s.heap.size ≤ q → A q := fun q h => by rw [← hAe]; exact Or.inr h
  have hDa : q_DA A (zA_r_pushE p0 p0_eSign p0_eWhat) := q_DA.mk hD za_r_pushE
  clear hAe hD0 hD
  have hS : va_S A s.heap s.heap [] := va_S.rf
  have m_0 : (.fieldLink RX9 110 "BowWalkModel" "eWhat" "[I" : Cond) ∈ zw_r_pushE := List.mem_append_left _ (List.mem_of_getElem? (i := 1) rfl)
  have k_0 := hts _ m_0
  have m_1 : (.fieldLink RX9 339 "BowWalkModel" "piled" "I" : Cond) ∈ zw_r_pushE := List.mem_append_left _ (List.mem_of_getElem? (i := 2) rfl)
  have k_1 := hts _ m_1
  have m_2 : (.fieldLink RX9 113 "BowWalkModel" "eSign" "[I" : Cond) ∈ zw_r_pushE := List.mem_append_left _ (List.mem_of_getElem? (i := 3) rfl)
  have k_2 := hts _ m_2
  have i_X9 : ∀ w ∈ u_ws RX9 TX9 81, w ∈ zw_r_pushE := fun w h => List.mem_append_right _ (List.mem_append_left _ h)
  have lt_1 : (1 : Int32).toInt = 1 := by decide
  have hl := lv_entry ([.ref p0, .int a1, .int a2]) (n := 3) (Nat.le_of_ble_eq_true rfl)
  rw [lg_entry_eq]
  generalize (lg_sl ([.ref p0, .int a1, .int a2]) ++ List.replicate (3 - (lg_sl ([.ref p0, .int a1, .int a2])).length) Slot.unset).toArray = ls at hl ⊢
  have hl : lv_has ls 3 [(0, .ref p0), (1, .int a1), (2, .int a2)] := hl
  refine lv_aload_n hx hb dX9_pushE_0 rfl (lv_at hl 0 rfl) (qg_X9_40 hx hb hts i_X9 hown hK hP 0 rfl k_0 fr_p0_40 dX9_pushE_1 (lv_aload_n hx hb dX9_pushE_4 rfl (lv_at hl 0 rfl) (qg_X9_48 hx hb hts i_X9 hown hK hP 0 rfl k_1 pf_pi dX9_pushE_5 (lv_iload_n hx hb dX9_pushE_8 rfl (lv_at hl 1 rfl) (q_ist hx hb hK hP hDa za_r_pushE hS 2 1 rfl rfl (q_in (by omega) (by omega)) dX9_pushE_9 (fun H1 lo1 g1 eg1 (hP1 : va_P (dC, dI) vwCl (zW_r_pushE p0 f_p0 p0_eSign c_p0_eSign b_p0_eSign p0_eWhat c_p0_eWhat g1) H1) hS1 => ?_))))))
  clear hP hS
  refine lv_aload_n hx hb dX9_pushE_10 rfl (lv_at hl 0 rfl) (qg_X9_41 hx hb hts i_X9 hown hK hP1 0 rfl k_2 fr_p0_41 dX9_pushE_11 (lv_aload_n hx hb dX9_pushE_14 rfl (lv_at hl 0 rfl) (qg_X9_48 hx hb hts i_X9 hown hK hP1 0 rfl k_1 pf_pi dX9_pushE_15 (lv_iload_n hx hb dX9_pushE_18 rfl (lv_at hl 2 rfl) (q_ist hx hb hK hP1 hDa za_r_pushE hS1 1 0 rfl rfl (q_in (by omega) (by omega)) dX9_pushE_19 (fun H2 lo2 g2 eg2 (hP2 : va_P (dC, dI) vwCl (zW_r_pushE p0 f_p0 p0_eSign c_p0_eSign g2 p0_eWhat c_p0_eWhat g1) H2) hS2 => ?_))))))
  clear hP1 hS1
  refine lv_aload_n hx hb dX9_pushE_20 rfl (lv_at hl 0 rfl) (lv_dup hx hb dX9_pushE_21 rfl (qg_X9_48 hx hb hts i_X9 hown hK hP2 0 rfl k_1 pf_pi dX9_pushE_22 (lv_iconst (v := 1) hx hb dX9_pushE_25 (by decide) (lv_iadd hx hb dX9_pushE_26 (lv_topi fun v_3 ev_3 => qp_X9_48 hx hb hts i_X9 hown hK hP2 hDa za_r_pushE hS2 0 rfl k_1 (OKX9_l ho_p0) dX9_pushE_27 (fun H4 lo4 fs4 efs4 (hP4 : va_P (dC, dI) vwCl (zW_r_pushE p0 fs4 p0_eSign c_p0_eSign g2 p0_eWhat c_p0_eWhat g1) H4) hS4 => ?_))))))
  have ho4 := OKX9_p48 ho_p0 efs4
  clear hP2 hS2
  exact q_vret hx hb hr hlocks hS4 dX9_pushE_30 ⟨fs4, g2, g1, v_3, ho4, (q_fr.rf.st efs4 (by decide)), (q_sa efs4 (OKX9_l ho_p0) (by decide)), (by omega), eg1, eg2, hP4, za_r_pushE⟩
def zo_r_emit : List Cond := [.code yX9_emit cX9_emit 3 none, .fieldLink RX9 104 "BowWalkModel" "code" "[I", .fieldLink RX9 282 "BowWalkModel" "codes" "I", .fieldLink RX9 107 "BowWalkModel" "codeNumber" "[I"]
def zw_r_emit : List Cond := zo_r_emit ++ (wsX90 ++ [])
theorem gz_r_emit : zw_r_emit.all goodWord = true := p1_ga (by decide +kernel) (p1_ga gk_X9 p1_g0)
theorem iz_r_emit : ∀ w ∈ zw_r_emit, w ∈ lw_tbl := p1_ia (p1_all [1410, 1075, 1082, 1076] (by decide +kernel)) (p1_ia ik_X9 p1_i0)
def zW_r_emit (p0 : Nat) (f_p0 : List Value) (p0_code : Nat) (c_p0_code : ClassId) (b_p0_code : Nat → Int32) (p0_codeNumber : Nat) (c_p0_codeNumber : ClassId) (b_p0_codeNumber : Nat → Int32) : va_W := [(p0, .inr (8, f_p0)), (p0_code, .inl (c_p0_code, 1800, .inl b_p0_code)), (p0_codeNumber, .inl (c_p0_codeNumber, 1800, .inl b_p0_codeNumber))]
def zT_r_emit (c_p0_code : ClassId) (c_p0_codeNumber : ClassId) : List (ClassId × FieldType) := [(c_p0_code, .int), (c_p0_codeNumber, .int)]
def zA_r_emit (p0 : Nat) (p0_code : Nat) (p0_codeNumber : Nat) : List Nat := [p0, p0_code, p0_codeNumber]
theorem za_r_emit {p0 : Nat} {f_p0 : List Value} {p0_code : Nat} {c_p0_code : ClassId} {b_p0_code : Nat → Int32} {p0_codeNumber : Nat} {c_p0_codeNumber : ClassId} {b_p0_codeNumber : Nat → Int32} : (zW_r_emit p0 f_p0 p0_code c_p0_code b_p0_code p0_codeNumber c_p0_codeNumber b_p0_codeNumber).map Prod.fst = (zA_r_emit p0 p0_code p0_codeNumber) := rfl
def zG_r_emit (p0 : Nat) (f_p0 : List Value) (p0_code : Nat) (c_p0_code : ClassId) (b_p0_code : Nat → Int32) (p0_codeNumber : Nat) (c_p0_codeNumber : ClassId) (b_p0_codeNumber : Nat → Int32) (a1 : Int32) (a2 : Int32) (co : Int32) (X : va_W → Prop) : Prop := ∃ (y_p0 : List Value) (y_p0_code : Nat → Int32) (y_p0_codeNumber : Nat → Int32) (co1 : Int32), OKX9 y_p0 ∧ q_fr [45] f_p0 y_p0 ∧ y_p0[45]? = some (.int co1) ∧ (co1.toInt = co.toInt + 1) ∧ (y_p0_code = upd b_p0_code co.toInt.toNat a1) ∧ X (zW_r_emit p0 y_p0 p0_code c_p0_code y_p0_code p0_codeNumber c_p0_codeNumber y_p0_codeNumber)
theorem zm_r_emit {p0 : Nat} {f_p0 : List Value} {p0_code : Nat} {c_p0_code : ClassId} {b_p0_code : Nat → Int32} {p0_codeNumber : Nat} {c_p0_codeNumber : ClassId} {b_p0_codeNumber : Nat → Int32} {a1 : Int32} {a2 : Int32} {co : Int32} : ∀ X Y : va_W → Prop, (∀ w, X w → Y w) → zG_r_emit p0 f_p0 p0_code c_p0_code b_p0_code p0_codeNumber c_p0_codeNumber b_p0_codeNumber a1 a2 co X → zG_r_emit p0 f_p0 p0_code c_p0_code b_p0_code p0_codeNumber c_p0_codeNumber b_p0_codeNumber a1 a2 co Y := fun X Y h h1 => by obtain ⟨x0, x1, x2, x3, x4, x5, x6, x7, x8, hx⟩ := h1; exact ⟨x0, x1, x2, x3, x4, x5, x6, x7, x8, h _ hx⟩
set_option maxHeartbeats 4000000 in
set_option maxRecDepth 100000 in
theorem r_emit (l : Launch) (dC : Nat → ClassId) (dI : Nat → Nat → Nat) (sz : Nat) (p0 : Nat) (f_p0 : List Value) (p0_code : Nat) (c_p0_code : ClassId) (b_p0_code : Nat → Int32) (p0_codeNumber : Nat) (c_p0_codeNumber : ClassId) (b_p0_codeNumber : Nat → Int32) (a1 : Int32) (a2 : Int32) (co : Int32) (ho_p0 : OKX9 f_p0) (fr_p0_38 : f_p0[38]? = some (.ref p0_code)) (fr_p0_39 : f_p0[39]? = some (.ref p0_codeNumber)) (pf_co : f_p0[45]? = some (.int co)) (hp : 0 ≤ co.toInt ∧ co.toInt ≤ 1799) : Met l yX9_emit zw_r_emit ({ frames := 0, cells := 0, slots := 0, locals := 0 }) (va_Pc [.ref p0, .int a1, .int a2] (q_pre (dC, dI) (zW_r_emit p0 f_p0 p0_code c_p0_code b_p0_code p0_codeNumber c_p0_codeNumber b_p0_codeNumber) (zT_r_emit c_p0_code c_p0_codeNumber) q_E0 sz)) (q_Qv (dC, dI) (zG_r_emit p0 f_p0 p0_code c_p0_code b_p0_code p0_codeNumber c_p0_codeNumber b_p0_codeNumber a1 a2 co) (zA_r_emit p0 p0_code p0_codeNumber) (va_A (zW_r_emit p0 f_p0 p0_code c_p0_code b_p0_code p0_codeNumber c_p0_codeNumber b_p0_codeNumber) sz)) 0 0 (va_A (zW_r_emit p0 f_p0 p0_code c_p0_code b_p0_code p0_codeNumber c_p0_codeNumber b_p0_codeNumber) sz) := by
  refine Met.ofW (cc := cX9_emit) (maxL := 3) (ret := none) (by decide) rfl ?_
  intro p e s m args below meth c s₁ B hml hv
  obtain ⟨rfl, hsz, hP, hK, hD0, hE⟩ := hv
  have hx := B.exec
  have hb := B.bytes
  have hr := B.returns
  have hts := atoms_spec (ws := zw_r_emit) B.pre
  have hown : s.vm.findClass RX9 = some m.cls := findClass_of_methodNamed B.named
  have hlocks := B.notSynchronized
  subst hsz
  have hD := hD0.self (sz := s.heap.size)
  generalize hAe : va_A (zW_r_emit p0 f_p0 p0_code c_p0_code b_p0_code p0_codeNumber c_p0_codeNumber b_p0_codeNumber) s.heap.size = A at hD hE ⊢
  have hA : ∀ q : Nat, s.heap.size ≤ q → A q := fun q h => by rw [← hAe]; exact Or.inr h
  have hDa : q_DA A (zA_r_emit p0 p0_code p0_codeNumber) := q_DA.mk hD za_r_emit
  clear hAe hD0 hD
  have hS : va_S A s.heap s.heap [] := va_S.rf
  have m_0 : (.fieldLink RX9 104 "BowWalkModel" "code" "[I" : Cond) ∈ zw_r_emit := List.mem_append_left _ (List.mem_of_getElem? (i := 1) rfl)
  have k_0 := hts _ m_0
  have m_1 : (.fieldLink RX9 282 "BowWalkModel" "codes" "I" : Cond) ∈ zw_r_emit := List.mem_append_left _ (List.mem_of_getElem? (i := 2) rfl)
  have k_1 := hts _ m_1
  have m_2 : (.fieldLink RX9 107 "BowWalkModel" "codeNumber" "[I" : Cond) ∈ zw_r_emit := List.mem_append_left _ (List.mem_of_getElem? (i := 3) rfl)
  have k_2 := hts _ m_2
  have i_X9 : ∀ w ∈ u_ws RX9 TX9 81, w ∈ zw_r_emit := fun w h => List.mem_append_right _ (List.mem_append_left _ h)
  have lt_1 : (1 : Int32).toInt = 1 := by decide
  have hl := lv_entry ([.ref p0, .int a1, .int a2]) (n := 3) (Nat.le_of_ble_eq_true rfl)
  rw [lg_entry_eq]
  generalize (lg_sl ([.ref p0, .int a1, .int a2]) ++ List.replicate (3 - (lg_sl ([.ref p0, .int a1, .int a2])).length) Slot.unset).toArray = ls at hl ⊢
  have hl : lv_has ls 3 [(0, .ref p0), (1, .int a1), (2, .int a2)] := hl
  refine lv_aload_n hx hb dX9_emit_0 rfl (lv_at hl 0 rfl) (qg_X9_38 hx hb hts i_X9 hown hK hP 0 rfl k_0 fr_p0_38 dX9_emit_1 (lv_aload_n hx hb dX9_emit_4 rfl (lv_at hl 0 rfl) (qg_X9_45 hx hb hts i_X9 hown hK hP 0 rfl k_1 pf_co dX9_emit_5 (lv_iload_n hx hb dX9_emit_8 rfl (lv_at hl 1 rfl) (q_ist hx hb hK hP hDa za_r_emit hS 1 0 rfl rfl (q_in (by omega) (by omega)) dX9_emit_9 (fun H1 lo1 g1 eg1 (hP1 : va_P (dC, dI) vwCl (zW_r_emit p0 f_p0 p0_code c_p0_code g1 p0_codeNumber c_p0_codeNumber b_p0_codeNumber) H1) hS1 => ?_))))))
  clear hP hS
  refine lv_aload_n hx hb dX9_emit_10 rfl (lv_at hl 0 rfl) (qg_X9_39 hx hb hts i_X9 hown hK hP1 0 rfl k_2 fr_p0_39 dX9_emit_11 (lv_aload_n hx hb dX9_emit_14 rfl (lv_at hl 0 rfl) (qg_X9_45 hx hb hts i_X9 hown hK hP1 0 rfl k_1 pf_co dX9_emit_15 (lv_iload_n hx hb dX9_emit_18 rfl (lv_at hl 2 rfl) (q_ist hx hb hK hP1 hDa za_r_emit hS1 2 1 rfl rfl (q_in (by omega) (by omega)) dX9_emit_19 (fun H2 lo2 g2 eg2 (hP2 : va_P (dC, dI) vwCl (zW_r_emit p0 f_p0 p0_code c_p0_code g1 p0_codeNumber c_p0_codeNumber g2) H2) hS2 => ?_))))))
  clear hP1 hS1
  refine lv_aload_n hx hb dX9_emit_20 rfl (lv_at hl 0 rfl) (lv_dup hx hb dX9_emit_21 rfl (qg_X9_45 hx hb hts i_X9 hown hK hP2 0 rfl k_1 pf_co dX9_emit_22 (lv_iconst (v := 1) hx hb dX9_emit_25 (by decide) (lv_iadd hx hb dX9_emit_26 (lv_topi fun v_3 ev_3 => qp_X9_45 hx hb hts i_X9 hown hK hP2 hDa za_r_emit hS2 0 rfl k_1 (OKX9_l ho_p0) dX9_emit_27 (fun H4 lo4 fs4 efs4 (hP4 : va_P (dC, dI) vwCl (zW_r_emit p0 fs4 p0_code c_p0_code g1 p0_codeNumber c_p0_codeNumber g2) H4) hS4 => ?_))))))
  have ho4 := OKX9_p45 ho_p0 efs4
  clear hP2 hS2
  exact q_vret hx hb hr hlocks hS4 dX9_emit_30 ⟨fs4, g1, g2, v_3, ho4, (q_fr.rf.st efs4 (by decide)), (q_sa efs4 (OKX9_l ho_p0) (by decide)), (by omega), eg1, hP4, za_r_emit⟩
def zo_r_wordHere : List Cond := [.code yX9_wordHere cX9_wordHere 1 (some .int), .constantLong RX9 192 (499984590964), .methodLink RX9 268 yX9_isWord, .instanceMethod yX9_isWord, .selects RX9 yX9_isWord yX9_isWord, .initialized RX9, .constantLong RX9 212 (1818848101), .constantLong RX9 214 (482854658917), .constantLong RX9 184 (126913858204776), .constantLong RX9 186 (131277443786868), .constantLong RX9 188 (1819242087), .constantLong RX9 216 (126943972911973), .constantLong RX9 218 (495924637287)]
def zw_r_wordHere : List Cond := zo_r_wordHere ++ (zw_r_isWord ++ [])
theorem gz_r_wordHere : zw_r_wordHere.all goodWord = true := p1_ga (by decide +kernel) (p1_ga gz_r_isWord p1_g0)
theorem iz_r_wordHere : ∀ w ∈ zw_r_wordHere, w ∈ lw_tbl := p1_ia (p1_all [1406, 1307, 1339, 1341, 49, 116, 1317, 1318, 1303, 1304, 1305, 1319, 1320] (by decide +kernel)) (p1_ia iz_r_isWord p1_i0)
def zW_r_wordHere (p0 : Nat) (f_p0 : List Value) : va_W := [(p0, .inr (8, f_p0))]
def zT_r_wordHere : List (ClassId × FieldType) := []
def zA_r_wordHere (p0 : Nat) : List Nat := [p0]
theorem za_r_wordHere {p0 : Nat} {f_p0 : List Value} : (zW_r_wordHere p0 f_p0).map Prod.fst = (zA_r_wordHere p0) := rfl
def zG_r_wordHere (p0 : Nat) (f_p0 : List Value) (r : Int32) (X : va_W → Prop) : Prop := (r.toInt = 0 ∨ (97 ≤ r.toInt ∧ r.toInt ≤ 104)) ∧ X (zW_r_wordHere p0 f_p0)
theorem zm_r_wordHere {p0 : Nat} {f_p0 : List Value} : ∀ (r : Int32), ∀ X Y : va_W → Prop, (∀ w, X w → Y w) → zG_r_wordHere p0 f_p0 r X → zG_r_wordHere p0 f_p0 r Y := fun r X Y h h1 => by obtain ⟨x0, hx⟩ := h1; exact ⟨x0, h _ hx⟩
set_option maxHeartbeats 4000000 in
set_option maxRecDepth 100000 in
theorem r_wordHere (l : Launch) (dC : Nat → ClassId) (dI : Nat → Nat → Nat) (sz : Nat) (p0 : Nat) (f_p0 : List Value) (ho_p0 : OKX9 f_p0) : Met l yX9_wordHere zw_r_wordHere ({ frames := 1, cells := 0, slots := 0, locals := 22 }) (va_Pc [.ref p0] (q_pre (dC, dI) (zW_r_wordHere p0 f_p0) (zT_r_wordHere) q_E0 sz)) (q_Qi (dC, dI) (zG_r_wordHere p0 f_p0) (zA_r_wordHere p0) (va_A (zW_r_wordHere p0 f_p0) sz)) 0 0 (va_A (zW_r_wordHere p0 f_p0) sz) := by
  refine Met.ofW (cc := cX9_wordHere) (maxL := 1) (ret := (some .int)) (by decide) rfl ?_
  intro p e s m args below meth c s₁ B hml hv
  obtain ⟨rfl, hsz, hP, hK, hD0, hE⟩ := hv
  have hx := B.exec
  have hb := B.bytes
  have hr := B.returns
  have hts := atoms_spec (ws := zw_r_wordHere) B.pre
  have hown : s.vm.findClass RX9 = some m.cls := findClass_of_methodNamed B.named
  have hlocks := B.notSynchronized
  subst hsz
  have hD := hD0.self (sz := s.heap.size)
  generalize hAe : va_A (zW_r_wordHere p0 f_p0) s.heap.size = A at hD hE ⊢
  have hA : ∀ q : Nat, s.heap.size ≤ q → A q := fun q h => by rw [← hAe]; exact Or.inr h
  have hDa : q_DA A (zA_r_wordHere p0) := q_DA.mk hD za_r_wordHere
  clear hAe hD0 hD
  have hS : va_S A s.heap s.heap [] := va_S.rf
  have m_0 : (.constantLong RX9 192 (499984590964) : Cond) ∈ zw_r_wordHere := List.mem_append_left _ (List.mem_of_getElem? (i := 1) rfl)
  have k_0 := hts _ m_0
  have m_1 : (.methodLink RX9 268 yX9_isWord : Cond) ∈ zw_r_wordHere := List.mem_append_left _ (List.mem_of_getElem? (i := 2) rfl)
  have k_1 := hts _ m_1
  have m_2 : (.instanceMethod yX9_isWord : Cond) ∈ zw_r_wordHere := List.mem_append_left _ (List.mem_of_getElem? (i := 3) rfl)
  have k_2 := hts _ m_2
  have m_3 : (.selects RX9 yX9_isWord yX9_isWord : Cond) ∈ zw_r_wordHere := List.mem_append_left _ (List.mem_of_getElem? (i := 4) rfl)
  have k_3 := hts _ m_3
  have m_4 : (.initialized RX9 : Cond) ∈ zw_r_wordHere := List.mem_append_left _ (List.mem_of_getElem? (i := 5) rfl)
  have k_4 := hts _ m_4
  have m_5 : (.constantLong RX9 212 (1818848101) : Cond) ∈ zw_r_wordHere := List.mem_append_left _ (List.mem_of_getElem? (i := 6) rfl)
  have k_5 := hts _ m_5
  have m_6 : (.constantLong RX9 214 (482854658917) : Cond) ∈ zw_r_wordHere := List.mem_append_left _ (List.mem_of_getElem? (i := 7) rfl)
  have k_6 := hts _ m_6
  have m_7 : (.constantLong RX9 184 (126913858204776) : Cond) ∈ zw_r_wordHere := List.mem_append_left _ (List.mem_of_getElem? (i := 8) rfl)
  have k_7 := hts _ m_7
  have m_8 : (.constantLong RX9 186 (131277443786868) : Cond) ∈ zw_r_wordHere := List.mem_append_left _ (List.mem_of_getElem? (i := 9) rfl)
  have k_8 := hts _ m_8
  have m_9 : (.constantLong RX9 188 (1819242087) : Cond) ∈ zw_r_wordHere := List.mem_append_left _ (List.mem_of_getElem? (i := 10) rfl)
  have k_9 := hts _ m_9
  have m_10 : (.constantLong RX9 216 (126943972911973) : Cond) ∈ zw_r_wordHere := List.mem_append_left _ (List.mem_of_getElem? (i := 11) rfl)
  have k_10 := hts _ m_10
  have m_11 : (.constantLong RX9 218 (495924637287) : Cond) ∈ zw_r_wordHere := List.mem_append_left _ (List.mem_of_getElem? (i := 12) rfl)
  have k_11 := hts _ m_11
  have g_r_isWord : ∀ w ∈ zw_r_isWord, w ∈ zw_r_wordHere := fun w h => List.mem_append_right _ (List.mem_append_left _ h)
  have lt_0 : (0 : Int32).toInt = 0 := by decide
  have lt_1 : (1 : Int32).toInt = 1 := by decide
  have lt_97 : (97 : Int32).toInt = 97 := by decide
  have lt_98 : (98 : Int32).toInt = 98 := by decide
  have lt_99 : (99 : Int32).toInt = 99 := by decide
  have lt_100 : (100 : Int32).toInt = 100 := by decide
  have lt_101 : (101 : Int32).toInt = 101 := by decide
  have lt_102 : (102 : Int32).toInt = 102 := by decide
  have lt_103 : (103 : Int32).toInt = 103 := by decide
  have lt_104 : (104 : Int32).toInt = 104 := by decide
  have hl := lv_entry ([.ref p0]) (n := 1) (Nat.le_of_ble_eq_true rfl)
  rw [lg_entry_eq]
  generalize (lg_sl ([.ref p0]) ++ List.replicate (1 - (lg_sl ([.ref p0])).length) Slot.unset).toArray = ls at hl ⊢
  have hl : lv_has ls 1 [(0, .ref p0)] := hl
  refine lv_aload_n hx hb dX9_wordHere_0 rfl (lv_at hl 0 rfl) (lv_ldc2 (v := 499984590964) hx hb hown k_0 dX9_wordHere_1 ?_)
  obtain ⟨v_1, fv_1, tv_1⟩ := OKX9_g8 ho_p0
  obtain ⟨v_2, fv_2⟩ := OKX9_g10 ho_p0
  refine q_cVi (As := [.long 499984590964]) (rest := []) q_w0 trivial hK hP hDa za_r_wordHere hS hA [0] [] (by decide +kernel) ⟨hx, hb, hml, hown, hts⟩ (r_isWord l dC dI s.heap.size p0 f_p0 499984590964 v_1 v_2 ho_p0 fv_1 fv_2) rfl rfl (cwV 1 hts (p1_gV m_1 m_2 m_3 m_4 g_r_isWord gz_r_isWord) rfl rfl rfl (by decide +kernel) ⟨by decide, by decide⟩) (va_recv hK hP (ci := 8) (q0 := 0) rfl rfl) zm_r_isWord rfl hl.1 rfl (Nat.le_of_ble_eq_true rfl) dX9_wordHere_4 ⟨by decide, by decide⟩ (fun r_3 H4 lo4 hG4 hS4 => ?_)
  obtain ⟨z_5, hQ4⟩ := hG4
  have hP4 : va_P (dC, dI) vwCl (zW_r_wordHere p0 f_p0) H4 := hQ4
  clear hQ4 hP hS
  rcases z_5 with ⟨rfl, z_5⟩ | ⟨rfl, z_5⟩
  · refine lv_if_eq (tgt := 13) hx hb dX9_wordHere_7 (by decide) (fun c_6 => absurd c_6 (by decide)) (fun c_6 => ?_)
    refine lv_bipush (v := 97) hx hb dX9_wordHere_10 (by decide) ?_
    exact q_iret hx hb hr hlocks hS4 dX9_wordHere_12 ⟨(by omega), hP4, za_r_wordHere⟩
  · refine lv_if_eq (tgt := 13) hx hb dX9_wordHere_7 (by decide) (fun c_7 => ?_) (fun c_7 => absurd c_7 (by decide))
    refine lv_aload_n hx hb dX9_wordHere_13 rfl (lv_at hl 0 rfl) (lv_ldc2 (v := 1818848101) hx hb hown k_5 dX9_wordHere_14 ?_)
    refine q_cVi (As := [.long 1818848101]) (rest := []) q_w0 trivial hK hP4 hDa za_r_wordHere hS4 hA [0] [] (by decide +kernel) ⟨hx, hb, hml, hown, hts⟩ (r_isWord l dC dI H4.size p0 f_p0 1818848101 v_1 v_2 ho_p0 fv_1 fv_2) rfl rfl (cwV 1 hts (p1_gV m_1 m_2 m_3 m_4 g_r_isWord gz_r_isWord) rfl rfl rfl (by decide +kernel) ⟨by decide, by decide⟩) (va_recv hK hP4 (ci := 8) (q0 := 0) rfl rfl) zm_r_isWord rfl hl.1 rfl (Nat.le_of_ble_eq_true rfl) dX9_wordHere_17 ⟨by decide, by decide⟩ (fun r_8 H9 lo9 hG9 hS9 => ?_)
    obtain ⟨z_10, hQ9⟩ := hG9
    have hP9 : va_P (dC, dI) vwCl (zW_r_wordHere p0 f_p0) H9 := hQ9
    clear hQ9 hP4 hS4
    rcases z_10 with ⟨rfl, z_10⟩ | ⟨rfl, z_10⟩
    · refine lv_if_eq (tgt := 26) hx hb dX9_wordHere_20 (by decide) (fun c_11 => absurd c_11 (by decide)) (fun c_11 => ?_)
      refine lv_bipush (v := 98) hx hb dX9_wordHere_23 (by decide) ?_
      exact q_iret hx hb hr hlocks hS9 dX9_wordHere_25 ⟨(by omega), hP9, za_r_wordHere⟩
    · refine lv_if_eq (tgt := 26) hx hb dX9_wordHere_20 (by decide) (fun c_12 => ?_) (fun c_12 => absurd c_12 (by decide))
      refine lv_aload_n hx hb dX9_wordHere_26 rfl (lv_at hl 0 rfl) (lv_ldc2 (v := 482854658917) hx hb hown k_6 dX9_wordHere_27 ?_)
      refine q_cVi (As := [.long 482854658917]) (rest := []) q_w0 trivial hK hP9 hDa za_r_wordHere hS9 hA [0] [] (by decide +kernel) ⟨hx, hb, hml, hown, hts⟩ (r_isWord l dC dI H9.size p0 f_p0 482854658917 v_1 v_2 ho_p0 fv_1 fv_2) rfl rfl (cwV 1 hts (p1_gV m_1 m_2 m_3 m_4 g_r_isWord gz_r_isWord) rfl rfl rfl (by decide +kernel) ⟨by decide, by decide⟩) (va_recv hK hP9 (ci := 8) (q0 := 0) rfl rfl) zm_r_isWord rfl hl.1 rfl (Nat.le_of_ble_eq_true rfl) dX9_wordHere_30 ⟨by decide, by decide⟩ (fun r_13 H14 lo14 hG14 hS14 => ?_)
      obtain ⟨z_15, hQ14⟩ := hG14
      have hP14 : va_P (dC, dI) vwCl (zW_r_wordHere p0 f_p0) H14 := hQ14
      clear hQ14 hP9 hS9
      rcases z_15 with ⟨rfl, z_15⟩ | ⟨rfl, z_15⟩
      · refine lv_if_eq (tgt := 39) hx hb dX9_wordHere_33 (by decide) (fun c_16 => absurd c_16 (by decide)) (fun c_16 => ?_)
        refine lv_bipush (v := 99) hx hb dX9_wordHere_36 (by decide) ?_
        exact q_iret hx hb hr hlocks hS14 dX9_wordHere_38 ⟨(by omega), hP14, za_r_wordHere⟩
      · refine lv_if_eq (tgt := 39) hx hb dX9_wordHere_33 (by decide) (fun c_17 => ?_) (fun c_17 => absurd c_17 (by decide))
        refine lv_aload_n hx hb dX9_wordHere_39 rfl (lv_at hl 0 rfl) (lv_ldc2 (v := 126913858204776) hx hb hown k_7 dX9_wordHere_40 ?_)
        refine q_cVi (As := [.long 126913858204776]) (rest := []) q_w0 trivial hK hP14 hDa za_r_wordHere hS14 hA [0] [] (by decide +kernel) ⟨hx, hb, hml, hown, hts⟩ (r_isWord l dC dI H14.size p0 f_p0 126913858204776 v_1 v_2 ho_p0 fv_1 fv_2) rfl rfl (cwV 1 hts (p1_gV m_1 m_2 m_3 m_4 g_r_isWord gz_r_isWord) rfl rfl rfl (by decide +kernel) ⟨by decide, by decide⟩) (va_recv hK hP14 (ci := 8) (q0 := 0) rfl rfl) zm_r_isWord rfl hl.1 rfl (Nat.le_of_ble_eq_true rfl) dX9_wordHere_43 ⟨by decide, by decide⟩ (fun r_18 H19 lo19 hG19 hS19 => ?_)
        obtain ⟨z_20, hQ19⟩ := hG19
        have hP19 : va_P (dC, dI) vwCl (zW_r_wordHere p0 f_p0) H19 := hQ19
        clear hQ19 hP14 hS14
        rcases z_20 with ⟨rfl, z_20⟩ | ⟨rfl, z_20⟩
        · refine lv_if_eq (tgt := 52) hx hb dX9_wordHere_46 (by decide) (fun c_21 => absurd c_21 (by decide)) (fun c_21 => ?_)
          refine lv_bipush (v := 100) hx hb dX9_wordHere_49 (by decide) ?_
          exact q_iret hx hb hr hlocks hS19 dX9_wordHere_51 ⟨(by omega), hP19, za_r_wordHere⟩
        · refine lv_if_eq (tgt := 52) hx hb dX9_wordHere_46 (by decide) (fun c_22 => ?_) (fun c_22 => absurd c_22 (by decide))
          refine lv_aload_n hx hb dX9_wordHere_52 rfl (lv_at hl 0 rfl) (lv_ldc2 (v := 131277443786868) hx hb hown k_8 dX9_wordHere_53 ?_)
          refine q_cVi (As := [.long 131277443786868]) (rest := []) q_w0 trivial hK hP19 hDa za_r_wordHere hS19 hA [0] [] (by decide +kernel) ⟨hx, hb, hml, hown, hts⟩ (r_isWord l dC dI H19.size p0 f_p0 131277443786868 v_1 v_2 ho_p0 fv_1 fv_2) rfl rfl (cwV 1 hts (p1_gV m_1 m_2 m_3 m_4 g_r_isWord gz_r_isWord) rfl rfl rfl (by decide +kernel) ⟨by decide, by decide⟩) (va_recv hK hP19 (ci := 8) (q0 := 0) rfl rfl) zm_r_isWord rfl hl.1 rfl (Nat.le_of_ble_eq_true rfl) dX9_wordHere_56 ⟨by decide, by decide⟩ (fun r_23 H24 lo24 hG24 hS24 => ?_)
          obtain ⟨z_25, hQ24⟩ := hG24
          have hP24 : va_P (dC, dI) vwCl (zW_r_wordHere p0 f_p0) H24 := hQ24
          clear hQ24 hP19 hS19
          rcases z_25 with ⟨rfl, z_25⟩ | ⟨rfl, z_25⟩
          · refine lv_if_eq (tgt := 65) hx hb dX9_wordHere_59 (by decide) (fun c_26 => absurd c_26 (by decide)) (fun c_26 => ?_)
            refine lv_bipush (v := 101) hx hb dX9_wordHere_62 (by decide) ?_
            exact q_iret hx hb hr hlocks hS24 dX9_wordHere_64 ⟨(by omega), hP24, za_r_wordHere⟩
          · refine lv_if_eq (tgt := 65) hx hb dX9_wordHere_59 (by decide) (fun c_27 => ?_) (fun c_27 => absurd c_27 (by decide))
            refine lv_aload_n hx hb dX9_wordHere_65 rfl (lv_at hl 0 rfl) (lv_ldc2 (v := 1819242087) hx hb hown k_9 dX9_wordHere_66 ?_)
            refine q_cVi (As := [.long 1819242087]) (rest := []) q_w0 trivial hK hP24 hDa za_r_wordHere hS24 hA [0] [] (by decide +kernel) ⟨hx, hb, hml, hown, hts⟩ (r_isWord l dC dI H24.size p0 f_p0 1819242087 v_1 v_2 ho_p0 fv_1 fv_2) rfl rfl (cwV 1 hts (p1_gV m_1 m_2 m_3 m_4 g_r_isWord gz_r_isWord) rfl rfl rfl (by decide +kernel) ⟨by decide, by decide⟩) (va_recv hK hP24 (ci := 8) (q0 := 0) rfl rfl) zm_r_isWord rfl hl.1 rfl (Nat.le_of_ble_eq_true rfl) dX9_wordHere_69 ⟨by decide, by decide⟩ (fun r_28 H29 lo29 hG29 hS29 => ?_)
            obtain ⟨z_30, hQ29⟩ := hG29
            have hP29 : va_P (dC, dI) vwCl (zW_r_wordHere p0 f_p0) H29 := hQ29
            clear hQ29 hP24 hS24
            rcases z_30 with ⟨rfl, z_30⟩ | ⟨rfl, z_30⟩
            · refine lv_if_eq (tgt := 78) hx hb dX9_wordHere_72 (by decide) (fun c_31 => absurd c_31 (by decide)) (fun c_31 => ?_)
              refine lv_bipush (v := 102) hx hb dX9_wordHere_75 (by decide) ?_
              exact q_iret hx hb hr hlocks hS29 dX9_wordHere_77 ⟨(by omega), hP29, za_r_wordHere⟩
            · refine lv_if_eq (tgt := 78) hx hb dX9_wordHere_72 (by decide) (fun c_32 => ?_) (fun c_32 => absurd c_32 (by decide))
              refine lv_aload_n hx hb dX9_wordHere_78 rfl (lv_at hl 0 rfl) (lv_ldc2 (v := 126943972911973) hx hb hown k_10 dX9_wordHere_79 ?_)
              refine q_cVi (As := [.long 126943972911973]) (rest := []) q_w0 trivial hK hP29 hDa za_r_wordHere hS29 hA [0] [] (by decide +kernel) ⟨hx, hb, hml, hown, hts⟩ (r_isWord l dC dI H29.size p0 f_p0 126943972911973 v_1 v_2 ho_p0 fv_1 fv_2) rfl rfl (cwV 1 hts (p1_gV m_1 m_2 m_3 m_4 g_r_isWord gz_r_isWord) rfl rfl rfl (by decide +kernel) ⟨by decide, by decide⟩) (va_recv hK hP29 (ci := 8) (q0 := 0) rfl rfl) zm_r_isWord rfl hl.1 rfl (Nat.le_of_ble_eq_true rfl) dX9_wordHere_82 ⟨by decide, by decide⟩ (fun r_33 H34 lo34 hG34 hS34 => ?_)
              obtain ⟨z_35, hQ34⟩ := hG34
              have hP34 : va_P (dC, dI) vwCl (zW_r_wordHere p0 f_p0) H34 := hQ34
              clear hQ34 hP29 hS29
              rcases z_35 with ⟨rfl, z_35⟩ | ⟨rfl, z_35⟩
              · refine lv_if_eq (tgt := 91) hx hb dX9_wordHere_85 (by decide) (fun c_36 => absurd c_36 (by decide)) (fun c_36 => ?_)
                refine lv_bipush (v := 103) hx hb dX9_wordHere_88 (by decide) ?_
                exact q_iret hx hb hr hlocks hS34 dX9_wordHere_90 ⟨(by omega), hP34, za_r_wordHere⟩
              · refine lv_if_eq (tgt := 91) hx hb dX9_wordHere_85 (by decide) (fun c_37 => ?_) (fun c_37 => absurd c_37 (by decide))
                refine lv_aload_n hx hb dX9_wordHere_91 rfl (lv_at hl 0 rfl) (lv_ldc2 (v := 495924637287) hx hb hown k_11 dX9_wordHere_92 ?_)
                refine q_cVi (As := [.long 495924637287]) (rest := []) q_w0 trivial hK hP34 hDa za_r_wordHere hS34 hA [0] [] (by decide +kernel) ⟨hx, hb, hml, hown, hts⟩ (r_isWord l dC dI H34.size p0 f_p0 495924637287 v_1 v_2 ho_p0 fv_1 fv_2) rfl rfl (cwV 1 hts (p1_gV m_1 m_2 m_3 m_4 g_r_isWord gz_r_isWord) rfl rfl rfl (by decide +kernel) ⟨by decide, by decide⟩) (va_recv hK hP34 (ci := 8) (q0 := 0) rfl rfl) zm_r_isWord rfl hl.1 rfl (Nat.le_of_ble_eq_true rfl) dX9_wordHere_95 ⟨by decide, by decide⟩ (fun r_38 H39 lo39 hG39 hS39 => ?_)
                obtain ⟨z_40, hQ39⟩ := hG39
                have hP39 : va_P (dC, dI) vwCl (zW_r_wordHere p0 f_p0) H39 := hQ39
                clear hQ39 hP34 hS34
                rcases z_40 with ⟨rfl, z_40⟩ | ⟨rfl, z_40⟩
                · refine lv_if_eq (tgt := 106) hx hb dX9_wordHere_98 (by decide) (fun c_41 => absurd c_41 (by decide)) (fun c_41 => ?_)
                  refine lv_bipush (v := 104) hx hb dX9_wordHere_101 (by decide) (lv_goto (tgt := 107) hx hb dX9_wordHere_103 (by decide) ?_)
                  exact q_iret hx hb hr hlocks hS39 dX9_wordHere_107 ⟨(by omega), hP39, za_r_wordHere⟩
                · refine lv_if_eq (tgt := 106) hx hb dX9_wordHere_98 (by decide) (fun c_42 => ?_) (fun c_42 => absurd c_42 (by decide))
                  refine lv_iconst (v := 0) hx hb dX9_wordHere_106 (by decide) ?_
                  exact q_iret hx hb hr hlocks hS39 dX9_wordHere_107 ⟨(by omega), hP39, za_r_wordHere⟩
def zo_r_rankHere : List Cond := [.code yX9_rankHere cX9_rankHere 1 (some .int), .constantLong RX9 208 (6385252), .methodLink RX9 268 yX9_isWord, .instanceMethod yX9_isWord, .selects RX9 yX9_isWord yX9_isWord, .initialized RX9, .constantLong RX9 206 (28530), .methodLink RX9 322 yX9_is, .instanceMethod yX9_is, .selects RX9 yX9_is yX9_is]
def zw_r_rankHere : List Cond := zo_r_rankHere ++ (zw_r_isWord ++ (zw_r_is ++ []))
theorem gz_r_rankHere : zw_r_rankHere.all goodWord = true := p1_ga (by decide +kernel) (p1_ga gz_r_isWord (p1_ga gz_r_is p1_g0))
theorem iz_r_rankHere : ∀ w ∈ zw_r_rankHere, w ∈ lw_tbl := p1_ia (p1_all [1418, 1315, 1339, 1341, 49, 116, 1314, 1399, 1401, 64] (by decide +kernel)) (p1_ia iz_r_isWord (p1_ia iz_r_is p1_i0))
def zW_r_rankHere (p0 : Nat) (f_p0 : List Value) (p0_text : Nat) (c_p0_text : ClassId) (b_p0_text : Nat → Int32) : va_W := [(p0, .inr (8, f_p0)), (p0_text, .inl (c_p0_text, 1600, .inl b_p0_text))]
def zT_r_rankHere (c_p0_text : ClassId) : List (ClassId × FieldType) := [(c_p0_text, .byte)]
def zA_r_rankHere (p0 : Nat) (p0_text : Nat) : List Nat := [p0, p0_text]
theorem za_r_rankHere {p0 : Nat} {f_p0 : List Value} {p0_text : Nat} {c_p0_text : ClassId} {b_p0_text : Nat → Int32} : (zW_r_rankHere p0 f_p0 p0_text c_p0_text b_p0_text).map Prod.fst = (zA_r_rankHere p0 p0_text) := rfl
def zG_r_rankHere (p0 : Nat) (f_p0 : List Value) (p0_text : Nat) (c_p0_text : ClassId) (b_p0_text : Nat → Int32) (tk : Int32) (at0 : Int32) (sz : Int32) (r : Int32) (X : va_W → Prop) : Prop := (r.toInt = 0 ∨ r.toInt = 1 ∨ r.toInt = 2 ∨ ((r.toInt = 4 ∨ r.toInt = 5 ∨ r.toInt = 6) ∧ ((q_sgn b_p0_text sz at0).toInt = 38 ∨ (q_sgn b_p0_text sz at0).toInt = 124 ∨ (q_sgn b_p0_text sz at0).toInt = 60 ∨ (q_sgn b_p0_text sz at0).toInt = 62 ∨ (q_sgn b_p0_text sz at0).toInt = 61 ∨ (q_sgn b_p0_text sz at0).toInt = 43 ∨ (q_sgn b_p0_text sz at0).toInt = 45 ∨ (q_sgn b_p0_text sz at0).toInt = 42 ∨ (q_sgn b_p0_text sz at0).toInt = 47))) ∧ X (zW_r_rankHere p0 f_p0 p0_text c_p0_text b_p0_text)
theorem zm_r_rankHere {p0 : Nat} {f_p0 : List Value} {p0_text : Nat} {c_p0_text : ClassId} {b_p0_text : Nat → Int32} {tk : Int32} {at0 : Int32} {sz : Int32} : ∀ (r : Int32), ∀ X Y : va_W → Prop, (∀ w, X w → Y w) → zG_r_rankHere p0 f_p0 p0_text c_p0_text b_p0_text tk at0 sz r X → zG_r_rankHere p0 f_p0 p0_text c_p0_text b_p0_text tk at0 sz r Y := fun r X Y h h1 => by obtain ⟨x0, hx⟩ := h1; exact ⟨x0, h _ hx⟩
set_option maxHeartbeats 4000000 in
set_option maxRecDepth 100000 in
theorem r_rankHere (l : Launch) (dC : Nat → ClassId) (dI : Nat → Nat → Nat) (sz : Nat) (p0 : Nat) (f_p0 : List Value) (p0_text : Nat) (c_p0_text : ClassId) (b_p0_text : Nat → Int32) (tk : Int32) (at0 : Int32) (sz : Int32) (ho_p0 : OKX9 f_p0) (fr_p0_1 : f_p0[1]? = some (.ref p0_text)) (pf_tk : f_p0[8]? = some (.int tk)) (pf_at0 : f_p0[6]? = some (.int at0)) (pf_sz : f_p0[3]? = some (.int sz)) : Met l yX9_rankHere zw_r_rankHere ({ frames := 2, cells := 0, slots := 0, locals := 42 }) (va_Pc [.ref p0] (q_pre (dC, dI) (zW_r_rankHere p0 f_p0 p0_text c_p0_text b_p0_text) (zT_r_rankHere c_p0_text) q_E0 sz)) (q_Qi (dC, dI) (zG_r_rankHere p0 f_p0 p0_text c_p0_text b_p0_text tk at0 sz) (zA_r_rankHere p0 p0_text) (va_A (zW_r_rankHere p0 f_p0 p0_text c_p0_text b_p0_text) sz)) 0 0 (va_A (zW_r_rankHere p0 f_p0 p0_text c_p0_text b_p0_text) sz) := by
  refine Met.ofW (cc := cX9_rankHere) (maxL := 1) (ret := (some .int)) (by decide) rfl ?_
  intro p e s m args below meth c s₁ B hml hv
  obtain ⟨rfl, hsz, hP, hK, hD0, hE⟩ := hv
  have hx := B.exec
  have hb := B.bytes
  have hr := B.returns
  have hts := atoms_spec (ws := zw_r_rankHere) B.pre
  have hown : s.vm.findClass RX9 = some m.cls := findClass_of_methodNamed B.named
  have hlocks := B.notSynchronized
  subst hsz
  have hD := hD0.self (sz := s.heap.size)
  generalize hAe : va_A (zW_r_rankHere p0 f_p0 p0_text c_p0_text b_p0_text) s.heap.size = A at hD hE ⊢
  have hA : ∀ q : Nat, s.heap.size ≤ q → A q := fun q h => by rw [← hAe]; exact Or.inr h
  have hDa : q_DA A (zA_r_rankHere p0 p0_text) := q_DA.mk hD za_r_rankHere
  clear hAe hD0 hD
  have hS : va_S A s.heap s.heap [] := va_S.rf
  have m_0 : (.constantLong RX9 208 (6385252) : Cond) ∈ zw_r_rankHere := List.mem_append_left _ (List.mem_of_getElem? (i := 1) rfl)
  have k_0 := hts _ m_0
  have m_1 : (.methodLink RX9 268 yX9_isWord : Cond) ∈ zw_r_rankHere := List.mem_append_left _ (List.mem_of_getElem? (i := 2) rfl)
  have k_1 := hts _ m_1
  have m_2 : (.instanceMethod yX9_isWord : Cond) ∈ zw_r_rankHere := List.mem_append_left _ (List.mem_of_getElem? (i := 3) rfl)
  have k_2 := hts _ m_2
  have m_3 : (.selects RX9 yX9_isWord yX9_isWord : Cond) ∈ zw_r_rankHere := List.mem_append_left _ (List.mem_of_getElem? (i := 4) rfl)
  have k_3 := hts _ m_3
  have m_4 : (.initialized RX9 : Cond) ∈ zw_r_rankHere := List.mem_append_left _ (List.mem_of_getElem? (i := 5) rfl)
  have k_4 := hts _ m_4
  have m_5 : (.constantLong RX9 206 (28530) : Cond) ∈ zw_r_rankHere := List.mem_append_left _ (List.mem_of_getElem? (i := 6) rfl)
  have k_5 := hts _ m_5
  have m_6 : (.methodLink RX9 322 yX9_is : Cond) ∈ zw_r_rankHere := List.mem_append_left _ (List.mem_of_getElem? (i := 7) rfl)
  have k_6 := hts _ m_6
  have m_7 : (.instanceMethod yX9_is : Cond) ∈ zw_r_rankHere := List.mem_append_left _ (List.mem_of_getElem? (i := 8) rfl)
  have k_7 := hts _ m_7
  have m_8 : (.selects RX9 yX9_is yX9_is : Cond) ∈ zw_r_rankHere := List.mem_append_left _ (List.mem_of_getElem? (i := 9) rfl)
  have k_8 := hts _ m_8
  have g_r_isWord : ∀ w ∈ zw_r_isWord, w ∈ zw_r_rankHere := fun w h => List.mem_append_right _ (List.mem_append_left _ h)
  have g_r_is : ∀ w ∈ zw_r_is, w ∈ zw_r_rankHere := fun w h => List.mem_append_right _ (List.mem_append_right _ (List.mem_append_left _ h))
  have lt_0 : (0 : Int32).toInt = 0 := by decide
  have lt_1 : (1 : Int32).toInt = 1 := by decide
  have lt_2 : (2 : Int32).toInt = 2 := by decide
  have lt_4 : (4 : Int32).toInt = 4 := by decide
  have lt_5 : (5 : Int32).toInt = 5 := by decide
  have lt_6 : (6 : Int32).toInt = 6 := by decide
  have lt_42 : (42 : Int32).toInt = 42 := by decide
  have lt_43 : (43 : Int32).toInt = 43 := by decide
  have lt_45 : (45 : Int32).toInt = 45 := by decide
  have lt_47 : (47 : Int32).toInt = 47 := by decide
  have lt_60 : (60 : Int32).toInt = 60 := by decide
  have lt_61 : (61 : Int32).toInt = 61 := by decide
  have lt_62 : (62 : Int32).toInt = 62 := by decide
  have hl := lv_entry ([.ref p0]) (n := 1) (Nat.le_of_ble_eq_true rfl)
  rw [lg_entry_eq]
  generalize (lg_sl ([.ref p0]) ++ List.replicate (1 - (lg_sl ([.ref p0])).length) Slot.unset).toArray = ls at hl ⊢
  have hl : lv_has ls 1 [(0, .ref p0)] := hl
  have ttk := (OKX9_g8 ho_p0).use pf_tk
  have tat0 := (OKX9_g6 ho_p0).use pf_at0
  have tsz := (OKX9_g3 ho_p0).use pf_sz
  refine lv_aload_n hx hb dX9_rankHere_0 rfl (lv_at hl 0 rfl) (lv_ldc2 (v := 6385252) hx hb hown k_0 dX9_rankHere_1 ?_)
  obtain ⟨v_1, fv_1⟩ := OKX9_g10 ho_p0
  refine q_cVi (As := [.long 6385252]) (rest := []) q_w0 trivial hK hP hDa za_r_rankHere hS hA [0] [] (by decide +kernel) ⟨hx, hb, hml, hown, hts⟩ (r_isWord l dC dI s.heap.size p0 f_p0 6385252 tk v_1 ho_p0 pf_tk fv_1) rfl rfl (cwV 1 hts (p1_gV m_1 m_2 m_3 m_4 g_r_isWord gz_r_isWord) rfl rfl rfl (by decide +kernel) ⟨by decide, by decide⟩) (va_recv hK hP (ci := 8) (q0 := 0) rfl rfl) zm_r_isWord rfl hl.1 rfl (Nat.le_of_ble_eq_true rfl) dX9_rankHere_4 ⟨by decide, by decide⟩ (fun r_2 H3 lo3 hG3 hS3 => ?_)
  obtain ⟨z_4, hQ3⟩ := hG3
  have hP3 : va_P (dC, dI) vwCl (zW_r_rankHere p0 f_p0 p0_text c_p0_text b_p0_text) H3 := hQ3
  clear hQ3 hP hS
  rcases z_4 with ⟨rfl, z_4⟩ | ⟨rfl, z_4⟩
  · refine lv_if_eq (tgt := 12) hx hb dX9_rankHere_7 (by decide) (fun c_5 => absurd c_5 (by decide)) (fun c_5 => ?_)
    refine lv_iconst (v := 2) hx hb dX9_rankHere_10 (by decide) ?_
    exact q_iret hx hb hr hlocks hS3 dX9_rankHere_11 ⟨(by omega), hP3, za_r_rankHere⟩
  · refine lv_if_eq (tgt := 12) hx hb dX9_rankHere_7 (by decide) (fun c_6 => ?_) (fun c_6 => absurd c_6 (by decide))
    refine lv_aload_n hx hb dX9_rankHere_12 rfl (lv_at hl 0 rfl) (lv_ldc2 (v := 28530) hx hb hown k_5 dX9_rankHere_13 ?_)
    refine q_cVi (As := [.long 28530]) (rest := []) q_w0 trivial hK hP3 hDa za_r_rankHere hS3 hA [0] [] (by decide +kernel) ⟨hx, hb, hml, hown, hts⟩ (r_isWord l dC dI H3.size p0 f_p0 28530 tk v_1 ho_p0 pf_tk fv_1) rfl rfl (cwV 1 hts (p1_gV m_1 m_2 m_3 m_4 g_r_isWord gz_r_isWord) rfl rfl rfl (by decide +kernel) ⟨by decide, by decide⟩) (va_recv hK hP3 (ci := 8) (q0 := 0) rfl rfl) zm_r_isWord rfl hl.1 rfl (Nat.le_of_ble_eq_true rfl) dX9_rankHere_16 ⟨by decide, by decide⟩ (fun r_7 H8 lo8 hG8 hS8 => ?_)
    obtain ⟨z_9, hQ8⟩ := hG8
    have hP8 : va_P (dC, dI) vwCl (zW_r_rankHere p0 f_p0 p0_text c_p0_text b_p0_text) H8 := hQ8
    clear hQ8 hP3 hS3
    rcases z_9 with ⟨rfl, z_9⟩ | ⟨rfl, z_9⟩
    · refine lv_if_eq (tgt := 24) hx hb dX9_rankHere_19 (by decide) (fun c_10 => absurd c_10 (by decide)) (fun c_10 => ?_)
      refine lv_iconst (v := 1) hx hb dX9_rankHere_22 (by decide) ?_
      exact q_iret hx hb hr hlocks hS8 dX9_rankHere_23 ⟨(by omega), hP8, za_r_rankHere⟩
    · refine lv_if_eq (tgt := 24) hx hb dX9_rankHere_19 (by decide) (fun c_11 => ?_) (fun c_11 => absurd c_11 (by decide))
      refine lv_aload_n hx hb dX9_rankHere_24 rfl (lv_at hl 0 rfl) (lv_bipush (v := 60) hx hb dX9_rankHere_25 (by decide) ?_)
      refine q_cVi (As := [.int 60]) (rest := []) q_w0 trivial hK hP8 hDa za_r_rankHere hS8 hA [0, 1] [0] (by decide +kernel) ⟨hx, hb, hml, hown, hts⟩ (r_is l dC dI H8.size p0 f_p0 p0_text c_p0_text b_p0_text 60 tk at0 sz ho_p0 fr_p0_1 pf_tk pf_at0 pf_sz) rfl rfl (cwV 1 hts (p1_gV m_6 m_7 m_8 m_4 g_r_is gz_r_is) rfl rfl rfl (by decide +kernel) ⟨by decide, by decide⟩) (va_recv hK hP8 (ci := 8) (q0 := 0) rfl rfl) zm_r_is rfl hl.1 rfl (Nat.le_of_ble_eq_true rfl) dX9_rankHere_27 ⟨by decide, by decide⟩ (fun r_12 H13 lo13 hG13 hS13 => ?_)
      obtain ⟨z_14, hQ13⟩ := hG13
      have hP13 : va_P (dC, dI) vwCl (zW_r_rankHere p0 f_p0 p0_text c_p0_text b_p0_text) H13 := hQ13
      clear hQ13 hP8 hS8
      rcases z_14 with ⟨rfl, z_14⟩ | ⟨rfl, z_14⟩
      · refine lv_if_ne (tgt := 51) hx hb dX9_rankHere_30 (by decide) (fun c_15 => ?_) (fun c_15 => absurd c_15 (by decide))
        refine lv_iconst (v := 4) hx hb dX9_rankHere_51 (by decide) ?_
        exact q_iret hx hb hr hlocks hS13 dX9_rankHere_52 ⟨(by omega), hP13, za_r_rankHere⟩
      · refine lv_if_ne (tgt := 51) hx hb dX9_rankHere_30 (by decide) (fun c_16 => absurd c_16 (by decide)) (fun c_16 => ?_)
        refine lv_aload_n hx hb dX9_rankHere_33 rfl (lv_at hl 0 rfl) (lv_bipush (v := 62) hx hb dX9_rankHere_34 (by decide) ?_)
        refine q_cVi (As := [.int 62]) (rest := []) q_w0 trivial hK hP13 hDa za_r_rankHere hS13 hA [0, 1] [0] (by decide +kernel) ⟨hx, hb, hml, hown, hts⟩ (r_is l dC dI H13.size p0 f_p0 p0_text c_p0_text b_p0_text 62 tk at0 sz ho_p0 fr_p0_1 pf_tk pf_at0 pf_sz) rfl rfl (cwV 1 hts (p1_gV m_6 m_7 m_8 m_4 g_r_is gz_r_is) rfl rfl rfl (by decide +kernel) ⟨by decide, by decide⟩) (va_recv hK hP13 (ci := 8) (q0 := 0) rfl rfl) zm_r_is rfl hl.1 rfl (Nat.le_of_ble_eq_true rfl) dX9_rankHere_36 ⟨by decide, by decide⟩ (fun r_17 H18 lo18 hG18 hS18 => ?_)
        obtain ⟨z_19, hQ18⟩ := hG18
        have hP18 : va_P (dC, dI) vwCl (zW_r_rankHere p0 f_p0 p0_text c_p0_text b_p0_text) H18 := hQ18
        clear hQ18 hP13 hS13
        rcases z_19 with ⟨rfl, z_19⟩ | ⟨rfl, z_19⟩
        · refine lv_if_ne (tgt := 51) hx hb dX9_rankHere_39 (by decide) (fun c_20 => ?_) (fun c_20 => absurd c_20 (by decide))
          refine lv_iconst (v := 4) hx hb dX9_rankHere_51 (by decide) ?_
          exact q_iret hx hb hr hlocks hS18 dX9_rankHere_52 ⟨(by omega), hP18, za_r_rankHere⟩
        · refine lv_if_ne (tgt := 51) hx hb dX9_rankHere_39 (by decide) (fun c_21 => absurd c_21 (by decide)) (fun c_21 => ?_)
          refine lv_aload_n hx hb dX9_rankHere_42 rfl (lv_at hl 0 rfl) (lv_bipush (v := 61) hx hb dX9_rankHere_43 (by decide) ?_)
          refine q_cVi (As := [.int 61]) (rest := []) q_w0 trivial hK hP18 hDa za_r_rankHere hS18 hA [0, 1] [0] (by decide +kernel) ⟨hx, hb, hml, hown, hts⟩ (r_is l dC dI H18.size p0 f_p0 p0_text c_p0_text b_p0_text 61 tk at0 sz ho_p0 fr_p0_1 pf_tk pf_at0 pf_sz) rfl rfl (cwV 1 hts (p1_gV m_6 m_7 m_8 m_4 g_r_is gz_r_is) rfl rfl rfl (by decide +kernel) ⟨by decide, by decide⟩) (va_recv hK hP18 (ci := 8) (q0 := 0) rfl rfl) zm_r_is rfl hl.1 rfl (Nat.le_of_ble_eq_true rfl) dX9_rankHere_45 ⟨by decide, by decide⟩ (fun r_22 H23 lo23 hG23 hS23 => ?_)
          obtain ⟨z_24, hQ23⟩ := hG23
          have hP23 : va_P (dC, dI) vwCl (zW_r_rankHere p0 f_p0 p0_text c_p0_text b_p0_text) H23 := hQ23
          clear hQ23 hP18 hS18
          rcases z_24 with ⟨rfl, z_24⟩ | ⟨rfl, z_24⟩
          · refine lv_if_eq (tgt := 53) hx hb dX9_rankHere_48 (by decide) (fun c_25 => absurd c_25 (by decide)) (fun c_25 => ?_)
            refine lv_iconst (v := 4) hx hb dX9_rankHere_51 (by decide) ?_
            exact q_iret hx hb hr hlocks hS23 dX9_rankHere_52 ⟨(by omega), hP23, za_r_rankHere⟩
          · refine lv_if_eq (tgt := 53) hx hb dX9_rankHere_48 (by decide) (fun c_26 => ?_) (fun c_26 => absurd c_26 (by decide))
            refine lv_aload_n hx hb dX9_rankHere_53 rfl (lv_at hl 0 rfl) (lv_bipush (v := 43) hx hb dX9_rankHere_54 (by decide) ?_)
            refine q_cVi (As := [.int 43]) (rest := []) q_w0 trivial hK hP23 hDa za_r_rankHere hS23 hA [0, 1] [0] (by decide +kernel) ⟨hx, hb, hml, hown, hts⟩ (r_is l dC dI H23.size p0 f_p0 p0_text c_p0_text b_p0_text 43 tk at0 sz ho_p0 fr_p0_1 pf_tk pf_at0 pf_sz) rfl rfl (cwV 1 hts (p1_gV m_6 m_7 m_8 m_4 g_r_is gz_r_is) rfl rfl rfl (by decide +kernel) ⟨by decide, by decide⟩) (va_recv hK hP23 (ci := 8) (q0 := 0) rfl rfl) zm_r_is rfl hl.1 rfl (Nat.le_of_ble_eq_true rfl) dX9_rankHere_56 ⟨by decide, by decide⟩ (fun r_27 H28 lo28 hG28 hS28 => ?_)
            obtain ⟨z_29, hQ28⟩ := hG28
            have hP28 : va_P (dC, dI) vwCl (zW_r_rankHere p0 f_p0 p0_text c_p0_text b_p0_text) H28 := hQ28
            clear hQ28 hP23 hS23
            rcases z_29 with ⟨rfl, z_29⟩ | ⟨rfl, z_29⟩
            · refine lv_if_ne (tgt := 71) hx hb dX9_rankHere_59 (by decide) (fun c_30 => ?_) (fun c_30 => absurd c_30 (by decide))
              refine lv_iconst (v := 5) hx hb dX9_rankHere_71 (by decide) ?_
              exact q_iret hx hb hr hlocks hS28 dX9_rankHere_72 ⟨(by omega), hP28, za_r_rankHere⟩
            · refine lv_if_ne (tgt := 71) hx hb dX9_rankHere_59 (by decide) (fun c_31 => absurd c_31 (by decide)) (fun c_31 => ?_)
              refine lv_aload_n hx hb dX9_rankHere_62 rfl (lv_at hl 0 rfl) (lv_bipush (v := 45) hx hb dX9_rankHere_63 (by decide) ?_)
              refine q_cVi (As := [.int 45]) (rest := []) q_w0 trivial hK hP28 hDa za_r_rankHere hS28 hA [0, 1] [0] (by decide +kernel) ⟨hx, hb, hml, hown, hts⟩ (r_is l dC dI H28.size p0 f_p0 p0_text c_p0_text b_p0_text 45 tk at0 sz ho_p0 fr_p0_1 pf_tk pf_at0 pf_sz) rfl rfl (cwV 1 hts (p1_gV m_6 m_7 m_8 m_4 g_r_is gz_r_is) rfl rfl rfl (by decide +kernel) ⟨by decide, by decide⟩) (va_recv hK hP28 (ci := 8) (q0 := 0) rfl rfl) zm_r_is rfl hl.1 rfl (Nat.le_of_ble_eq_true rfl) dX9_rankHere_65 ⟨by decide, by decide⟩ (fun r_32 H33 lo33 hG33 hS33 => ?_)
              obtain ⟨z_34, hQ33⟩ := hG33
              have hP33 : va_P (dC, dI) vwCl (zW_r_rankHere p0 f_p0 p0_text c_p0_text b_p0_text) H33 := hQ33
              clear hQ33 hP28 hS28
              rcases z_34 with ⟨rfl, z_34⟩ | ⟨rfl, z_34⟩
              · refine lv_if_eq (tgt := 73) hx hb dX9_rankHere_68 (by decide) (fun c_35 => absurd c_35 (by decide)) (fun c_35 => ?_)
                refine lv_iconst (v := 5) hx hb dX9_rankHere_71 (by decide) ?_
                exact q_iret hx hb hr hlocks hS33 dX9_rankHere_72 ⟨(by omega), hP33, za_r_rankHere⟩
              · refine lv_if_eq (tgt := 73) hx hb dX9_rankHere_68 (by decide) (fun c_36 => ?_) (fun c_36 => absurd c_36 (by decide))
                refine lv_aload_n hx hb dX9_rankHere_73 rfl (lv_at hl 0 rfl) (lv_bipush (v := 42) hx hb dX9_rankHere_74 (by decide) ?_)
                refine q_cVi (As := [.int 42]) (rest := []) q_w0 trivial hK hP33 hDa za_r_rankHere hS33 hA [0, 1] [0] (by decide +kernel) ⟨hx, hb, hml, hown, hts⟩ (r_is l dC dI H33.size p0 f_p0 p0_text c_p0_text b_p0_text 42 tk at0 sz ho_p0 fr_p0_1 pf_tk pf_at0 pf_sz) rfl rfl (cwV 1 hts (p1_gV m_6 m_7 m_8 m_4 g_r_is gz_r_is) rfl rfl rfl (by decide +kernel) ⟨by decide, by decide⟩) (va_recv hK hP33 (ci := 8) (q0 := 0) rfl rfl) zm_r_is rfl hl.1 rfl (Nat.le_of_ble_eq_true rfl) dX9_rankHere_76 ⟨by decide, by decide⟩ (fun r_37 H38 lo38 hG38 hS38 => ?_)
                obtain ⟨z_39, hQ38⟩ := hG38
                have hP38 : va_P (dC, dI) vwCl (zW_r_rankHere p0 f_p0 p0_text c_p0_text b_p0_text) H38 := hQ38
                clear hQ38 hP33 hS33
                rcases z_39 with ⟨rfl, z_39⟩ | ⟨rfl, z_39⟩
                · refine lv_if_ne (tgt := 91) hx hb dX9_rankHere_79 (by decide) (fun c_40 => ?_) (fun c_40 => absurd c_40 (by decide))
                  refine lv_bipush (v := 6) hx hb dX9_rankHere_91 (by decide) (lv_goto (tgt := 97) hx hb dX9_rankHere_93 (by decide) ?_)
                  exact q_iret hx hb hr hlocks hS38 dX9_rankHere_97 ⟨(by omega), hP38, za_r_rankHere⟩
                · refine lv_if_ne (tgt := 91) hx hb dX9_rankHere_79 (by decide) (fun c_41 => absurd c_41 (by decide)) (fun c_41 => ?_)
                  refine lv_aload_n hx hb dX9_rankHere_82 rfl (lv_at hl 0 rfl) (lv_bipush (v := 47) hx hb dX9_rankHere_83 (by decide) ?_)
                  refine q_cVi (As := [.int 47]) (rest := []) q_w0 trivial hK hP38 hDa za_r_rankHere hS38 hA [0, 1] [0] (by decide +kernel) ⟨hx, hb, hml, hown, hts⟩ (r_is l dC dI H38.size p0 f_p0 p0_text c_p0_text b_p0_text 47 tk at0 sz ho_p0 fr_p0_1 pf_tk pf_at0 pf_sz) rfl rfl (cwV 1 hts (p1_gV m_6 m_7 m_8 m_4 g_r_is gz_r_is) rfl rfl rfl (by decide +kernel) ⟨by decide, by decide⟩) (va_recv hK hP38 (ci := 8) (q0 := 0) rfl rfl) zm_r_is rfl hl.1 rfl (Nat.le_of_ble_eq_true rfl) dX9_rankHere_85 ⟨by decide, by decide⟩ (fun r_42 H43 lo43 hG43 hS43 => ?_)
                  obtain ⟨z_44, hQ43⟩ := hG43
                  have hP43 : va_P (dC, dI) vwCl (zW_r_rankHere p0 f_p0 p0_text c_p0_text b_p0_text) H43 := hQ43
                  clear hQ43 hP38 hS38
                  rcases z_44 with ⟨rfl, z_44⟩ | ⟨rfl, z_44⟩
                  · refine lv_if_eq (tgt := 96) hx hb dX9_rankHere_88 (by decide) (fun c_45 => absurd c_45 (by decide)) (fun c_45 => ?_)
                    refine lv_bipush (v := 6) hx hb dX9_rankHere_91 (by decide) (lv_goto (tgt := 97) hx hb dX9_rankHere_93 (by decide) ?_)
                    exact q_iret hx hb hr hlocks hS43 dX9_rankHere_97 ⟨(by omega), hP43, za_r_rankHere⟩
                  · refine lv_if_eq (tgt := 96) hx hb dX9_rankHere_88 (by decide) (fun c_46 => ?_) (fun c_46 => absurd c_46 (by decide))
                    refine lv_iconst (v := 0) hx hb dX9_rankHere_96 (by decide) ?_
                    exact q_iret hx hb hr hlocks hS43 dX9_rankHere_97 ⟨(by omega), hP43, za_r_rankHere⟩
def zo_r_isCompared : List Cond := [.code yX9_isCompared cX9_isCompared 2 (some .boolean), .fieldLink RX9 339 "BowWalkModel" "piled" "I", .fieldLink RX9 110 "BowWalkModel" "eWhat" "[I"]
def zw_r_isCompared : List Cond := zo_r_isCompared ++ (wsX90 ++ [])
theorem gz_r_isCompared : zw_r_isCompared.all goodWord = true := p1_ga (by decide +kernel) (p1_ga gk_X9 p1_g0)
theorem iz_r_isCompared : ∀ w ∈ zw_r_isCompared, w ∈ lw_tbl := p1_ia (p1_all [1422, 1085, 1077] (by decide +kernel)) (p1_ia ik_X9 p1_i0)
def zW_r_isCompared (p0 : Nat) (f_p0 : List Value) (p0_eWhat : Nat) (c_p0_eWhat : ClassId) (b_p0_eWhat : Nat → Int32) : va_W := [(p0, .inr (8, f_p0)), (p0_eWhat, .inl (c_p0_eWhat, 120, .inl b_p0_eWhat))]
def zT_r_isCompared (c_p0_eWhat : ClassId) : List (ClassId × FieldType) := [(c_p0_eWhat, .int)]
def zA_r_isCompared (p0 : Nat) (p0_eWhat : Nat) : List Nat := [p0, p0_eWhat]
theorem za_r_isCompared {p0 : Nat} {f_p0 : List Value} {p0_eWhat : Nat} {c_p0_eWhat : ClassId} {b_p0_eWhat : Nat → Int32} : (zW_r_isCompared p0 f_p0 p0_eWhat c_p0_eWhat b_p0_eWhat).map Prod.fst = (zA_r_isCompared p0 p0_eWhat) := rfl
def zG_r_isCompared (p0 : Nat) (f_p0 : List Value) (p0_eWhat : Nat) (c_p0_eWhat : ClassId) (b_p0_eWhat : Nat → Int32) (pi : Int32) (r : Int32) (X : va_W → Prop) : Prop := ((r = 1 ∧ (True)) ∨ (r = 0 ∧ (True))) ∧ X (zW_r_isCompared p0 f_p0 p0_eWhat c_p0_eWhat b_p0_eWhat)
theorem zm_r_isCompared {p0 : Nat} {f_p0 : List Value} {p0_eWhat : Nat} {c_p0_eWhat : ClassId} {b_p0_eWhat : Nat → Int32} {pi : Int32} : ∀ (r : Int32), ∀ X Y : va_W → Prop, (∀ w, X w → Y w) → zG_r_isCompared p0 f_p0 p0_eWhat c_p0_eWhat b_p0_eWhat pi r X → zG_r_isCompared p0 f_p0 p0_eWhat c_p0_eWhat b_p0_eWhat pi r Y := fun r X Y h h1 => by obtain ⟨x0, hx⟩ := h1; exact ⟨x0, h _ hx⟩
set_option maxHeartbeats 4000000 in
set_option maxRecDepth 100000 in
theorem r_isCompared (l : Launch) (dC : Nat → ClassId) (dI : Nat → Nat → Nat) (sz : Nat) (p0 : Nat) (f_p0 : List Value) (p0_eWhat : Nat) (c_p0_eWhat : ClassId) (b_p0_eWhat : Nat → Int32) (pi : Int32) (ho_p0 : OKX9 f_p0) (fr_p0_40 : f_p0[40]? = some (.ref p0_eWhat)) (pf_pi : f_p0[48]? = some (.int pi)) (hp : 1 ≤ pi.toInt ∧ pi.toInt ≤ 119) (h8 : (b_p0_eWhat 0).toInt = 8) : Met l yX9_isCompared zw_r_isCompared ({ frames := 0, cells := 0, slots := 0, locals := 0 }) (va_Pc [.ref p0] (q_pre (dC, dI) (zW_r_isCompared p0 f_p0 p0_eWhat c_p0_eWhat b_p0_eWhat) (zT_r_isCompared c_p0_eWhat) q_E0 sz)) (q_Qi (dC, dI) (zG_r_isCompared p0 f_p0 p0_eWhat c_p0_eWhat b_p0_eWhat pi) (zA_r_isCompared p0 p0_eWhat) (va_A (zW_r_isCompared p0 f_p0 p0_eWhat c_p0_eWhat b_p0_eWhat) sz)) 0 0 (va_A (zW_r_isCompared p0 f_p0 p0_eWhat c_p0_eWhat b_p0_eWhat) sz) := by
  refine Met.ofW (cc := cX9_isCompared) (maxL := 2) (ret := (some .boolean)) (by decide) rfl ?_
  intro p e s m args below meth c s₁ B hml hv
  obtain ⟨rfl, hsz, hP, hK, hD0, hE⟩ := hv
  have hx := B.exec
  have hb := B.bytes
  have hr := B.returns
  have hts := atoms_spec (ws := zw_r_isCompared) B.pre
  have hown : s.vm.findClass RX9 = some m.cls := findClass_of_methodNamed B.named
  have hlocks := B.notSynchronized
  subst hsz
  have hD := hD0.self (sz := s.heap.size)
  generalize hAe : va_A (zW_r_isCompared p0 f_p0 p0_eWhat c_p0_eWhat b_p0_eWhat) s.heap.size = A at hD hE ⊢
  have hA : ∀ q : Nat, s.heap.size ≤ q → A q := fun q h => by rw [← hAe]; exact Or.inr h
  have hDa : q_DA A (zA_r_isCompared p0 p0_eWhat) := q_DA.mk hD za_r_isCompared
  clear hAe hD0 hD
  have hS : va_S A s.heap s.heap [] := va_S.rf
  have m_0 : (.fieldLink RX9 339 "BowWalkModel" "piled" "I" : Cond) ∈ zw_r_isCompared := List.mem_append_left _ (List.mem_of_getElem? (i := 1) rfl)
  have k_0 := hts _ m_0
  have m_1 : (.fieldLink RX9 110 "BowWalkModel" "eWhat" "[I" : Cond) ∈ zw_r_isCompared := List.mem_append_left _ (List.mem_of_getElem? (i := 2) rfl)
  have k_1 := hts _ m_1
  have i_X9 : ∀ w ∈ u_ws RX9 TX9 81, w ∈ zw_r_isCompared := fun w h => List.mem_append_right _ (List.mem_append_left _ h)
  have lt_m1 : ((-1) : Int32).toInt = -1 := by decide
  have lt_0 : (0 : Int32).toInt = 0 := by decide
  have lt_1 : (1 : Int32).toInt = 1 := by decide
  have lt_4 : (4 : Int32).toInt = 4 := by decide
  have lt_5 : (5 : Int32).toInt = 5 := by decide
  have lt_6 : (6 : Int32).toInt = 6 := by decide
  have hl := lv_entry ([.ref p0]) (n := 2) (Nat.le_of_ble_eq_true rfl)
  rw [lg_entry_eq]
  generalize (lg_sl ([.ref p0]) ++ List.replicate (2 - (lg_sl ([.ref p0])).length) Slot.unset).toArray = ls at hl ⊢
  have hl : lv_has ls 2 [(0, .ref p0)] := hl
  have tpi := q_rng pi
  refine lv_aload_n hx hb dX9_isCompared_0 rfl (lv_at hl 0 rfl) (qg_X9_48 hx hb hts i_X9 hown hK hP 0 rfl k_0 pf_pi dX9_isCompared_1 (lv_iconst (v := 1) hx hb dX9_isCompared_4 (by decide) (lv_isub hx hb dX9_isCompared_5 (lv_topi fun v_1 ev_1 => lv_istore_n (lv' := [(1, .int v_1), (0, .ref p0)]) hx hb dX9_isCompared_6 rfl hl (by decide) rfl (fun ls hl => ?_)))))
  have key7 : ∀ (fu7 : Nat) (k : Int32) (H : Heap) (locs : List Loc) (ls : Array Slot) (hfu7 : k.toInt ≤ (fu7 : Int)) (tk : (0) ≤ k.toInt ∧ k.toInt ≤ 118), va_P (dC, dI) vwCl (zW_r_isCompared p0 f_p0 p0_eWhat c_p0_eWhat b_p0_eWhat) H → va_S A s.heap H locs → lv_has ls 2 [(1, .int k), (0, .ref p0)] → W p l e (headSpec zw_r_isCompared { frames := 0, cells := 0, slots := 0, locals := 0 }).room s m ([.ref p0] : List Value).toArray below meth c H locs 0 0 (MQ below (q_Qi (dC, dI) (zG_r_isCompared p0 f_p0 p0_eWhat c_p0_eWhat b_p0_eWhat pi) (zA_r_isCompared p0 p0_eWhat) A) ([.ref p0] : List Value).toArray s 0 0 A) (F0 m 7 ls []) := by
    intro fu7
    induction fu7 using Nat.strongRecOn with
    | ind fu7 ih7 =>
      intro k H2 lo2 ls hfu7 tk hP2 hS2 hl
      refine lv_aload_n hx hb dX9_isCompared_7 rfl (lv_at hl 1 rfl) (qg_X9_40 hx hb hts i_X9 hown hK hP2 0 rfl k_1 fr_p0_40 dX9_isCompared_8 (lv_iload_n hx hb dX9_isCompared_11 rfl (lv_at hl 0 rfl) (q_ild hx hb hK hP2 1 0 rfl rfl (q_in (by omega) (by omega)) dX9_isCompared_12 (fun v_3 ev_3 => ?_))))
      have zv_3 := q_e0 h8 ev_3 (by omega)
      refine lv_iconst (v := 5) hx hb dX9_isCompared_13 (by decide) ?_
      refine lv_icmp_eq (tgt := 28) hx hb dX9_isCompared_14 (by decide) (fun c_4 => ?_) (fun c_4 => ?_)
      · have tc_4 := q_eq c_4
        obtain ⟨v_5, ev_5⟩ : ∃ y : Int32, y = k + (-1) := ⟨_, rfl⟩
        have tv_5 := q_add ev_5 (by omega) (by omega)
        refine lv_iinc (v := v_5) (lv' := [(1, .int v_5), (0, .ref p0)]) hx hb dX9_isCompared_28 hl (k := 0) rfl (by rw [ev_5]; rfl) (by decide) rfl (fun ls hl => ?_)
        refine lv_goto (tgt := 7) hx hb dX9_isCompared_31 (by decide) ?_
        exact ih7 (fu7 - 1) (by omega) v_5 _ _ _ (by omega) (by omega) hP2 hS2 (lv_sub hl [0, 1] rfl)
      · have tc_4 := q_neN c_4
        refine lv_aload_n hx hb dX9_isCompared_17 rfl (lv_at hl 1 rfl) (qg_X9_40 hx hb hts i_X9 hown hK hP2 0 rfl k_1 fr_p0_40 dX9_isCompared_18 (lv_iload_n hx hb dX9_isCompared_21 rfl (lv_at hl 0 rfl) (q_ild hx hb hK hP2 1 0 rfl rfl (q_in (by omega) (by omega)) dX9_isCompared_22 (fun v_6 ev_6 => ?_))))
        have zv_6 := q_e0 h8 ev_6 (by omega)
        refine lv_bipush (v := 6) hx hb dX9_isCompared_23 (by decide) ?_
        refine lv_icmp_ne (tgt := 34) hx hb dX9_isCompared_25 (by decide) (fun c_7 => ?_) (fun c_7 => ?_)
        · have tc_7 := q_ne c_7
          refine lv_aload_n hx hb dX9_isCompared_34 rfl (lv_at hl 1 rfl) (qg_X9_40 hx hb hts i_X9 hown hK hP2 0 rfl k_1 fr_p0_40 dX9_isCompared_35 (lv_iload_n hx hb dX9_isCompared_38 rfl (lv_at hl 0 rfl) (q_ild hx hb hK hP2 1 0 rfl rfl (q_in (by omega) (by omega)) dX9_isCompared_39 (fun v_8 ev_8 => ?_))))
          have zv_8 := q_e0 h8 ev_8 (by omega)
          refine lv_iconst (v := 4) hx hb dX9_isCompared_40 (by decide) ?_
          refine lv_icmp_ne (tgt := 48) hx hb dX9_isCompared_41 (by decide) (fun c_9 => ?_) (fun c_9 => ?_)
          · have tc_9 := q_ne c_9
            refine lv_iconst (v := 0) hx hb dX9_isCompared_48 (by decide) ?_
            exact q_zret hx hb hr hlocks (by decide) hS2 dX9_isCompared_49 ⟨(Or.inr ⟨rfl, by first | trivial | omega⟩), hP2, za_r_isCompared⟩
          · have tc_9 := q_eqN c_9
            refine lv_iconst (v := 1) hx hb dX9_isCompared_44 (by decide) (lv_goto (tgt := 49) hx hb dX9_isCompared_45 (by decide) ?_)
            exact q_zret hx hb hr hlocks (by decide) hS2 dX9_isCompared_49 ⟨(Or.inl ⟨rfl, by first | trivial | omega⟩), hP2, za_r_isCompared⟩
        · have tc_7 := q_eqN c_7
          obtain ⟨v_10, ev_10⟩ : ∃ y : Int32, y = k + (-1) := ⟨_, rfl⟩
          have tv_10 := q_add ev_10 (by omega) (by omega)
          refine lv_iinc (v := v_10) (lv' := [(1, .int v_10), (0, .ref p0)]) hx hb dX9_isCompared_28 hl (k := 0) rfl (by rw [ev_10]; rfl) (by decide) rfl (fun ls hl => ?_)
          refine lv_goto (tgt := 7) hx hb dX9_isCompared_31 (by decide) ?_
          exact ih7 (fu7 - 1) (by omega) v_10 _ _ _ (by omega) (by omega) hP2 hS2 (lv_sub hl [0, 1] rfl)
  exact key7 119 v_1 _ _ _ (by omega) (by omega) hP hS (lv_sub hl [0, 1] rfl)
def zo_r_unit : List Cond := [.code yX9_unit cX9_unit 6 (some .boolean), .methodLink RX9 354 yX9_wordHere, .instanceMethod yX9_wordHere, .selects RX9 yX9_wordHere yX9_wordHere, .initialized RX9, .methodLink RX9 258 yX9_isGood, .instanceMethod yX9_isGood, .selects RX9 yX9_isGood yX9_isGood, .fieldLink RX9 285 "BowWalkModel" "units" "I", .methodLink RX9 262 yX9_goOn, .instanceMethod yX9_goOn, .selects RX9 yX9_goOn yX9_goOn, .methodLink RX9 345 yX9_pushE, .instanceMethod yX9_pushE, .selects RX9 yX9_pushE yX9_pushE, .fieldLink RX9 342 "BowWalkModel" "within" "I", .methodLink RX9 358 yX9_emit, .instanceMethod yX9_emit, .selects RX9 yX9_emit yX9_emit, .fieldLink RX9 248 "BowWalkModel" "number" "I", .methodLink RX9 265 yX9_misplaced, .instanceMethod yX9_misplaced, .selects RX9 yX9_misplaced yX9_misplaced, .fieldLink RX9 230 "BowWalkModel" "token" "I", .methodLink RX9 322 yX9_is, .instanceMethod yX9_is, .selects RX9 yX9_is yX9_is, .constantLong RX9 210 (7237492), .methodLink RX9 268 yX9_isWord, .instanceMethod yX9_isWord, .selects RX9 yX9_isWord yX9_isWord, .fieldLink RX9 110 "BowWalkModel" "eWhat" "[I", .fieldLink RX9 339 "BowWalkModel" "piled" "I"]
def zw_r_unit : List Cond := zo_r_unit ++ (zw_r_wordHere ++ (zw_r_isGood ++ (zw_r_goOn ++ (zw_r_pushE ++ (zw_r_emit ++ (zw_r_misplaced ++ (zw_r_is ++ (zw_r_isWord ++ (wsX90 ++ [])))))))))
theorem gz_r_unit : zw_r_unit.all goodWord = true := p1_ga (by decide +kernel) (p1_ga gz_r_wordHere (p1_ga gz_r_isGood (p1_ga gz_r_goOn (p1_ga gz_r_pushE (p1_ga gz_r_emit (p1_ga gz_r_misplaced (p1_ga gz_r_is (p1_ga gz_r_isWord (p1_ga gk_X9 p1_g0)))))))))
theorem iz_r_unit : ∀ w ∈ zw_r_unit, w ∈ lw_tbl := p1_ia (p1_all [1398, 1403, 1405, 65, 116, 1327, 1329, 46, 1083, 1285, 1287, 44, 1391, 1393, 62, 1084, 1407, 1409, 66, 1046, 1343, 1345, 50, 1045, 1399, 1401, 64, 1316, 1339, 1341, 49, 1077, 1085] (by decide +kernel)) (p1_ia iz_r_wordHere (p1_ia iz_r_isGood (p1_ia iz_r_goOn (p1_ia iz_r_pushE (p1_ia iz_r_emit (p1_ia iz_r_misplaced (p1_ia iz_r_is (p1_ia iz_r_isWord (p1_ia ik_X9 p1_i0)))))))))
def zW_r_unit (p0 : Nat) (f_p0 : List Value) (p0_code : Nat) (c_p0_code : ClassId) (b_p0_code : Nat → Int32) (p0_codeNumber : Nat) (c_p0_codeNumber : ClassId) (b_p0_codeNumber : Nat → Int32) (p0_eSign : Nat) (c_p0_eSign : ClassId) (b_p0_eSign : Nat → Int32) (p0_eWhat : Nat) (c_p0_eWhat : ClassId) (b_p0_eWhat : Nat → Int32) (p0_text : Nat) (c_p0_text : ClassId) (b_p0_text : Nat → Int32) : va_W := [(p0, .inr (8, f_p0)), (p0_code, .inl (c_p0_code, 1800, .inl b_p0_code)), (p0_codeNumber, .inl (c_p0_codeNumber, 1800, .inl b_p0_codeNumber)), (p0_eSign, .inl (c_p0_eSign, 120, .inl b_p0_eSign)), (p0_eWhat, .inl (c_p0_eWhat, 120, .inl b_p0_eWhat)), (p0_text, .inl (c_p0_text, 1600, .inl b_p0_text))]
def zT_r_unit (c_p0_code : ClassId) (c_p0_codeNumber : ClassId) (c_p0_eSign : ClassId) (c_p0_eWhat : ClassId) (c_p0_text : ClassId) : List (ClassId × FieldType) := [(c_p0_code, .int), (c_p0_codeNumber, .int), (c_p0_eSign, .int), (c_p0_eWhat, .int), (c_p0_text, .byte)]
def zA_r_unit (p0 : Nat) (p0_code : Nat) (p0_codeNumber : Nat) (p0_eSign : Nat) (p0_eWhat : Nat) (p0_text : Nat) : List Nat := [p0, p0_code, p0_codeNumber, p0_eSign, p0_eWhat, p0_text]
theorem za_r_unit {p0 : Nat} {f_p0 : List Value} {p0_code : Nat} {c_p0_code : ClassId} {b_p0_code : Nat → Int32} {p0_codeNumber : Nat} {c_p0_codeNumber : ClassId} {b_p0_codeNumber : Nat → Int32} {p0_eSign : Nat} {c_p0_eSign : ClassId} {b_p0_eSign : Nat → Int32} {p0_eWhat : Nat} {c_p0_eWhat : ClassId} {b_p0_eWhat : Nat → Int32} {p0_text : Nat} {c_p0_text : ClassId} {b_p0_text : Nat → Int32} : (zW_r_unit p0 f_p0 p0_code c_p0_code b_p0_code p0_codeNumber c_p0_codeNumber b_p0_codeNumber p0_eSign c_p0_eSign b_p0_eSign p0_eWhat c_p0_eWhat b_p0_eWhat p0_text c_p0_text b_p0_text).map Prod.fst = (zA_r_unit p0 p0_code p0_codeNumber p0_eSign p0_eWhat p0_text) := rfl
def zG_r_unit (p0 : Nat) (f_p0 : List Value) (p0_code : Nat) (c_p0_code : ClassId) (b_p0_code : Nat → Int32) (p0_codeNumber : Nat) (c_p0_codeNumber : ClassId) (b_p0_codeNumber : Nat → Int32) (p0_eSign : Nat) (c_p0_eSign : ClassId) (b_p0_eSign : Nat → Int32) (p0_eWhat : Nat) (c_p0_eWhat : ClassId) (b_p0_eWhat : Nat → Int32) (p0_text : Nat) (c_p0_text : ClassId) (b_p0_text : Nat → Int32) (at0 : Int32) (en : Int32) (tk : Int32) (sz : Int32) (fk : Int32) (co : Int32) (un : Int32) (wi : Int32) (pi : Int32) (rb : Int32) (lo9 : Int) (r : Int32) (X : va_W → Prop) : Prop := ∃ (y_p0 : List Value) (y_p0_code : Nat → Int32) (y_p0_codeNumber : Nat → Int32) (y_p0_eSign : Nat → Int32) (y_p0_eWhat : Nat → Int32) (at1 : Int32) (en1 : Int32) (tk1 : Int32) (fk1 : Int32) (co1 : Int32) (un1 : Int32) (wi1 : Int32) (pi1 : Int32), ((r = 1 ∧ (1 ≤ fk1.toInt ∨ (1 ≤ pi1.toInt ∧ q_EI 0 pi1.toInt.toNat rb.toInt co1.toInt un1.toInt wi1.toInt lo9 y_p0_eWhat y_p0_eSign y_p0_code ∧ (un1.toInt = un.toInt + 1 ∨ (un1.toInt = un.toInt ∧ wi1.toInt = wi.toInt + 1))))) ∨ (r = 0 ∧ (q_EI 1 pi1.toInt.toNat rb.toInt co1.toInt un1.toInt wi1.toInt lo9 y_p0_eWhat y_p0_eSign y_p0_code ∧ un1.toInt = un.toInt + 1 ∧ 1 ≤ pi1.toInt))) ∧ OKX9 y_p0 ∧ q_fr [4, 5, 6, 7, 8, 9, 10, 45, 46, 47, 48] f_p0 y_p0 ∧ y_p0[6]? = some (.int at1) ∧ y_p0[7]? = some (.int en1) ∧ y_p0[8]? = some (.int tk1) ∧ y_p0[4]? = some (.int fk1) ∧ y_p0[45]? = some (.int co1) ∧ y_p0[46]? = some (.int un1) ∧ y_p0[47]? = some (.int wi1) ∧ y_p0[48]? = some (.int pi1) ∧ (en1.toInt ≤ sz.toInt ∧ at0.toInt ≤ at1.toInt ∧ at1.toInt ≤ en1.toInt ∧ (tk1.toInt ≠ 3 ∨ at1.toInt < en1.toInt)) ∧ (fk.toInt = 0 ∨ 1 ≤ fk1.toInt) ∧ (900 * rb.toInt ≤ co1.toInt ∧ co1.toInt ≤ 900 * rb.toInt + 900 ∧ 0 ≤ un1.toInt ∧ un1.toInt ≤ 60) ∧ (q_offc lo9 rb b_p0_code y_p0_code) ∧ (0 ≤ wi1.toInt ∧ wi1.toInt ≤ 7 ∧ 0 ≤ pi1.toInt ∧ pi1.toInt ≤ 69) ∧ (1 ≤ fk1.toInt ∨ un1.toInt = un.toInt + 1 ∨ (un1.toInt = un.toInt ∧ wi1.toInt = wi.toInt + 1)) ∧ X (zW_r_unit p0 y_p0 p0_code c_p0_code y_p0_code p0_codeNumber c_p0_codeNumber y_p0_codeNumber p0_eSign c_p0_eSign y_p0_eSign p0_eWhat c_p0_eWhat y_p0_eWhat p0_text c_p0_text b_p0_text)
theorem zm_r_unit {p0 : Nat} {f_p0 : List Value} {p0_code : Nat} {c_p0_code : ClassId} {b_p0_code : Nat → Int32} {p0_codeNumber : Nat} {c_p0_codeNumber : ClassId} {b_p0_codeNumber : Nat → Int32} {p0_eSign : Nat} {c_p0_eSign : ClassId} {b_p0_eSign : Nat → Int32} {p0_eWhat : Nat} {c_p0_eWhat : ClassId} {b_p0_eWhat : Nat → Int32} {p0_text : Nat} {c_p0_text : ClassId} {b_p0_text : Nat → Int32} {at0 : Int32} {en : Int32} {tk : Int32} {sz : Int32} {fk : Int32} {co : Int32} {un : Int32} {wi : Int32} {pi : Int32} {rb : Int32} {lo9 : Int} : ∀ (r : Int32), ∀ X Y : va_W → Prop, (∀ w, X w → Y w) → zG_r_unit p0 f_p0 p0_code c_p0_code b_p0_code p0_codeNumber c_p0_codeNumber b_p0_codeNumber p0_eSign c_p0_eSign b_p0_eSign p0_eWhat c_p0_eWhat b_p0_eWhat p0_text c_p0_text b_p0_text at0 en tk sz fk co un wi pi rb lo9 r X → zG_r_unit p0 f_p0 p0_code c_p0_code b_p0_code p0_codeNumber c_p0_codeNumber b_p0_codeNumber p0_eSign c_p0_eSign b_p0_eSign p0_eWhat c_p0_eWhat b_p0_eWhat p0_text c_p0_text b_p0_text at0 en tk sz fk co un wi pi rb lo9 r Y := fun r X Y h h1 => by obtain ⟨x0, x1, x2, x3, x4, x5, x6, x7, x8, x9, x10, x11, x12, x13, x14, x15, x16, x17, x18, x19, x20, x21, x22, x23, x24, x25, x26, x27, x28, x29, hx⟩ := h1; exact ⟨x0, x1, x2, x3, x4, x5, x6, x7, x8, x9, x10, x11, x12, x13, x14, x15, x16, x17, x18, x19, x20, x21, x22, x23, x24, x25, x26, x27, x28, x29, h _ hx⟩
set_option maxHeartbeats 4000000 in
set_option maxRecDepth 100000 in
theorem r_unit (l : Launch) (dC : Nat → ClassId) (dI : Nat → Nat → Nat) (sz : Nat) (p0 : Nat) (f_p0 : List Value) (p0_code : Nat) (c_p0_code : ClassId) (b_p0_code : Nat → Int32) (p0_codeNumber : Nat) (c_p0_codeNumber : ClassId) (b_p0_codeNumber : Nat → Int32) (p0_eSign : Nat) (c_p0_eSign : ClassId) (b_p0_eSign : Nat → Int32) (p0_eWhat : Nat) (c_p0_eWhat : ClassId) (b_p0_eWhat : Nat → Int32) (p0_text : Nat) (c_p0_text : ClassId) (b_p0_text : Nat → Int32) (at0 : Int32) (en : Int32) (tk : Int32) (sz : Int32) (fk : Int32) (co : Int32) (un : Int32) (wi : Int32) (pi : Int32) (rb : Int32) (lo9 : Int) (ho_p0 : OKX9 f_p0) (fr_p0_1 : f_p0[1]? = some (.ref p0_text)) (fr_p0_38 : f_p0[38]? = some (.ref p0_code)) (fr_p0_39 : f_p0[39]? = some (.ref p0_codeNumber)) (fr_p0_40 : f_p0[40]? = some (.ref p0_eWhat)) (fr_p0_41 : f_p0[41]? = some (.ref p0_eSign)) (pf_at0 : f_p0[6]? = some (.int at0)) (pf_en : f_p0[7]? = some (.int en)) (pf_tk : f_p0[8]? = some (.int tk)) (pf_sz : f_p0[3]? = some (.int sz)) (pf_fk : f_p0[4]? = some (.int fk)) (pf_co : f_p0[45]? = some (.int co)) (pf_un : f_p0[46]? = some (.int un)) (pf_wi : f_p0[47]? = some (.int wi)) (pf_pi : f_p0[48]? = some (.int pi)) (pf_rb : f_p0[44]? = some (.int rb)) (hR : en.toInt ≤ sz.toInt ∧ at0.toInt ≤ en.toInt ∧ (tk.toInt ≠ 3 ∨ at0.toInt < en.toInt)) (hpi : 1 ≤ pi.toInt) (hEI : q_EI 0 pi.toInt.toNat rb.toInt co.toInt un.toInt wi.toInt lo9 b_p0_eWhat b_p0_eSign b_p0_code) : Met l yX9_unit zw_r_unit ({ frames := 2, cells := 0, slots := 0, locals := 44 }) (va_Pc [.ref p0] (q_pre (dC, dI) (zW_r_unit p0 f_p0 p0_code c_p0_code b_p0_code p0_codeNumber c_p0_codeNumber b_p0_codeNumber p0_eSign c_p0_eSign b_p0_eSign p0_eWhat c_p0_eWhat b_p0_eWhat p0_text c_p0_text b_p0_text) (zT_r_unit c_p0_code c_p0_codeNumber c_p0_eSign c_p0_eWhat c_p0_text) q_E0 sz)) (q_Qi (dC, dI) (zG_r_unit p0 f_p0 p0_code c_p0_code b_p0_code p0_codeNumber c_p0_codeNumber b_p0_codeNumber p0_eSign c_p0_eSign b_p0_eSign p0_eWhat c_p0_eWhat b_p0_eWhat p0_text c_p0_text b_p0_text at0 en tk sz fk co un wi pi rb lo9) (zA_r_unit p0 p0_code p0_codeNumber p0_eSign p0_eWhat p0_text) (va_A (zW_r_unit p0 f_p0 p0_code c_p0_code b_p0_code p0_codeNumber c_p0_codeNumber b_p0_codeNumber p0_eSign c_p0_eSign b_p0_eSign p0_eWhat c_p0_eWhat b_p0_eWhat p0_text c_p0_text b_p0_text) sz)) 0 0 (va_A (zW_r_unit p0 f_p0 p0_code c_p0_code b_p0_code p0_codeNumber c_p0_codeNumber b_p0_codeNumber p0_eSign c_p0_eSign b_p0_eSign p0_eWhat c_p0_eWhat b_p0_eWhat p0_text c_p0_text b_p0_text) sz) := by
  refine Met.ofW (cc := cX9_unit) (maxL := 6) (ret := (some .boolean)) (by decide) rfl ?_
  intro p e s m args below meth c s₁ B hml hv
  obtain ⟨rfl, hsz, hP, hK, hD0, hE⟩ := hv
  have hx := B.exec
  have hb := B.bytes
  have hr := B.returns
  have hts := atoms_spec (ws := zw_r_unit) B.pre
  have hown : s.vm.findClass RX9 = some m.cls := findClass_of_methodNamed B.named
  have hlocks := B.notSynchronized
  subst hsz
  have hD := hD0.self (sz := s.heap.size)
  generalize hAe : va_A (zW_r_unit p0 f_p0 p0_code c_p0_code b_p0_code p0_codeNumber c_p0_codeNumber b_p0_codeNumber p0_eSign c_p0_eSign b_p0_eSign p0_eWhat c_p0_eWhat b_p0_eWhat p0_text c_p0_text b_p0_text) s.heap.size = A at hD hE ⊢
  have hA : ∀ q : Nat, s.heap.size ≤ q → A q := fun q h => by rw [← hAe]; exact Or.inr h
  have hDa : q_DA A (zA_r_unit p0 p0_code p0_codeNumber p0_eSign p0_eWhat p0_text) := q_DA.mk hD za_r_unit
  clear hAe hD0 hD
  have hS : va_S A s.heap s.heap [] := va_S.rf
  have m_0 : (.methodLink RX9 354 yX9_wordHere : Cond) ∈ zw_r_unit := List.mem_append_left _ (List.mem_of_getElem? (i := 1) rfl)
  have k_0 := hts _ m_0
  have m_1 : (.instanceMethod yX9_wordHere : Cond) ∈ zw_r_unit := List.mem_append_left _ (List.mem_of_getElem? (i := 2) rfl)
  have k_1 := hts _ m_1
  have m_2 : (.selects RX9 yX9_wordHere yX9_wordHere : Cond) ∈ zw_r_unit := List.mem_append_left _ (List.mem_of_getElem? (i := 3) rfl)
  have k_2 := hts _ m_2
  have m_3 : (.initialized RX9 : Cond) ∈ zw_r_unit := List.mem_append_left _ (List.mem_of_getElem? (i := 4) rfl)
  have k_3 := hts _ m_3
  have m_4 : (.methodLink RX9 258 yX9_isGood : Cond) ∈ zw_r_unit := List.mem_append_left _ (List.mem_of_getElem? (i := 5) rfl)
  have k_4 := hts _ m_4
  have m_5 : (.instanceMethod yX9_isGood : Cond) ∈ zw_r_unit := List.mem_append_left _ (List.mem_of_getElem? (i := 6) rfl)
  have k_5 := hts _ m_5
  have m_6 : (.selects RX9 yX9_isGood yX9_isGood : Cond) ∈ zw_r_unit := List.mem_append_left _ (List.mem_of_getElem? (i := 7) rfl)
  have k_6 := hts _ m_6
  have m_7 : (.fieldLink RX9 285 "BowWalkModel" "units" "I" : Cond) ∈ zw_r_unit := List.mem_append_left _ (List.mem_of_getElem? (i := 8) rfl)
  have k_7 := hts _ m_7
  have m_8 : (.methodLink RX9 262 yX9_goOn : Cond) ∈ zw_r_unit := List.mem_append_left _ (List.mem_of_getElem? (i := 9) rfl)
  have k_8 := hts _ m_8
  have m_9 : (.instanceMethod yX9_goOn : Cond) ∈ zw_r_unit := List.mem_append_left _ (List.mem_of_getElem? (i := 10) rfl)
  have k_9 := hts _ m_9
  have m_10 : (.selects RX9 yX9_goOn yX9_goOn : Cond) ∈ zw_r_unit := List.mem_append_left _ (List.mem_of_getElem? (i := 11) rfl)
  have k_10 := hts _ m_10
  have m_11 : (.methodLink RX9 345 yX9_pushE : Cond) ∈ zw_r_unit := List.mem_append_left _ (List.mem_of_getElem? (i := 12) rfl)
  have k_11 := hts _ m_11
  have m_12 : (.instanceMethod yX9_pushE : Cond) ∈ zw_r_unit := List.mem_append_left _ (List.mem_of_getElem? (i := 13) rfl)
  have k_12 := hts _ m_12
  have m_13 : (.selects RX9 yX9_pushE yX9_pushE : Cond) ∈ zw_r_unit := List.mem_append_left _ (List.mem_of_getElem? (i := 14) rfl)
  have k_13 := hts _ m_13
  have m_14 : (.fieldLink RX9 342 "BowWalkModel" "within" "I" : Cond) ∈ zw_r_unit := List.mem_append_left _ (List.mem_of_getElem? (i := 15) rfl)
  have k_14 := hts _ m_14
  have m_15 : (.methodLink RX9 358 yX9_emit : Cond) ∈ zw_r_unit := List.mem_append_left _ (List.mem_of_getElem? (i := 16) rfl)
  have k_15 := hts _ m_15
  have m_16 : (.instanceMethod yX9_emit : Cond) ∈ zw_r_unit := List.mem_append_left _ (List.mem_of_getElem? (i := 17) rfl)
  have k_16 := hts _ m_16
  have m_17 : (.selects RX9 yX9_emit yX9_emit : Cond) ∈ zw_r_unit := List.mem_append_left _ (List.mem_of_getElem? (i := 18) rfl)
  have k_17 := hts _ m_17
  have m_18 : (.fieldLink RX9 248 "BowWalkModel" "number" "I" : Cond) ∈ zw_r_unit := List.mem_append_left _ (List.mem_of_getElem? (i := 19) rfl)
  have k_18 := hts _ m_18
  have m_19 : (.methodLink RX9 265 yX9_misplaced : Cond) ∈ zw_r_unit := List.mem_append_left _ (List.mem_of_getElem? (i := 20) rfl)
  have k_19 := hts _ m_19
  have m_20 : (.instanceMethod yX9_misplaced : Cond) ∈ zw_r_unit := List.mem_append_left _ (List.mem_of_getElem? (i := 21) rfl)
  have k_20 := hts _ m_20
  have m_21 : (.selects RX9 yX9_misplaced yX9_misplaced : Cond) ∈ zw_r_unit := List.mem_append_left _ (List.mem_of_getElem? (i := 22) rfl)
  have k_21 := hts _ m_21
  have m_22 : (.fieldLink RX9 230 "BowWalkModel" "token" "I" : Cond) ∈ zw_r_unit := List.mem_append_left _ (List.mem_of_getElem? (i := 23) rfl)
  have k_22 := hts _ m_22
  have m_23 : (.methodLink RX9 322 yX9_is : Cond) ∈ zw_r_unit := List.mem_append_left _ (List.mem_of_getElem? (i := 24) rfl)
  have k_23 := hts _ m_23
  have m_24 : (.instanceMethod yX9_is : Cond) ∈ zw_r_unit := List.mem_append_left _ (List.mem_of_getElem? (i := 25) rfl)
  have k_24 := hts _ m_24
  have m_25 : (.selects RX9 yX9_is yX9_is : Cond) ∈ zw_r_unit := List.mem_append_left _ (List.mem_of_getElem? (i := 26) rfl)
  have k_25 := hts _ m_25
  have m_26 : (.constantLong RX9 210 (7237492) : Cond) ∈ zw_r_unit := List.mem_append_left _ (List.mem_of_getElem? (i := 27) rfl)
  have k_26 := hts _ m_26
  have m_27 : (.methodLink RX9 268 yX9_isWord : Cond) ∈ zw_r_unit := List.mem_append_left _ (List.mem_of_getElem? (i := 28) rfl)
  have k_27 := hts _ m_27
  have m_28 : (.instanceMethod yX9_isWord : Cond) ∈ zw_r_unit := List.mem_append_left _ (List.mem_of_getElem? (i := 29) rfl)
  have k_28 := hts _ m_28
  have m_29 : (.selects RX9 yX9_isWord yX9_isWord : Cond) ∈ zw_r_unit := List.mem_append_left _ (List.mem_of_getElem? (i := 30) rfl)
  have k_29 := hts _ m_29
  have m_30 : (.fieldLink RX9 110 "BowWalkModel" "eWhat" "[I" : Cond) ∈ zw_r_unit := List.mem_append_left _ (List.mem_of_getElem? (i := 31) rfl)
  have k_30 := hts _ m_30
  have m_31 : (.fieldLink RX9 339 "BowWalkModel" "piled" "I" : Cond) ∈ zw_r_unit := List.mem_append_left _ (List.mem_of_getElem? (i := 32) rfl)
  have k_31 := hts _ m_31
  have g_r_wordHere : ∀ w ∈ zw_r_wordHere, w ∈ zw_r_unit := fun w h => List.mem_append_right _ (List.mem_append_left _ h)
  have g_r_isGood : ∀ w ∈ zw_r_isGood, w ∈ zw_r_unit := fun w h => List.mem_append_right _ (List.mem_append_right _ (List.mem_append_left _ h))
  have g_r_goOn : ∀ w ∈ zw_r_goOn, w ∈ zw_r_unit := fun w h => List.mem_append_right _ (List.mem_append_right _ (List.mem_append_right _ (List.mem_append_left _ h)))
  have g_r_pushE : ∀ w ∈ zw_r_pushE, w ∈ zw_r_unit := fun w h => List.mem_append_right _ (List.mem_append_right _ (List.mem_append_right _ (List.mem_append_right _ (List.mem_append_left _ h))))
  have g_r_emit : ∀ w ∈ zw_r_emit, w ∈ zw_r_unit := fun w h => List.mem_append_right _ (List.mem_append_right _ (List.mem_append_right _ (List.mem_append_right _ (List.mem_append_right _ (List.mem_append_left _ h)))))
  have g_r_misplaced : ∀ w ∈ zw_r_misplaced, w ∈ zw_r_unit := fun w h => List.mem_append_right _ (List.mem_append_right _ (List.mem_append_right _ (List.mem_append_right _ (List.mem_append_right _ (List.mem_append_right _ (List.mem_append_left _ h))))))
  have g_r_is : ∀ w ∈ zw_r_is, w ∈ zw_r_unit := fun w h => List.mem_append_right _ (List.mem_append_right _ (List.mem_append_right _ (List.mem_append_right _ (List.mem_append_right _ (List.mem_append_right _ (List.mem_append_right _ (List.mem_append_left _ h)))))))
  have g_r_isWord : ∀ w ∈ zw_r_isWord, w ∈ zw_r_unit := fun w h => List.mem_append_right _ (List.mem_append_right _ (List.mem_append_right _ (List.mem_append_right _ (List.mem_append_right _ (List.mem_append_right _ (List.mem_append_right _ (List.mem_append_right _ (List.mem_append_left _ h))))))))
  have i_X9 : ∀ w ∈ u_ws RX9 TX9 81, w ∈ zw_r_unit := fun w h => List.mem_append_right _ (List.mem_append_right _ (List.mem_append_right _ (List.mem_append_right _ (List.mem_append_right _ (List.mem_append_right _ (List.mem_append_right _ (List.mem_append_right _ (List.mem_append_right _ (List.mem_append_left _ h)))))))))
  have lt_0 : (0 : Int32).toInt = 0 := by decide
  have lt_1 : (1 : Int32).toInt = 1 := by decide
  have lt_3 : (3 : Int32).toInt = 3 := by decide
  have lt_4 : (4 : Int32).toInt = 4 := by decide
  have lt_7 : (7 : Int32).toInt = 7 := by decide
  have lt_40 : (40 : Int32).toInt = 40 := by decide
  have lt_60 : (60 : Int32).toInt = 60 := by decide
  have lt_110 : (110 : Int32).toInt = 110 := by decide
  have lt_126 : (126 : Int32).toInt = 126 := by decide
  have hl := lv_entry ([.ref p0]) (n := 6) (Nat.le_of_ble_eq_true rfl)
  rw [lg_entry_eq]
  generalize (lg_sl ([.ref p0]) ++ List.replicate (6 - (lg_sl ([.ref p0])).length) Slot.unset).toArray = ls at hl ⊢
  have hl : lv_has ls 6 [(0, .ref p0)] := hl
  have tat0 := (OKX9_g6 ho_p0).use pf_at0
  have ten := (OKX9_g7 ho_p0).use pf_en
  have ttk := (OKX9_g8 ho_p0).use pf_tk
  have tsz := (OKX9_g3 ho_p0).use pf_sz
  have tfk := (OKX9_g4 ho_p0).use pf_fk
  have trb := (OKX9_g44 ho_p0).use pf_rb
  have hbd := hEI.bd
  have jn_2 : ∀ (j_1 : Int32) (H : Heap) (locs : List Loc) (ls : Array Slot) (tj_1 : (0) ≤ j_1.toInt ∧ j_1.toInt ≤ 1), va_P (dC, dI) vwCl (zW_r_unit p0 f_p0 p0_code c_p0_code b_p0_code p0_codeNumber c_p0_codeNumber b_p0_codeNumber p0_eSign c_p0_eSign b_p0_eSign p0_eWhat c_p0_eWhat b_p0_eWhat p0_text c_p0_text b_p0_text) H → va_S A s.heap H locs → lv_has ls 6 [(0, .ref p0)] → W p l e (headSpec zw_r_unit { frames := 2, cells := 0, slots := 0, locals := 44 }).room s m ([.ref p0] : List Value).toArray below meth c H locs 0 0 (MQ below (q_Qi (dC, dI) (zG_r_unit p0 f_p0 p0_code c_p0_code b_p0_code p0_codeNumber c_p0_codeNumber b_p0_codeNumber p0_eSign c_p0_eSign b_p0_eSign p0_eWhat c_p0_eWhat b_p0_eWhat p0_text c_p0_text b_p0_text at0 en tk sz fk co un wi pi rb lo9) (zA_r_unit p0 p0_code p0_codeNumber p0_eSign p0_eWhat p0_text) A) ([.ref p0] : List Value).toArray s 0 0 A) (F0 m 36 ls [.int j_1]) := by
    intro j_1 H3 lo3 ls tj_1 hP3 hS3 hl
    refine lv_istore_n (lv' := [(1, .int j_1), (0, .ref p0)]) hx hb dX9_unit_36 rfl hl (by decide) rfl (fun ls hl => ?_)
    have jn_5 : ∀ (j_4 : Int32) (H : Heap) (locs : List Loc) (ls : Array Slot) (tj_4 : (0) ≤ j_4.toInt ∧ j_4.toInt ≤ 1), va_P (dC, dI) vwCl (zW_r_unit p0 f_p0 p0_code c_p0_code b_p0_code p0_codeNumber c_p0_codeNumber b_p0_codeNumber p0_eSign c_p0_eSign b_p0_eSign p0_eWhat c_p0_eWhat b_p0_eWhat p0_text c_p0_text b_p0_text) H → va_S A s.heap H locs → lv_has ls 6 [(1, .int j_1), (0, .ref p0)] → W p l e (headSpec zw_r_unit { frames := 2, cells := 0, slots := 0, locals := 44 }).room s m ([.ref p0] : List Value).toArray below meth c H locs 0 0 (MQ below (q_Qi (dC, dI) (zG_r_unit p0 f_p0 p0_code c_p0_code b_p0_code p0_codeNumber c_p0_codeNumber b_p0_codeNumber p0_eSign c_p0_eSign b_p0_eSign p0_eWhat c_p0_eWhat b_p0_eWhat p0_text c_p0_text b_p0_text at0 en tk sz fk co un wi pi rb lo9) (zA_r_unit p0 p0_code p0_codeNumber p0_eSign p0_eWhat p0_text) A) ([.ref p0] : List Value).toArray s 0 0 A) (F0 m 56 ls [.int j_4]) := by
      intro j_4 H6 lo6 ls tj_4 hP6 hS6 hl
      refine lv_istore_n (lv' := [(2, .int j_4), (1, .int j_1), (0, .ref p0)]) hx hb dX9_unit_56 rfl hl (by decide) rfl (fun ls hl => ?_)
      have jn_8 : ∀ (j_7 : Int32) (H : Heap) (locs : List Loc) (ls : Array Slot) (tj_7 : (0) ≤ j_7.toInt ∧ j_7.toInt ≤ 1), va_P (dC, dI) vwCl (zW_r_unit p0 f_p0 p0_code c_p0_code b_p0_code p0_codeNumber c_p0_codeNumber b_p0_codeNumber p0_eSign c_p0_eSign b_p0_eSign p0_eWhat c_p0_eWhat b_p0_eWhat p0_text c_p0_text b_p0_text) H → va_S A s.heap H locs → lv_has ls 6 [(2, .int j_4), (1, .int j_1), (0, .ref p0)] → W p l e (headSpec zw_r_unit { frames := 2, cells := 0, slots := 0, locals := 44 }).room s m ([.ref p0] : List Value).toArray below meth c H locs 0 0 (MQ below (q_Qi (dC, dI) (zG_r_unit p0 f_p0 p0_code c_p0_code b_p0_code p0_codeNumber c_p0_codeNumber b_p0_codeNumber p0_eSign c_p0_eSign b_p0_eSign p0_eWhat c_p0_eWhat b_p0_eWhat p0_text c_p0_text b_p0_text at0 en tk sz fk co un wi pi rb lo9) (zA_r_unit p0 p0_code p0_codeNumber p0_eSign p0_eWhat p0_text) A) ([.ref p0] : List Value).toArray s 0 0 A) (F0 m 63 ls [.int j_7]) := by
        intro j_7 H9 lo9 ls tj_7 hP9 hS9 hl
        refine lv_istore_n (lv' := [(3, .int j_7), (2, .int j_4), (1, .int j_1), (0, .ref p0)]) hx hb dX9_unit_63 rfl hl (by decide) rfl (fun ls hl => ?_)
        refine lv_aload_n hx hb dX9_unit_64 rfl (lv_at hl 3 rfl) ?_
        refine q_cVi (As := []) (rest := []) q_w0 trivial hK hP9 hDa za_r_unit hS9 hA [0] [] (by decide +kernel) ⟨hx, hb, hml, hown, hts⟩ (r_wordHere l dC dI H9.size p0 f_p0 ho_p0) rfl rfl (cwV 0 hts (p1_gV m_0 m_1 m_2 m_3 g_r_wordHere gz_r_wordHere) rfl rfl rfl (by decide +kernel) ⟨by decide, by decide⟩) (va_recv hK hP9 (ci := 8) (q0 := 0) rfl rfl) zm_r_wordHere rfl hl.1 rfl (Nat.le_of_ble_eq_true rfl) dX9_unit_65 ⟨by decide, by decide⟩ (fun r_10 H11 lo11 hG11 hS11 => ?_)
        obtain ⟨z_12, hQ11⟩ := hG11
        have hP11 : va_P (dC, dI) vwCl (zW_r_unit p0 f_p0 p0_code c_p0_code b_p0_code p0_codeNumber c_p0_codeNumber b_p0_codeNumber p0_eSign c_p0_eSign b_p0_eSign p0_eWhat c_p0_eWhat b_p0_eWhat p0_text c_p0_text b_p0_text) H11 := hQ11
        clear hQ11 hP9 hS9
        refine lv_istore (lv' := [(4, .int r_10), (3, .int j_7), (2, .int j_4), (1, .int j_1), (0, .ref p0)]) hx hb dX9_unit_68 hl (by decide) rfl (fun ls hl => ?_)
        have jn_13 : ∀ (fz_p0 : List Value) (fkv : Int32) (H : Heap) (locs : List Loc) (ls : Array Slot) (ho_fz_p0 : OKX9 fz_p0) (hf_fz_p0 : q_fr [4, 5, 6, 7, 8, 9, 10, 45, 46, 47, 48] f_p0 fz_p0) (fr_fz_p0_1 : fz_p0[1]? = some (.ref p0_text)) (fh_fz_p0_3 : fz_p0[3]? = some (.int sz)) (fv_fz_p0_4 : fz_p0[4]? = some (.int fkv)) (tfkv : (0) ≤ fkv.toInt ∧ fkv.toInt ≤ 4) (fh_fz_p0_6 : fz_p0[6]? = some (.int at0)) (fh_fz_p0_7 : fz_p0[7]? = some (.int en)) (fh_fz_p0_8 : fz_p0[8]? = some (.int tk)) (fr_fz_p0_38 : fz_p0[38]? = some (.ref p0_code)) (fr_fz_p0_39 : fz_p0[39]? = some (.ref p0_codeNumber)) (fr_fz_p0_40 : fz_p0[40]? = some (.ref p0_eWhat)) (fr_fz_p0_41 : fz_p0[41]? = some (.ref p0_eSign)) (fh_fz_p0_44 : fz_p0[44]? = some (.int rb)) (fh_fz_p0_45 : fz_p0[45]? = some (.int co)) (fh_fz_p0_46 : fz_p0[46]? = some (.int un)) (fh_fz_p0_47 : fz_p0[47]? = some (.int wi)) (fh_fz_p0_48 : fz_p0[48]? = some (.int pi)) (hq0 : 1 ≤ fkv.toInt ∨ (fkv.toInt = fk.toInt ∧ (1 ≤ j_4.toInt ∨ un.toInt ≠ 60) ∧ ((j_4.toInt = 0 ∧ j_7.toInt = 0) ∨ wi.toInt ≠ 7))), va_P (dC, dI) vwCl (zW_r_unit p0 fz_p0 p0_code c_p0_code b_p0_code p0_codeNumber c_p0_codeNumber b_p0_codeNumber p0_eSign c_p0_eSign b_p0_eSign p0_eWhat c_p0_eWhat b_p0_eWhat p0_text c_p0_text b_p0_text) H → va_S A s.heap H locs → lv_has ls 6 [(4, .int r_10), (3, .int j_7), (2, .int j_4), (1, .int j_1), (0, .ref p0)] → W p l e (headSpec zw_r_unit { frames := 2, cells := 0, slots := 0, locals := 44 }).room s m ([.ref p0] : List Value).toArray below meth c H locs 0 0 (MQ below (q_Qi (dC, dI) (zG_r_unit p0 f_p0 p0_code c_p0_code b_p0_code p0_codeNumber c_p0_codeNumber b_p0_codeNumber p0_eSign c_p0_eSign b_p0_eSign p0_eWhat c_p0_eWhat b_p0_eWhat p0_text c_p0_text b_p0_text at0 en tk sz fk co un wi pi rb lo9) (zA_r_unit p0 p0_code p0_codeNumber p0_eSign p0_eWhat p0_text) A) ([.ref p0] : List Value).toArray s 0 0 A) (F0 m 121 ls []) := by
          intro fz_p0 fkv H14 lo14 ls ho_fz_p0 hf_fz_p0 fr_fz_p0_1 fh_fz_p0_3 fv_fz_p0_4 tfkv fh_fz_p0_6 fh_fz_p0_7 fh_fz_p0_8 fr_fz_p0_38 fr_fz_p0_39 fr_fz_p0_40 fr_fz_p0_41 fh_fz_p0_44 fh_fz_p0_45 fh_fz_p0_46 fh_fz_p0_47 fh_fz_p0_48 hq0 hP14 hS14 hl
          refine lv_aload_n hx hb dX9_unit_121 rfl (lv_at hl 4 rfl) ?_
          refine q_cVi (As := []) (rest := []) q_w0 trivial hK hP14 hDa za_r_unit hS14 hA [0] [] (by decide +kernel) ⟨hx, hb, hml, hown, hts⟩ (r_isGood l dC dI H14.size p0 fz_p0 fkv ho_fz_p0 fv_fz_p0_4) rfl rfl (cwV 0 hts (p1_gV m_4 m_5 m_6 m_3 g_r_isGood gz_r_isGood) rfl rfl rfl (by decide +kernel) ⟨by decide, by decide⟩) (va_recv hK hP14 (ci := 8) (q0 := 0) rfl rfl) zm_r_isGood rfl hl.1 rfl (Nat.le_of_ble_eq_true rfl) dX9_unit_122 ⟨by decide, by decide⟩ (fun r_15 H16 lo16 hG16 hS16 => ?_)
          obtain ⟨z_17, hQ16⟩ := hG16
          have hP16 : va_P (dC, dI) vwCl (zW_r_unit p0 fz_p0 p0_code c_p0_code b_p0_code p0_codeNumber c_p0_codeNumber b_p0_codeNumber p0_eSign c_p0_eSign b_p0_eSign p0_eWhat c_p0_eWhat b_p0_eWhat p0_text c_p0_text b_p0_text) H16 := hQ16
          clear hQ16 hP14 hS14
          rcases z_17 with ⟨rfl, z_17⟩ | ⟨rfl, z_17⟩
          · refine lv_if_ne (tgt := 130) hx hb dX9_unit_125 (by decide) (fun c_18 => ?_) (fun c_18 => absurd c_18 (by decide))
            refine lv_aload_n hx hb dX9_unit_130 rfl (lv_at hl 4 rfl) (lv_dup hx hb dX9_unit_131 rfl (qg_X9_46 hx hb hts i_X9 hown hK hP16 0 rfl k_7 fh_fz_p0_46 dX9_unit_132 (lv_iload_n hx hb dX9_unit_135 rfl (lv_at hl 2 rfl) ?_)))
            refine lv_if_eq (tgt := 143) hx hb dX9_unit_136 (by decide) (fun c_19 => ?_) (fun c_19 => ?_)
            · have tc_19 := q_eq c_19
              refine lv_iconst (v := 1) hx hb dX9_unit_143 (by decide) (lv_iadd hx hb dX9_unit_144 (lv_topi fun v_20 ev_20 => qp_X9_46 hx hb hts i_X9 hown hK hP16 hDa za_r_unit hS16 0 rfl k_7 (OKX9_l ho_fz_p0) dX9_unit_145 (fun H21 lo21 fs21 efs21 (hP21 : va_P (dC, dI) vwCl (zW_r_unit p0 fs21 p0_code c_p0_code b_p0_code p0_codeNumber c_p0_codeNumber b_p0_codeNumber p0_eSign c_p0_eSign b_p0_eSign p0_eWhat c_p0_eWhat b_p0_eWhat p0_text c_p0_text b_p0_text) H21) hS21 => ?_)))
              have ho21 := OKX9_p46 ho_fz_p0 efs21
              clear hP16 hS16
              refine lv_iload hx hb dX9_unit_148 (lv_at hl 0 rfl) ?_
              refine lv_if_ne (tgt := 160) hx hb dX9_unit_150 (by decide) (fun c_22 => ?_) (fun c_22 => ?_)
              · have tc_22 := q_ne c_22
                refine lv_iconst (v := 0) hx hb dX9_unit_160 (by decide) (lv_istore (lv' := [(5, .int 0), (4, .int r_10), (3, .int j_7), (2, .int j_4), (1, .int j_1), (0, .ref p0)]) hx hb dX9_unit_161 hl (by decide) rfl (fun ls hl => ?_))
                refine lv_aload_n hx hb dX9_unit_163 rfl (lv_at hl 5 rfl) ?_
                refine q_cVv (As := []) (rest := []) q_w0 trivial hK hP21 hDa za_r_unit hS21 hA [0, 5] [4] (by decide +kernel) ⟨hx, hb, hml, hown, hts⟩ (r_goOn l dC dI H21.size p0 fs21 p0_text c_p0_text b_p0_text at0 en tk sz ho21 ((q_sn efs21 (by decide) fr_fz_p0_1)) ((q_sn efs21 (by decide) fh_fz_p0_6)) ((q_sn efs21 (by decide) fh_fz_p0_7)) ((q_sn efs21 (by decide) fh_fz_p0_8)) ((q_sn efs21 (by decide) fh_fz_p0_3)) ((by omega))) rfl rfl (cwV 0 hts (p1_gV m_8 m_9 m_10 m_3 g_r_goOn gz_r_goOn) rfl rfl rfl (by decide +kernel) ⟨by decide, by decide⟩) (va_recv hK hP21 (ci := 8) (q0 := 0) rfl rfl) zm_r_goOn rfl hl.1 rfl (Nat.le_of_ble_eq_true rfl) dX9_unit_164 ⟨by decide, by decide⟩ (fun H24 lo24 hG24 hS24 => ?_)
                obtain ⟨o_25, o_26, o_27, o_28, ho_29, hf_30, z_31, z_32, z_33, z_34, hQ24⟩ := hG24
                have to_26 := (OKX9_g6 ho_29).use z_31
                have to_27 := (OKX9_g7 ho_29).use z_32
                have to_28 := (OKX9_g8 ho_29).use z_33
                have hP24 : va_P (dC, dI) vwCl (zW_r_unit p0 o_25 p0_code c_p0_code b_p0_code p0_codeNumber c_p0_codeNumber b_p0_codeNumber p0_eSign c_p0_eSign b_p0_eSign p0_eWhat c_p0_eWhat b_p0_eWhat p0_text c_p0_text b_p0_text) H24 := hQ24
                clear hQ24 hP21 hS21
                refine lv_iload_n hx hb dX9_unit_167 rfl (lv_at hl 3 rfl) ?_
                refine lv_if_ne (tgt := 175) hx hb dX9_unit_168 (by decide) (fun c_35 => ?_) (fun c_35 => ?_)
                · have tc_35 := q_ne c_35
                  refine lv_aload_n hx hb dX9_unit_175 rfl (lv_at hl 5 rfl) (lv_iload_n hx hb dX9_unit_176 rfl (lv_at hl 3 rfl) (lv_if_eq (tgt := 184) hx hb dX9_unit_177 (by decide) (fun c_36 => by exfalso; have t9 := q_eq c_36; omega) (fun c_36 => ?_)))
                  have tc_36 := q_neN c_36
                  refine lv_iconst (v := 3) hx hb dX9_unit_180 (by decide) (lv_goto (tgt := 186) hx hb dX9_unit_181 (by decide) (lv_bipush (v := 126) hx hb dX9_unit_186 (by decide) ?_))
                  refine q_cVv (As := [.int 3, .int 126]) (rest := []) q_w0 trivial hK hP24 hDa za_r_unit hS24 hA [0, 3, 4] [2, 3] (by decide +kernel) ⟨hx, hb, hml, hown, hts⟩ (r_pushE l dC dI H24.size p0 o_25 p0_eSign c_p0_eSign b_p0_eSign p0_eWhat c_p0_eWhat b_p0_eWhat 3 126 pi ho_29 ((hf_30.u (by decide) (q_sn efs21 (by decide) fr_fz_p0_40))) ((hf_30.u (by decide) (q_sn efs21 (by decide) fr_fz_p0_41))) ((hf_30.u (by decide) (q_sn efs21 (by decide) fh_fz_p0_48))) ((by omega))) rfl rfl (cwV 2 hts (p1_gV m_11 m_12 m_13 m_3 g_r_pushE gz_r_pushE) rfl rfl rfl (by decide +kernel) ⟨by decide, by decide⟩) (va_recv hK hP24 (ci := 8) (q0 := 0) rfl rfl) zm_r_pushE rfl hl.1 rfl (Nat.le_of_ble_eq_true rfl) dX9_unit_188 ⟨by decide, by decide⟩ (fun H38 lo38 hG38 hS38 => ?_)
                  obtain ⟨o_39, o_40, o_41, o_42, ho_43, hf_44, z_45, z_46, z_47, z_48, hQ38⟩ := hG38
                  have hP38 : va_P (dC, dI) vwCl (zW_r_unit p0 o_39 p0_code c_p0_code b_p0_code p0_codeNumber c_p0_codeNumber b_p0_codeNumber p0_eSign c_p0_eSign o_40 p0_eWhat c_p0_eWhat o_41 p0_text c_p0_text b_p0_text) H38 := hQ38
                  clear hQ38 hP24 hS24
                  refine lv_aload_n hx hb dX9_unit_191 rfl (lv_at hl 5 rfl) (lv_dup hx hb dX9_unit_192 rfl (qg_X9_47 hx hb hts i_X9 hown hK hP38 0 rfl k_14 (hf_44.u (by decide) (hf_30.u (by decide) (q_sn efs21 (by decide) fh_fz_p0_47))) dX9_unit_193 (lv_iconst (v := 1) hx hb dX9_unit_196 (by decide) (lv_iadd hx hb dX9_unit_197 (lv_topi fun v_49 ev_49 => qp_X9_47 hx hb hts i_X9 hown hK hP38 hDa za_r_unit hS38 0 rfl k_14 (OKX9_l ho_43) dX9_unit_198 (fun H50 lo50 fs50 efs50 (hP50 : va_P (dC, dI) vwCl (zW_r_unit p0 fs50 p0_code c_p0_code b_p0_code p0_codeNumber c_p0_codeNumber b_p0_codeNumber p0_eSign c_p0_eSign o_40 p0_eWhat c_p0_eWhat o_41 p0_text c_p0_text b_p0_text) H50) hS50 => ?_))))))
                  have ho50 := OKX9_p47 ho_43 efs50
                  clear hP38 hS38
                  refine lv_iconst (v := 1) hx hb dX9_unit_201 (by decide) ?_
                  exact q_zret hx hb hr hlocks (by decide) hS50 dX9_unit_202 ⟨fs50, b_p0_code, b_p0_codeNumber, o_40, o_41, o_26, o_27, o_28, fkv, co, v_20, v_49, o_42, (Or.inl ⟨rfl, Or.inr ⟨by omega, q_EI.cast (hEI.push (un' := v_20.toInt) z_47 z_48 (by unfold q_nb; omega) (by omega) (by omega) (by omega) (by omega)) (by omega) (by omega) (by omega) (by omega), by omega⟩⟩), ho50, ((((hf_fz_p0.st efs21 (by decide)).tr hf_30 (by decide)).tr hf_44 (by decide)).st efs50 (by decide)), (q_sn efs50 (by decide) (hf_44.u (by decide) z_31)), (q_sn efs50 (by decide) (hf_44.u (by decide) z_32)), (q_sn efs50 (by decide) (hf_44.u (by decide) z_33)), (q_sn efs50 (by decide) (hf_44.u (by decide) (hf_30.u (by decide) (q_sn efs21 (by decide) fv_fz_p0_4)))), (q_sn efs50 (by decide) (hf_44.u (by decide) (hf_30.u (by decide) (q_sn efs21 (by decide) fh_fz_p0_45)))), (q_sn efs50 (by decide) (hf_44.u (by decide) (hf_30.u (by decide) (q_sa efs21 (OKX9_l ho_fz_p0) (by decide))))), (q_sa efs50 (OKX9_l ho_43) (by decide)), (q_sn efs50 (by decide) z_45), (by omega), (by omega), (by omega), q_offc.rf, (by omega), (by omega), hP50, za_r_unit⟩
                · have tc_35 := q_eqN c_35
                  refine lv_iload_n hx hb dX9_unit_171 rfl (lv_at hl 2 rfl) ?_
                  refine lv_if_eq (tgt := 203) hx hb dX9_unit_172 (by decide) (fun c_51 => ?_) (fun c_51 => ?_)
                  · have tc_51 := q_eq c_51
                    refine lv_aload_n hx hb dX9_unit_203 rfl (lv_at hl 5 rfl) (lv_iload hx hb dX9_unit_204 (lv_at hl 1 rfl) (lv_if_ne (tgt := 214) hx hb dX9_unit_206 (by decide) (fun c_52 => ?_) (fun c_52 => by exfalso; have t9 := q_eqN c_52; omega)))
                    have tc_52 := q_ne c_52
                    refine lv_iload hx hb dX9_unit_214 (lv_at hl 1 rfl) (lv_iload hx hb dX9_unit_216 (lv_at hl 0 rfl) ?_)
                    refine q_cVv (As := [.int r_10, .int 0]) (rest := []) q_w0 trivial hK hP24 hDa za_r_unit hS24 hA [0, 1, 2] [0, 1] (by decide +kernel) ⟨hx, hb, hml, hown, hts⟩ (r_emit l dC dI H24.size p0 o_25 p0_code c_p0_code b_p0_code p0_codeNumber c_p0_codeNumber b_p0_codeNumber r_10 0 co ho_29 ((hf_30.u (by decide) (q_sn efs21 (by decide) fr_fz_p0_38))) ((hf_30.u (by decide) (q_sn efs21 (by decide) fr_fz_p0_39))) ((hf_30.u (by decide) (q_sn efs21 (by decide) fh_fz_p0_45))) ((by omega))) rfl rfl (cwV 2 hts (p1_gV m_15 m_16 m_17 m_3 g_r_emit gz_r_emit) rfl rfl rfl (by decide +kernel) ⟨by decide, by decide⟩) (va_recv hK hP24 (ci := 8) (q0 := 0) rfl rfl) zm_r_emit rfl hl.1 rfl (Nat.le_of_ble_eq_true rfl) dX9_unit_218 ⟨by decide, by decide⟩ (fun H54 lo54 hG54 hS54 => ?_)
                    obtain ⟨o_55, o_56, o_57, o_58, ho_59, hf_60, z_61, z_62, z_63, hQ54⟩ := hG54
                    have hP54 : va_P (dC, dI) vwCl (zW_r_unit p0 o_55 p0_code c_p0_code o_56 p0_codeNumber c_p0_codeNumber o_57 p0_eSign c_p0_eSign b_p0_eSign p0_eWhat c_p0_eWhat b_p0_eWhat p0_text c_p0_text b_p0_text) H54 := hQ54
                    clear hQ54 hP24 hS24
                    refine lv_iconst (v := 0) hx hb dX9_unit_221 (by decide) ?_
                    exact q_zret hx hb hr hlocks (by decide) hS54 dX9_unit_222 ⟨o_55, o_56, o_57, b_p0_eSign, b_p0_eWhat, o_26, o_27, o_28, fkv, o_58, v_20, wi, pi, (Or.inr ⟨rfl, q_EI.cast (hEI.unit z_63 ⟨by omega, by omega⟩ (by omega)) (by omega) (by omega) (by omega) (by omega), by omega, by omega⟩), ho_59, (((hf_fz_p0.st efs21 (by decide)).tr hf_30 (by decide)).tr hf_60 (by decide)), (hf_60.u (by decide) z_31), (hf_60.u (by decide) z_32), (hf_60.u (by decide) z_33), (hf_60.u (by decide) (hf_30.u (by decide) (q_sn efs21 (by decide) fv_fz_p0_4))), z_61, (hf_60.u (by decide) (hf_30.u (by decide) (q_sa efs21 (OKX9_l ho_fz_p0) (by decide)))), (hf_60.u (by decide) (hf_30.u (by decide) (q_sn efs21 (by decide) fh_fz_p0_47))), (hf_60.u (by decide) (hf_30.u (by decide) (q_sn efs21 (by decide) fh_fz_p0_48))), (by omega), (by omega), (by omega), (q_offc.rf.up z_63 (by omega) (by omega)), (by omega), (by omega), hP54, za_r_unit⟩
                  · have tc_51 := q_neN c_51
                    refine lv_aload_n hx hb dX9_unit_175 rfl (lv_at hl 5 rfl) (lv_iload_n hx hb dX9_unit_176 rfl (lv_at hl 3 rfl) ?_)
                    refine lv_if_eq (tgt := 184) hx hb dX9_unit_177 (by decide) (fun c_64 => ?_) (fun c_64 => ?_)
                    · have tc_64 := q_eq c_64
                      refine lv_bipush (v := 7) hx hb dX9_unit_184 (by decide) (lv_bipush (v := 126) hx hb dX9_unit_186 (by decide) ?_)
                      refine q_cVv (As := [.int 7, .int 126]) (rest := []) q_w0 trivial hK hP24 hDa za_r_unit hS24 hA [0, 3, 4] [2, 3] (by decide +kernel) ⟨hx, hb, hml, hown, hts⟩ (r_pushE l dC dI H24.size p0 o_25 p0_eSign c_p0_eSign b_p0_eSign p0_eWhat c_p0_eWhat b_p0_eWhat 7 126 pi ho_29 ((hf_30.u (by decide) (q_sn efs21 (by decide) fr_fz_p0_40))) ((hf_30.u (by decide) (q_sn efs21 (by decide) fr_fz_p0_41))) ((hf_30.u (by decide) (q_sn efs21 (by decide) fh_fz_p0_48))) ((by omega))) rfl rfl (cwV 2 hts (p1_gV m_11 m_12 m_13 m_3 g_r_pushE gz_r_pushE) rfl rfl rfl (by decide +kernel) ⟨by decide, by decide⟩) (va_recv hK hP24 (ci := 8) (q0 := 0) rfl rfl) zm_r_pushE rfl hl.1 rfl (Nat.le_of_ble_eq_true rfl) dX9_unit_188 ⟨by decide, by decide⟩ (fun H66 lo66 hG66 hS66 => ?_)
                      obtain ⟨o_67, o_68, o_69, o_70, ho_71, hf_72, z_73, z_74, z_75, z_76, hQ66⟩ := hG66
                      have hP66 : va_P (dC, dI) vwCl (zW_r_unit p0 o_67 p0_code c_p0_code b_p0_code p0_codeNumber c_p0_codeNumber b_p0_codeNumber p0_eSign c_p0_eSign o_68 p0_eWhat c_p0_eWhat o_69 p0_text c_p0_text b_p0_text) H66 := hQ66
                      clear hQ66 hP24 hS24
                      refine lv_aload_n hx hb dX9_unit_191 rfl (lv_at hl 5 rfl) (lv_dup hx hb dX9_unit_192 rfl (qg_X9_47 hx hb hts i_X9 hown hK hP66 0 rfl k_14 (hf_72.u (by decide) (hf_30.u (by decide) (q_sn efs21 (by decide) fh_fz_p0_47))) dX9_unit_193 (lv_iconst (v := 1) hx hb dX9_unit_196 (by decide) (lv_iadd hx hb dX9_unit_197 (lv_topi fun v_77 ev_77 => qp_X9_47 hx hb hts i_X9 hown hK hP66 hDa za_r_unit hS66 0 rfl k_14 (OKX9_l ho_71) dX9_unit_198 (fun H78 lo78 fs78 efs78 (hP78 : va_P (dC, dI) vwCl (zW_r_unit p0 fs78 p0_code c_p0_code b_p0_code p0_codeNumber c_p0_codeNumber b_p0_codeNumber p0_eSign c_p0_eSign o_68 p0_eWhat c_p0_eWhat o_69 p0_text c_p0_text b_p0_text) H78) hS78 => ?_))))))
                      have ho78 := OKX9_p47 ho_71 efs78
                      clear hP66 hS66
                      refine lv_iconst (v := 1) hx hb dX9_unit_201 (by decide) ?_
                      exact q_zret hx hb hr hlocks (by decide) hS78 dX9_unit_202 ⟨fs78, b_p0_code, b_p0_codeNumber, o_68, o_69, o_26, o_27, o_28, fkv, co, v_20, v_77, o_70, (Or.inl ⟨rfl, Or.inr ⟨by omega, q_EI.cast (hEI.push (un' := v_20.toInt) z_75 z_76 (by unfold q_nb; omega) (by omega) (by omega) (by omega) (by omega)) (by omega) (by omega) (by omega) (by omega), by omega⟩⟩), ho78, ((((hf_fz_p0.st efs21 (by decide)).tr hf_30 (by decide)).tr hf_72 (by decide)).st efs78 (by decide)), (q_sn efs78 (by decide) (hf_72.u (by decide) z_31)), (q_sn efs78 (by decide) (hf_72.u (by decide) z_32)), (q_sn efs78 (by decide) (hf_72.u (by decide) z_33)), (q_sn efs78 (by decide) (hf_72.u (by decide) (hf_30.u (by decide) (q_sn efs21 (by decide) fv_fz_p0_4)))), (q_sn efs78 (by decide) (hf_72.u (by decide) (hf_30.u (by decide) (q_sn efs21 (by decide) fh_fz_p0_45)))), (q_sn efs78 (by decide) (hf_72.u (by decide) (hf_30.u (by decide) (q_sa efs21 (OKX9_l ho_fz_p0) (by decide))))), (q_sa efs78 (OKX9_l ho_71) (by decide)), (q_sn efs78 (by decide) z_73), (by omega), (by omega), (by omega), q_offc.rf, (by omega), (by omega), hP78, za_r_unit⟩
                    · have tc_64 := q_neN c_64
                      refine lv_iconst (v := 3) hx hb dX9_unit_180 (by decide) (lv_goto (tgt := 186) hx hb dX9_unit_181 (by decide) (lv_bipush (v := 126) hx hb dX9_unit_186 (by decide) ?_))
                      refine q_cVv (As := [.int 3, .int 126]) (rest := []) q_w0 trivial hK hP24 hDa za_r_unit hS24 hA [0, 3, 4] [2, 3] (by decide +kernel) ⟨hx, hb, hml, hown, hts⟩ (r_pushE l dC dI H24.size p0 o_25 p0_eSign c_p0_eSign b_p0_eSign p0_eWhat c_p0_eWhat b_p0_eWhat 3 126 pi ho_29 ((hf_30.u (by decide) (q_sn efs21 (by decide) fr_fz_p0_40))) ((hf_30.u (by decide) (q_sn efs21 (by decide) fr_fz_p0_41))) ((hf_30.u (by decide) (q_sn efs21 (by decide) fh_fz_p0_48))) ((by omega))) rfl rfl (cwV 2 hts (p1_gV m_11 m_12 m_13 m_3 g_r_pushE gz_r_pushE) rfl rfl rfl (by decide +kernel) ⟨by decide, by decide⟩) (va_recv hK hP24 (ci := 8) (q0 := 0) rfl rfl) zm_r_pushE rfl hl.1 rfl (Nat.le_of_ble_eq_true rfl) dX9_unit_188 ⟨by decide, by decide⟩ (fun H80 lo80 hG80 hS80 => ?_)
                      obtain ⟨o_81, o_82, o_83, o_84, ho_85, hf_86, z_87, z_88, z_89, z_90, hQ80⟩ := hG80
                      have hP80 : va_P (dC, dI) vwCl (zW_r_unit p0 o_81 p0_code c_p0_code b_p0_code p0_codeNumber c_p0_codeNumber b_p0_codeNumber p0_eSign c_p0_eSign o_82 p0_eWhat c_p0_eWhat o_83 p0_text c_p0_text b_p0_text) H80 := hQ80
                      clear hQ80 hP24 hS24
                      refine lv_aload_n hx hb dX9_unit_191 rfl (lv_at hl 5 rfl) (lv_dup hx hb dX9_unit_192 rfl (qg_X9_47 hx hb hts i_X9 hown hK hP80 0 rfl k_14 (hf_86.u (by decide) (hf_30.u (by decide) (q_sn efs21 (by decide) fh_fz_p0_47))) dX9_unit_193 (lv_iconst (v := 1) hx hb dX9_unit_196 (by decide) (lv_iadd hx hb dX9_unit_197 (lv_topi fun v_91 ev_91 => qp_X9_47 hx hb hts i_X9 hown hK hP80 hDa za_r_unit hS80 0 rfl k_14 (OKX9_l ho_85) dX9_unit_198 (fun H92 lo92 fs92 efs92 (hP92 : va_P (dC, dI) vwCl (zW_r_unit p0 fs92 p0_code c_p0_code b_p0_code p0_codeNumber c_p0_codeNumber b_p0_codeNumber p0_eSign c_p0_eSign o_82 p0_eWhat c_p0_eWhat o_83 p0_text c_p0_text b_p0_text) H92) hS92 => ?_))))))
                      have ho92 := OKX9_p47 ho_85 efs92
                      clear hP80 hS80
                      refine lv_iconst (v := 1) hx hb dX9_unit_201 (by decide) ?_
                      exact q_zret hx hb hr hlocks (by decide) hS92 dX9_unit_202 ⟨fs92, b_p0_code, b_p0_codeNumber, o_82, o_83, o_26, o_27, o_28, fkv, co, v_20, v_91, o_84, (Or.inl ⟨rfl, Or.inr ⟨by omega, q_EI.cast (hEI.push (un' := v_20.toInt) z_89 z_90 (by unfold q_nb; omega) (by omega) (by omega) (by omega) (by omega)) (by omega) (by omega) (by omega) (by omega), by omega⟩⟩), ho92, ((((hf_fz_p0.st efs21 (by decide)).tr hf_30 (by decide)).tr hf_86 (by decide)).st efs92 (by decide)), (q_sn efs92 (by decide) (hf_86.u (by decide) z_31)), (q_sn efs92 (by decide) (hf_86.u (by decide) z_32)), (q_sn efs92 (by decide) (hf_86.u (by decide) z_33)), (q_sn efs92 (by decide) (hf_86.u (by decide) (hf_30.u (by decide) (q_sn efs21 (by decide) fv_fz_p0_4)))), (q_sn efs92 (by decide) (hf_86.u (by decide) (hf_30.u (by decide) (q_sn efs21 (by decide) fh_fz_p0_45)))), (q_sn efs92 (by decide) (hf_86.u (by decide) (hf_30.u (by decide) (q_sa efs21 (OKX9_l ho_fz_p0) (by decide))))), (q_sa efs92 (OKX9_l ho_85) (by decide)), (q_sn efs92 (by decide) z_87), (by omega), (by omega), (by omega), q_offc.rf, (by omega), (by omega), hP92, za_r_unit⟩
              · have tc_22 := q_eqN c_22
                refine lv_aload_n hx hb dX9_unit_153 rfl (lv_at hl 4 rfl) ?_
                obtain ⟨v_93, fv_93⟩ := OKX9_g9 ho21
                refine qg_X9_9 hx hb hts i_X9 hown hK hP21 0 rfl k_18 fv_93 dX9_unit_154 (lv_goto (tgt := 161) hx hb dX9_unit_157 (by decide) (lv_istore (lv' := [(5, .int v_93), (4, .int r_10), (3, .int j_7), (2, .int j_4), (1, .int j_1), (0, .ref p0)]) hx hb dX9_unit_161 hl (by decide) rfl (fun ls hl => ?_)))
                refine lv_aload_n hx hb dX9_unit_163 rfl (lv_at hl 5 rfl) ?_
                refine q_cVv (As := []) (rest := []) q_w0 trivial hK hP21 hDa za_r_unit hS21 hA [0, 5] [4] (by decide +kernel) ⟨hx, hb, hml, hown, hts⟩ (r_goOn l dC dI H21.size p0 fs21 p0_text c_p0_text b_p0_text at0 en tk sz ho21 ((q_sn efs21 (by decide) fr_fz_p0_1)) ((q_sn efs21 (by decide) fh_fz_p0_6)) ((q_sn efs21 (by decide) fh_fz_p0_7)) ((q_sn efs21 (by decide) fh_fz_p0_8)) ((q_sn efs21 (by decide) fh_fz_p0_3)) ((by omega))) rfl rfl (cwV 0 hts (p1_gV m_8 m_9 m_10 m_3 g_r_goOn gz_r_goOn) rfl rfl rfl (by decide +kernel) ⟨by decide, by decide⟩) (va_recv hK hP21 (ci := 8) (q0 := 0) rfl rfl) zm_r_goOn rfl hl.1 rfl (Nat.le_of_ble_eq_true rfl) dX9_unit_164 ⟨by decide, by decide⟩ (fun H95 lo95 hG95 hS95 => ?_)
                obtain ⟨o_96, o_97, o_98, o_99, ho_100, hf_101, z_102, z_103, z_104, z_105, hQ95⟩ := hG95
                have to_97 := (OKX9_g6 ho_100).use z_102
                have to_98 := (OKX9_g7 ho_100).use z_103
                have to_99 := (OKX9_g8 ho_100).use z_104
                have hP95 : va_P (dC, dI) vwCl (zW_r_unit p0 o_96 p0_code c_p0_code b_p0_code p0_codeNumber c_p0_codeNumber b_p0_codeNumber p0_eSign c_p0_eSign b_p0_eSign p0_eWhat c_p0_eWhat b_p0_eWhat p0_text c_p0_text b_p0_text) H95 := hQ95
                clear hQ95 hP21 hS21
                refine lv_iload_n hx hb dX9_unit_167 rfl (lv_at hl 3 rfl) ?_
                refine lv_if_ne (tgt := 175) hx hb dX9_unit_168 (by decide) (fun c_106 => ?_) (fun c_106 => ?_)
                · have tc_106 := q_ne c_106
                  refine lv_aload_n hx hb dX9_unit_175 rfl (lv_at hl 5 rfl) (lv_iload_n hx hb dX9_unit_176 rfl (lv_at hl 3 rfl) (lv_if_eq (tgt := 184) hx hb dX9_unit_177 (by decide) (fun c_107 => by exfalso; have t9 := q_eq c_107; omega) (fun c_107 => ?_)))
                  have tc_107 := q_neN c_107
                  refine lv_iconst (v := 3) hx hb dX9_unit_180 (by decide) (lv_goto (tgt := 186) hx hb dX9_unit_181 (by decide) (lv_bipush (v := 126) hx hb dX9_unit_186 (by decide) ?_))
                  refine q_cVv (As := [.int 3, .int 126]) (rest := []) q_w0 trivial hK hP95 hDa za_r_unit hS95 hA [0, 3, 4] [2, 3] (by decide +kernel) ⟨hx, hb, hml, hown, hts⟩ (r_pushE l dC dI H95.size p0 o_96 p0_eSign c_p0_eSign b_p0_eSign p0_eWhat c_p0_eWhat b_p0_eWhat 3 126 pi ho_100 ((hf_101.u (by decide) (q_sn efs21 (by decide) fr_fz_p0_40))) ((hf_101.u (by decide) (q_sn efs21 (by decide) fr_fz_p0_41))) ((hf_101.u (by decide) (q_sn efs21 (by decide) fh_fz_p0_48))) ((by omega))) rfl rfl (cwV 2 hts (p1_gV m_11 m_12 m_13 m_3 g_r_pushE gz_r_pushE) rfl rfl rfl (by decide +kernel) ⟨by decide, by decide⟩) (va_recv hK hP95 (ci := 8) (q0 := 0) rfl rfl) zm_r_pushE rfl hl.1 rfl (Nat.le_of_ble_eq_true rfl) dX9_unit_188 ⟨by decide, by decide⟩ (fun H109 lo109 hG109 hS109 => ?_)
                  obtain ⟨o_110, o_111, o_112, o_113, ho_114, hf_115, z_116, z_117, z_118, z_119, hQ109⟩ := hG109
                  have hP109 : va_P (dC, dI) vwCl (zW_r_unit p0 o_110 p0_code c_p0_code b_p0_code p0_codeNumber c_p0_codeNumber b_p0_codeNumber p0_eSign c_p0_eSign o_111 p0_eWhat c_p0_eWhat o_112 p0_text c_p0_text b_p0_text) H109 := hQ109
                  clear hQ109 hP95 hS95
                  refine lv_aload_n hx hb dX9_unit_191 rfl (lv_at hl 5 rfl) (lv_dup hx hb dX9_unit_192 rfl (qg_X9_47 hx hb hts i_X9 hown hK hP109 0 rfl k_14 (hf_115.u (by decide) (hf_101.u (by decide) (q_sn efs21 (by decide) fh_fz_p0_47))) dX9_unit_193 (lv_iconst (v := 1) hx hb dX9_unit_196 (by decide) (lv_iadd hx hb dX9_unit_197 (lv_topi fun v_120 ev_120 => qp_X9_47 hx hb hts i_X9 hown hK hP109 hDa za_r_unit hS109 0 rfl k_14 (OKX9_l ho_114) dX9_unit_198 (fun H121 lo121 fs121 efs121 (hP121 : va_P (dC, dI) vwCl (zW_r_unit p0 fs121 p0_code c_p0_code b_p0_code p0_codeNumber c_p0_codeNumber b_p0_codeNumber p0_eSign c_p0_eSign o_111 p0_eWhat c_p0_eWhat o_112 p0_text c_p0_text b_p0_text) H121) hS121 => ?_))))))
                  have ho121 := OKX9_p47 ho_114 efs121
                  clear hP109 hS109
                  refine lv_iconst (v := 1) hx hb dX9_unit_201 (by decide) ?_
                  exact q_zret hx hb hr hlocks (by decide) hS121 dX9_unit_202 ⟨fs121, b_p0_code, b_p0_codeNumber, o_111, o_112, o_97, o_98, o_99, fkv, co, v_20, v_120, o_113, (Or.inl ⟨rfl, Or.inr ⟨by omega, q_EI.cast (hEI.push (un' := v_20.toInt) z_118 z_119 (by unfold q_nb; omega) (by omega) (by omega) (by omega) (by omega)) (by omega) (by omega) (by omega) (by omega), by omega⟩⟩), ho121, ((((hf_fz_p0.st efs21 (by decide)).tr hf_101 (by decide)).tr hf_115 (by decide)).st efs121 (by decide)), (q_sn efs121 (by decide) (hf_115.u (by decide) z_102)), (q_sn efs121 (by decide) (hf_115.u (by decide) z_103)), (q_sn efs121 (by decide) (hf_115.u (by decide) z_104)), (q_sn efs121 (by decide) (hf_115.u (by decide) (hf_101.u (by decide) (q_sn efs21 (by decide) fv_fz_p0_4)))), (q_sn efs121 (by decide) (hf_115.u (by decide) (hf_101.u (by decide) (q_sn efs21 (by decide) fh_fz_p0_45)))), (q_sn efs121 (by decide) (hf_115.u (by decide) (hf_101.u (by decide) (q_sa efs21 (OKX9_l ho_fz_p0) (by decide))))), (q_sa efs121 (OKX9_l ho_114) (by decide)), (q_sn efs121 (by decide) z_116), (by omega), (by omega), (by omega), q_offc.rf, (by omega), (by omega), hP121, za_r_unit⟩
                · have tc_106 := q_eqN c_106
                  refine lv_iload_n hx hb dX9_unit_171 rfl (lv_at hl 2 rfl) ?_
                  refine lv_if_eq (tgt := 203) hx hb dX9_unit_172 (by decide) (fun c_122 => ?_) (fun c_122 => ?_)
                  · have tc_122 := q_eq c_122
                    refine lv_aload_n hx hb dX9_unit_203 rfl (lv_at hl 5 rfl) (lv_iload hx hb dX9_unit_204 (lv_at hl 1 rfl) ?_)
                    refine lv_if_ne (tgt := 214) hx hb dX9_unit_206 (by decide) (fun c_123 => ?_) (fun c_123 => ?_)
                    · have tc_123 := q_ne c_123
                      refine lv_iload hx hb dX9_unit_214 (lv_at hl 1 rfl) (lv_iload hx hb dX9_unit_216 (lv_at hl 0 rfl) ?_)
                      refine q_cVv (As := [.int r_10, .int v_93]) (rest := []) q_w0 trivial hK hP95 hDa za_r_unit hS95 hA [0, 1, 2] [0, 1] (by decide +kernel) ⟨hx, hb, hml, hown, hts⟩ (r_emit l dC dI H95.size p0 o_96 p0_code c_p0_code b_p0_code p0_codeNumber c_p0_codeNumber b_p0_codeNumber r_10 v_93 co ho_100 ((hf_101.u (by decide) (q_sn efs21 (by decide) fr_fz_p0_38))) ((hf_101.u (by decide) (q_sn efs21 (by decide) fr_fz_p0_39))) ((hf_101.u (by decide) (q_sn efs21 (by decide) fh_fz_p0_45))) ((by omega))) rfl rfl (cwV 2 hts (p1_gV m_15 m_16 m_17 m_3 g_r_emit gz_r_emit) rfl rfl rfl (by decide +kernel) ⟨by decide, by decide⟩) (va_recv hK hP95 (ci := 8) (q0 := 0) rfl rfl) zm_r_emit rfl hl.1 rfl (Nat.le_of_ble_eq_true rfl) dX9_unit_218 ⟨by decide, by decide⟩ (fun H125 lo125 hG125 hS125 => ?_)
                      obtain ⟨o_126, o_127, o_128, o_129, ho_130, hf_131, z_132, z_133, z_134, hQ125⟩ := hG125
                      have hP125 : va_P (dC, dI) vwCl (zW_r_unit p0 o_126 p0_code c_p0_code o_127 p0_codeNumber c_p0_codeNumber o_128 p0_eSign c_p0_eSign b_p0_eSign p0_eWhat c_p0_eWhat b_p0_eWhat p0_text c_p0_text b_p0_text) H125 := hQ125
                      clear hQ125 hP95 hS95
                      refine lv_iconst (v := 0) hx hb dX9_unit_221 (by decide) ?_
                      exact q_zret hx hb hr hlocks (by decide) hS125 dX9_unit_222 ⟨o_126, o_127, o_128, b_p0_eSign, b_p0_eWhat, o_97, o_98, o_99, fkv, o_129, v_20, wi, pi, (Or.inr ⟨rfl, q_EI.cast (hEI.unit z_134 ⟨by omega, by omega⟩ (by omega)) (by omega) (by omega) (by omega) (by omega), by omega, by omega⟩), ho_130, (((hf_fz_p0.st efs21 (by decide)).tr hf_101 (by decide)).tr hf_131 (by decide)), (hf_131.u (by decide) z_102), (hf_131.u (by decide) z_103), (hf_131.u (by decide) z_104), (hf_131.u (by decide) (hf_101.u (by decide) (q_sn efs21 (by decide) fv_fz_p0_4))), z_132, (hf_131.u (by decide) (hf_101.u (by decide) (q_sa efs21 (OKX9_l ho_fz_p0) (by decide)))), (hf_131.u (by decide) (hf_101.u (by decide) (q_sn efs21 (by decide) fh_fz_p0_47))), (hf_131.u (by decide) (hf_101.u (by decide) (q_sn efs21 (by decide) fh_fz_p0_48))), (by omega), (by omega), (by omega), (q_offc.rf.up z_134 (by omega) (by omega)), (by omega), (by omega), hP125, za_r_unit⟩
                    · have tc_123 := q_eqN c_123
                      refine lv_bipush (v := 110) hx hb dX9_unit_209 (by decide) (lv_goto (tgt := 216) hx hb dX9_unit_211 (by decide) (lv_iload hx hb dX9_unit_216 (lv_at hl 0 rfl) ?_))
                      refine q_cVv (As := [.int 110, .int v_93]) (rest := []) q_w0 trivial hK hP95 hDa za_r_unit hS95 hA [0, 1, 2] [0, 1] (by decide +kernel) ⟨hx, hb, hml, hown, hts⟩ (r_emit l dC dI H95.size p0 o_96 p0_code c_p0_code b_p0_code p0_codeNumber c_p0_codeNumber b_p0_codeNumber 110 v_93 co ho_100 ((hf_101.u (by decide) (q_sn efs21 (by decide) fr_fz_p0_38))) ((hf_101.u (by decide) (q_sn efs21 (by decide) fr_fz_p0_39))) ((hf_101.u (by decide) (q_sn efs21 (by decide) fh_fz_p0_45))) ((by omega))) rfl rfl (cwV 2 hts (p1_gV m_15 m_16 m_17 m_3 g_r_emit gz_r_emit) rfl rfl rfl (by decide +kernel) ⟨by decide, by decide⟩) (va_recv hK hP95 (ci := 8) (q0 := 0) rfl rfl) zm_r_emit rfl hl.1 rfl (Nat.le_of_ble_eq_true rfl) dX9_unit_218 ⟨by decide, by decide⟩ (fun H136 lo136 hG136 hS136 => ?_)
                      obtain ⟨o_137, o_138, o_139, o_140, ho_141, hf_142, z_143, z_144, z_145, hQ136⟩ := hG136
                      have hP136 : va_P (dC, dI) vwCl (zW_r_unit p0 o_137 p0_code c_p0_code o_138 p0_codeNumber c_p0_codeNumber o_139 p0_eSign c_p0_eSign b_p0_eSign p0_eWhat c_p0_eWhat b_p0_eWhat p0_text c_p0_text b_p0_text) H136 := hQ136
                      clear hQ136 hP95 hS95
                      refine lv_iconst (v := 0) hx hb dX9_unit_221 (by decide) ?_
                      exact q_zret hx hb hr hlocks (by decide) hS136 dX9_unit_222 ⟨o_137, o_138, o_139, b_p0_eSign, b_p0_eWhat, o_97, o_98, o_99, fkv, o_140, v_20, wi, pi, (Or.inr ⟨rfl, q_EI.cast (hEI.unit z_145 ⟨by omega, by omega⟩ (by omega)) (by omega) (by omega) (by omega) (by omega), by omega, by omega⟩), ho_141, (((hf_fz_p0.st efs21 (by decide)).tr hf_101 (by decide)).tr hf_142 (by decide)), (hf_142.u (by decide) z_102), (hf_142.u (by decide) z_103), (hf_142.u (by decide) z_104), (hf_142.u (by decide) (hf_101.u (by decide) (q_sn efs21 (by decide) fv_fz_p0_4))), z_143, (hf_142.u (by decide) (hf_101.u (by decide) (q_sa efs21 (OKX9_l ho_fz_p0) (by decide)))), (hf_142.u (by decide) (hf_101.u (by decide) (q_sn efs21 (by decide) fh_fz_p0_47))), (hf_142.u (by decide) (hf_101.u (by decide) (q_sn efs21 (by decide) fh_fz_p0_48))), (by omega), (by omega), (by omega), (q_offc.rf.up z_145 (by omega) (by omega)), (by omega), (by omega), hP136, za_r_unit⟩
                  · have tc_122 := q_neN c_122
                    refine lv_aload_n hx hb dX9_unit_175 rfl (lv_at hl 5 rfl) (lv_iload_n hx hb dX9_unit_176 rfl (lv_at hl 3 rfl) ?_)
                    refine lv_if_eq (tgt := 184) hx hb dX9_unit_177 (by decide) (fun c_146 => ?_) (fun c_146 => ?_)
                    · have tc_146 := q_eq c_146
                      refine lv_bipush (v := 7) hx hb dX9_unit_184 (by decide) (lv_bipush (v := 126) hx hb dX9_unit_186 (by decide) ?_)
                      refine q_cVv (As := [.int 7, .int 126]) (rest := []) q_w0 trivial hK hP95 hDa za_r_unit hS95 hA [0, 3, 4] [2, 3] (by decide +kernel) ⟨hx, hb, hml, hown, hts⟩ (r_pushE l dC dI H95.size p0 o_96 p0_eSign c_p0_eSign b_p0_eSign p0_eWhat c_p0_eWhat b_p0_eWhat 7 126 pi ho_100 ((hf_101.u (by decide) (q_sn efs21 (by decide) fr_fz_p0_40))) ((hf_101.u (by decide) (q_sn efs21 (by decide) fr_fz_p0_41))) ((hf_101.u (by decide) (q_sn efs21 (by decide) fh_fz_p0_48))) ((by omega))) rfl rfl (cwV 2 hts (p1_gV m_11 m_12 m_13 m_3 g_r_pushE gz_r_pushE) rfl rfl rfl (by decide +kernel) ⟨by decide, by decide⟩) (va_recv hK hP95 (ci := 8) (q0 := 0) rfl rfl) zm_r_pushE rfl hl.1 rfl (Nat.le_of_ble_eq_true rfl) dX9_unit_188 ⟨by decide, by decide⟩ (fun H148 lo148 hG148 hS148 => ?_)
                      obtain ⟨o_149, o_150, o_151, o_152, ho_153, hf_154, z_155, z_156, z_157, z_158, hQ148⟩ := hG148
                      have hP148 : va_P (dC, dI) vwCl (zW_r_unit p0 o_149 p0_code c_p0_code b_p0_code p0_codeNumber c_p0_codeNumber b_p0_codeNumber p0_eSign c_p0_eSign o_150 p0_eWhat c_p0_eWhat o_151 p0_text c_p0_text b_p0_text) H148 := hQ148
                      clear hQ148 hP95 hS95
                      refine lv_aload_n hx hb dX9_unit_191 rfl (lv_at hl 5 rfl) (lv_dup hx hb dX9_unit_192 rfl (qg_X9_47 hx hb hts i_X9 hown hK hP148 0 rfl k_14 (hf_154.u (by decide) (hf_101.u (by decide) (q_sn efs21 (by decide) fh_fz_p0_47))) dX9_unit_193 (lv_iconst (v := 1) hx hb dX9_unit_196 (by decide) (lv_iadd hx hb dX9_unit_197 (lv_topi fun v_159 ev_159 => qp_X9_47 hx hb hts i_X9 hown hK hP148 hDa za_r_unit hS148 0 rfl k_14 (OKX9_l ho_153) dX9_unit_198 (fun H160 lo160 fs160 efs160 (hP160 : va_P (dC, dI) vwCl (zW_r_unit p0 fs160 p0_code c_p0_code b_p0_code p0_codeNumber c_p0_codeNumber b_p0_codeNumber p0_eSign c_p0_eSign o_150 p0_eWhat c_p0_eWhat o_151 p0_text c_p0_text b_p0_text) H160) hS160 => ?_))))))
                      have ho160 := OKX9_p47 ho_153 efs160
                      clear hP148 hS148
                      refine lv_iconst (v := 1) hx hb dX9_unit_201 (by decide) ?_
                      exact q_zret hx hb hr hlocks (by decide) hS160 dX9_unit_202 ⟨fs160, b_p0_code, b_p0_codeNumber, o_150, o_151, o_97, o_98, o_99, fkv, co, v_20, v_159, o_152, (Or.inl ⟨rfl, Or.inr ⟨by omega, q_EI.cast (hEI.push (un' := v_20.toInt) z_157 z_158 (by unfold q_nb; omega) (by omega) (by omega) (by omega) (by omega)) (by omega) (by omega) (by omega) (by omega), by omega⟩⟩), ho160, ((((hf_fz_p0.st efs21 (by decide)).tr hf_101 (by decide)).tr hf_154 (by decide)).st efs160 (by decide)), (q_sn efs160 (by decide) (hf_154.u (by decide) z_102)), (q_sn efs160 (by decide) (hf_154.u (by decide) z_103)), (q_sn efs160 (by decide) (hf_154.u (by decide) z_104)), (q_sn efs160 (by decide) (hf_154.u (by decide) (hf_101.u (by decide) (q_sn efs21 (by decide) fv_fz_p0_4)))), (q_sn efs160 (by decide) (hf_154.u (by decide) (hf_101.u (by decide) (q_sn efs21 (by decide) fh_fz_p0_45)))), (q_sn efs160 (by decide) (hf_154.u (by decide) (hf_101.u (by decide) (q_sa efs21 (OKX9_l ho_fz_p0) (by decide))))), (q_sa efs160 (OKX9_l ho_153) (by decide)), (q_sn efs160 (by decide) z_155), (by omega), (by omega), (by omega), q_offc.rf, (by omega), (by omega), hP160, za_r_unit⟩
                    · have tc_146 := q_neN c_146
                      refine lv_iconst (v := 3) hx hb dX9_unit_180 (by decide) (lv_goto (tgt := 186) hx hb dX9_unit_181 (by decide) (lv_bipush (v := 126) hx hb dX9_unit_186 (by decide) ?_))
                      refine q_cVv (As := [.int 3, .int 126]) (rest := []) q_w0 trivial hK hP95 hDa za_r_unit hS95 hA [0, 3, 4] [2, 3] (by decide +kernel) ⟨hx, hb, hml, hown, hts⟩ (r_pushE l dC dI H95.size p0 o_96 p0_eSign c_p0_eSign b_p0_eSign p0_eWhat c_p0_eWhat b_p0_eWhat 3 126 pi ho_100 ((hf_101.u (by decide) (q_sn efs21 (by decide) fr_fz_p0_40))) ((hf_101.u (by decide) (q_sn efs21 (by decide) fr_fz_p0_41))) ((hf_101.u (by decide) (q_sn efs21 (by decide) fh_fz_p0_48))) ((by omega))) rfl rfl (cwV 2 hts (p1_gV m_11 m_12 m_13 m_3 g_r_pushE gz_r_pushE) rfl rfl rfl (by decide +kernel) ⟨by decide, by decide⟩) (va_recv hK hP95 (ci := 8) (q0 := 0) rfl rfl) zm_r_pushE rfl hl.1 rfl (Nat.le_of_ble_eq_true rfl) dX9_unit_188 ⟨by decide, by decide⟩ (fun H162 lo162 hG162 hS162 => ?_)
                      obtain ⟨o_163, o_164, o_165, o_166, ho_167, hf_168, z_169, z_170, z_171, z_172, hQ162⟩ := hG162
                      have hP162 : va_P (dC, dI) vwCl (zW_r_unit p0 o_163 p0_code c_p0_code b_p0_code p0_codeNumber c_p0_codeNumber b_p0_codeNumber p0_eSign c_p0_eSign o_164 p0_eWhat c_p0_eWhat o_165 p0_text c_p0_text b_p0_text) H162 := hQ162
                      clear hQ162 hP95 hS95
                      refine lv_aload_n hx hb dX9_unit_191 rfl (lv_at hl 5 rfl) (lv_dup hx hb dX9_unit_192 rfl (qg_X9_47 hx hb hts i_X9 hown hK hP162 0 rfl k_14 (hf_168.u (by decide) (hf_101.u (by decide) (q_sn efs21 (by decide) fh_fz_p0_47))) dX9_unit_193 (lv_iconst (v := 1) hx hb dX9_unit_196 (by decide) (lv_iadd hx hb dX9_unit_197 (lv_topi fun v_173 ev_173 => qp_X9_47 hx hb hts i_X9 hown hK hP162 hDa za_r_unit hS162 0 rfl k_14 (OKX9_l ho_167) dX9_unit_198 (fun H174 lo174 fs174 efs174 (hP174 : va_P (dC, dI) vwCl (zW_r_unit p0 fs174 p0_code c_p0_code b_p0_code p0_codeNumber c_p0_codeNumber b_p0_codeNumber p0_eSign c_p0_eSign o_164 p0_eWhat c_p0_eWhat o_165 p0_text c_p0_text b_p0_text) H174) hS174 => ?_))))))
                      have ho174 := OKX9_p47 ho_167 efs174
                      clear hP162 hS162
                      refine lv_iconst (v := 1) hx hb dX9_unit_201 (by decide) ?_
                      exact q_zret hx hb hr hlocks (by decide) hS174 dX9_unit_202 ⟨fs174, b_p0_code, b_p0_codeNumber, o_164, o_165, o_97, o_98, o_99, fkv, co, v_20, v_173, o_166, (Or.inl ⟨rfl, Or.inr ⟨by omega, q_EI.cast (hEI.push (un' := v_20.toInt) z_171 z_172 (by unfold q_nb; omega) (by omega) (by omega) (by omega) (by omega)) (by omega) (by omega) (by omega) (by omega), by omega⟩⟩), ho174, ((((hf_fz_p0.st efs21 (by decide)).tr hf_101 (by decide)).tr hf_168 (by decide)).st efs174 (by decide)), (q_sn efs174 (by decide) (hf_168.u (by decide) z_102)), (q_sn efs174 (by decide) (hf_168.u (by decide) z_103)), (q_sn efs174 (by decide) (hf_168.u (by decide) z_104)), (q_sn efs174 (by decide) (hf_168.u (by decide) (hf_101.u (by decide) (q_sn efs21 (by decide) fv_fz_p0_4)))), (q_sn efs174 (by decide) (hf_168.u (by decide) (hf_101.u (by decide) (q_sn efs21 (by decide) fh_fz_p0_45)))), (q_sn efs174 (by decide) (hf_168.u (by decide) (hf_101.u (by decide) (q_sa efs21 (OKX9_l ho_fz_p0) (by decide))))), (q_sa efs174 (OKX9_l ho_167) (by decide)), (q_sn efs174 (by decide) z_169), (by omega), (by omega), (by omega), q_offc.rf, (by omega), (by omega), hP174, za_r_unit⟩
            · have tc_19 := q_neN c_19
              refine lv_iconst (v := 0) hx hb dX9_unit_139 (by decide) (lv_goto (tgt := 144) hx hb dX9_unit_140 (by decide) (lv_iadd hx hb dX9_unit_144 (lv_topi fun v_175 ev_175 => qp_X9_46 hx hb hts i_X9 hown hK hP16 hDa za_r_unit hS16 0 rfl k_7 (OKX9_l ho_fz_p0) dX9_unit_145 (fun H176 lo176 fs176 efs176 (hP176 : va_P (dC, dI) vwCl (zW_r_unit p0 fs176 p0_code c_p0_code b_p0_code p0_codeNumber c_p0_codeNumber b_p0_codeNumber p0_eSign c_p0_eSign b_p0_eSign p0_eWhat c_p0_eWhat b_p0_eWhat p0_text c_p0_text b_p0_text) H176) hS176 => ?_))))
              have ho176 := OKX9_p46 ho_fz_p0 efs176
              clear hP16 hS16
              refine lv_iload hx hb dX9_unit_148 (lv_at hl 0 rfl) ?_
              refine lv_if_ne (tgt := 160) hx hb dX9_unit_150 (by decide) (fun c_177 => ?_) (fun c_177 => ?_)
              · have tc_177 := q_ne c_177
                refine lv_iconst (v := 0) hx hb dX9_unit_160 (by decide) (lv_istore (lv' := [(5, .int 0), (4, .int r_10), (3, .int j_7), (2, .int j_4), (1, .int j_1), (0, .ref p0)]) hx hb dX9_unit_161 hl (by decide) rfl (fun ls hl => ?_))
                refine lv_aload_n hx hb dX9_unit_163 rfl (lv_at hl 5 rfl) ?_
                refine q_cVv (As := []) (rest := []) q_w0 trivial hK hP176 hDa za_r_unit hS176 hA [0, 5] [4] (by decide +kernel) ⟨hx, hb, hml, hown, hts⟩ (r_goOn l dC dI H176.size p0 fs176 p0_text c_p0_text b_p0_text at0 en tk sz ho176 ((q_sn efs176 (by decide) fr_fz_p0_1)) ((q_sn efs176 (by decide) fh_fz_p0_6)) ((q_sn efs176 (by decide) fh_fz_p0_7)) ((q_sn efs176 (by decide) fh_fz_p0_8)) ((q_sn efs176 (by decide) fh_fz_p0_3)) ((by omega))) rfl rfl (cwV 0 hts (p1_gV m_8 m_9 m_10 m_3 g_r_goOn gz_r_goOn) rfl rfl rfl (by decide +kernel) ⟨by decide, by decide⟩) (va_recv hK hP176 (ci := 8) (q0 := 0) rfl rfl) zm_r_goOn rfl hl.1 rfl (Nat.le_of_ble_eq_true rfl) dX9_unit_164 ⟨by decide, by decide⟩ (fun H179 lo179 hG179 hS179 => ?_)
                obtain ⟨o_180, o_181, o_182, o_183, ho_184, hf_185, z_186, z_187, z_188, z_189, hQ179⟩ := hG179
                have to_181 := (OKX9_g6 ho_184).use z_186
                have to_182 := (OKX9_g7 ho_184).use z_187
                have to_183 := (OKX9_g8 ho_184).use z_188
                have hP179 : va_P (dC, dI) vwCl (zW_r_unit p0 o_180 p0_code c_p0_code b_p0_code p0_codeNumber c_p0_codeNumber b_p0_codeNumber p0_eSign c_p0_eSign b_p0_eSign p0_eWhat c_p0_eWhat b_p0_eWhat p0_text c_p0_text b_p0_text) H179 := hQ179
                clear hQ179 hP176 hS176
                refine lv_iload_n hx hb dX9_unit_167 rfl (lv_at hl 3 rfl) (lv_if_ne (tgt := 175) hx hb dX9_unit_168 (by decide) (fun c_190 => ?_) (fun c_190 => by exfalso; have t9 := q_eqN c_190; omega))
                have tc_190 := q_ne c_190
                refine lv_aload_n hx hb dX9_unit_175 rfl (lv_at hl 5 rfl) (lv_iload_n hx hb dX9_unit_176 rfl (lv_at hl 3 rfl) (lv_if_eq (tgt := 184) hx hb dX9_unit_177 (by decide) (fun c_191 => by exfalso; have t9 := q_eq c_191; omega) (fun c_191 => ?_)))
                have tc_191 := q_neN c_191
                refine lv_iconst (v := 3) hx hb dX9_unit_180 (by decide) (lv_goto (tgt := 186) hx hb dX9_unit_181 (by decide) (lv_bipush (v := 126) hx hb dX9_unit_186 (by decide) ?_))
                refine q_cVv (As := [.int 3, .int 126]) (rest := []) q_w0 trivial hK hP179 hDa za_r_unit hS179 hA [0, 3, 4] [2, 3] (by decide +kernel) ⟨hx, hb, hml, hown, hts⟩ (r_pushE l dC dI H179.size p0 o_180 p0_eSign c_p0_eSign b_p0_eSign p0_eWhat c_p0_eWhat b_p0_eWhat 3 126 pi ho_184 ((hf_185.u (by decide) (q_sn efs176 (by decide) fr_fz_p0_40))) ((hf_185.u (by decide) (q_sn efs176 (by decide) fr_fz_p0_41))) ((hf_185.u (by decide) (q_sn efs176 (by decide) fh_fz_p0_48))) ((by omega))) rfl rfl (cwV 2 hts (p1_gV m_11 m_12 m_13 m_3 g_r_pushE gz_r_pushE) rfl rfl rfl (by decide +kernel) ⟨by decide, by decide⟩) (va_recv hK hP179 (ci := 8) (q0 := 0) rfl rfl) zm_r_pushE rfl hl.1 rfl (Nat.le_of_ble_eq_true rfl) dX9_unit_188 ⟨by decide, by decide⟩ (fun H193 lo193 hG193 hS193 => ?_)
                obtain ⟨o_194, o_195, o_196, o_197, ho_198, hf_199, z_200, z_201, z_202, z_203, hQ193⟩ := hG193
                have hP193 : va_P (dC, dI) vwCl (zW_r_unit p0 o_194 p0_code c_p0_code b_p0_code p0_codeNumber c_p0_codeNumber b_p0_codeNumber p0_eSign c_p0_eSign o_195 p0_eWhat c_p0_eWhat o_196 p0_text c_p0_text b_p0_text) H193 := hQ193
                clear hQ193 hP179 hS179
                refine lv_aload_n hx hb dX9_unit_191 rfl (lv_at hl 5 rfl) (lv_dup hx hb dX9_unit_192 rfl (qg_X9_47 hx hb hts i_X9 hown hK hP193 0 rfl k_14 (hf_199.u (by decide) (hf_185.u (by decide) (q_sn efs176 (by decide) fh_fz_p0_47))) dX9_unit_193 (lv_iconst (v := 1) hx hb dX9_unit_196 (by decide) (lv_iadd hx hb dX9_unit_197 (lv_topi fun v_204 ev_204 => qp_X9_47 hx hb hts i_X9 hown hK hP193 hDa za_r_unit hS193 0 rfl k_14 (OKX9_l ho_198) dX9_unit_198 (fun H205 lo205 fs205 efs205 (hP205 : va_P (dC, dI) vwCl (zW_r_unit p0 fs205 p0_code c_p0_code b_p0_code p0_codeNumber c_p0_codeNumber b_p0_codeNumber p0_eSign c_p0_eSign o_195 p0_eWhat c_p0_eWhat o_196 p0_text c_p0_text b_p0_text) H205) hS205 => ?_))))))
                have ho205 := OKX9_p47 ho_198 efs205
                clear hP193 hS193
                refine lv_iconst (v := 1) hx hb dX9_unit_201 (by decide) ?_
                exact q_zret hx hb hr hlocks (by decide) hS205 dX9_unit_202 ⟨fs205, b_p0_code, b_p0_codeNumber, o_195, o_196, o_181, o_182, o_183, fkv, co, v_175, v_204, o_197, (Or.inl ⟨rfl, Or.inr ⟨by omega, q_EI.cast (hEI.push (un' := v_175.toInt) z_202 z_203 (by unfold q_nb; omega) (by omega) (by omega) (by omega) (by omega)) (by omega) (by omega) (by omega) (by omega), by omega⟩⟩), ho205, ((((hf_fz_p0.st efs176 (by decide)).tr hf_185 (by decide)).tr hf_199 (by decide)).st efs205 (by decide)), (q_sn efs205 (by decide) (hf_199.u (by decide) z_186)), (q_sn efs205 (by decide) (hf_199.u (by decide) z_187)), (q_sn efs205 (by decide) (hf_199.u (by decide) z_188)), (q_sn efs205 (by decide) (hf_199.u (by decide) (hf_185.u (by decide) (q_sn efs176 (by decide) fv_fz_p0_4)))), (q_sn efs205 (by decide) (hf_199.u (by decide) (hf_185.u (by decide) (q_sn efs176 (by decide) fh_fz_p0_45)))), (q_sn efs205 (by decide) (hf_199.u (by decide) (hf_185.u (by decide) (q_sa efs176 (OKX9_l ho_fz_p0) (by decide))))), (q_sa efs205 (OKX9_l ho_198) (by decide)), (q_sn efs205 (by decide) z_200), (by omega), (by omega), (by omega), q_offc.rf, (by omega), (by omega), hP205, za_r_unit⟩
              · have tc_177 := q_eqN c_177
                refine lv_aload_n hx hb dX9_unit_153 rfl (lv_at hl 4 rfl) ?_
                obtain ⟨v_206, fv_206⟩ := OKX9_g9 ho176
                refine qg_X9_9 hx hb hts i_X9 hown hK hP176 0 rfl k_18 fv_206 dX9_unit_154 (lv_goto (tgt := 161) hx hb dX9_unit_157 (by decide) (lv_istore (lv' := [(5, .int v_206), (4, .int r_10), (3, .int j_7), (2, .int j_4), (1, .int j_1), (0, .ref p0)]) hx hb dX9_unit_161 hl (by decide) rfl (fun ls hl => ?_)))
                refine lv_aload_n hx hb dX9_unit_163 rfl (lv_at hl 5 rfl) ?_
                refine q_cVv (As := []) (rest := []) q_w0 trivial hK hP176 hDa za_r_unit hS176 hA [0, 5] [4] (by decide +kernel) ⟨hx, hb, hml, hown, hts⟩ (r_goOn l dC dI H176.size p0 fs176 p0_text c_p0_text b_p0_text at0 en tk sz ho176 ((q_sn efs176 (by decide) fr_fz_p0_1)) ((q_sn efs176 (by decide) fh_fz_p0_6)) ((q_sn efs176 (by decide) fh_fz_p0_7)) ((q_sn efs176 (by decide) fh_fz_p0_8)) ((q_sn efs176 (by decide) fh_fz_p0_3)) ((by omega))) rfl rfl (cwV 0 hts (p1_gV m_8 m_9 m_10 m_3 g_r_goOn gz_r_goOn) rfl rfl rfl (by decide +kernel) ⟨by decide, by decide⟩) (va_recv hK hP176 (ci := 8) (q0 := 0) rfl rfl) zm_r_goOn rfl hl.1 rfl (Nat.le_of_ble_eq_true rfl) dX9_unit_164 ⟨by decide, by decide⟩ (fun H208 lo208 hG208 hS208 => ?_)
                obtain ⟨o_209, o_210, o_211, o_212, ho_213, hf_214, z_215, z_216, z_217, z_218, hQ208⟩ := hG208
                have to_210 := (OKX9_g6 ho_213).use z_215
                have to_211 := (OKX9_g7 ho_213).use z_216
                have to_212 := (OKX9_g8 ho_213).use z_217
                have hP208 : va_P (dC, dI) vwCl (zW_r_unit p0 o_209 p0_code c_p0_code b_p0_code p0_codeNumber c_p0_codeNumber b_p0_codeNumber p0_eSign c_p0_eSign b_p0_eSign p0_eWhat c_p0_eWhat b_p0_eWhat p0_text c_p0_text b_p0_text) H208 := hQ208
                clear hQ208 hP176 hS176
                refine lv_iload_n hx hb dX9_unit_167 rfl (lv_at hl 3 rfl) (lv_if_ne (tgt := 175) hx hb dX9_unit_168 (by decide) (fun c_219 => ?_) (fun c_219 => by exfalso; have t9 := q_eqN c_219; omega))
                have tc_219 := q_ne c_219
                refine lv_aload_n hx hb dX9_unit_175 rfl (lv_at hl 5 rfl) (lv_iload_n hx hb dX9_unit_176 rfl (lv_at hl 3 rfl) (lv_if_eq (tgt := 184) hx hb dX9_unit_177 (by decide) (fun c_220 => by exfalso; have t9 := q_eq c_220; omega) (fun c_220 => ?_)))
                have tc_220 := q_neN c_220
                refine lv_iconst (v := 3) hx hb dX9_unit_180 (by decide) (lv_goto (tgt := 186) hx hb dX9_unit_181 (by decide) (lv_bipush (v := 126) hx hb dX9_unit_186 (by decide) ?_))
                refine q_cVv (As := [.int 3, .int 126]) (rest := []) q_w0 trivial hK hP208 hDa za_r_unit hS208 hA [0, 3, 4] [2, 3] (by decide +kernel) ⟨hx, hb, hml, hown, hts⟩ (r_pushE l dC dI H208.size p0 o_209 p0_eSign c_p0_eSign b_p0_eSign p0_eWhat c_p0_eWhat b_p0_eWhat 3 126 pi ho_213 ((hf_214.u (by decide) (q_sn efs176 (by decide) fr_fz_p0_40))) ((hf_214.u (by decide) (q_sn efs176 (by decide) fr_fz_p0_41))) ((hf_214.u (by decide) (q_sn efs176 (by decide) fh_fz_p0_48))) ((by omega))) rfl rfl (cwV 2 hts (p1_gV m_11 m_12 m_13 m_3 g_r_pushE gz_r_pushE) rfl rfl rfl (by decide +kernel) ⟨by decide, by decide⟩) (va_recv hK hP208 (ci := 8) (q0 := 0) rfl rfl) zm_r_pushE rfl hl.1 rfl (Nat.le_of_ble_eq_true rfl) dX9_unit_188 ⟨by decide, by decide⟩ (fun H222 lo222 hG222 hS222 => ?_)
                obtain ⟨o_223, o_224, o_225, o_226, ho_227, hf_228, z_229, z_230, z_231, z_232, hQ222⟩ := hG222
                have hP222 : va_P (dC, dI) vwCl (zW_r_unit p0 o_223 p0_code c_p0_code b_p0_code p0_codeNumber c_p0_codeNumber b_p0_codeNumber p0_eSign c_p0_eSign o_224 p0_eWhat c_p0_eWhat o_225 p0_text c_p0_text b_p0_text) H222 := hQ222
                clear hQ222 hP208 hS208
                refine lv_aload_n hx hb dX9_unit_191 rfl (lv_at hl 5 rfl) (lv_dup hx hb dX9_unit_192 rfl (qg_X9_47 hx hb hts i_X9 hown hK hP222 0 rfl k_14 (hf_228.u (by decide) (hf_214.u (by decide) (q_sn efs176 (by decide) fh_fz_p0_47))) dX9_unit_193 (lv_iconst (v := 1) hx hb dX9_unit_196 (by decide) (lv_iadd hx hb dX9_unit_197 (lv_topi fun v_233 ev_233 => qp_X9_47 hx hb hts i_X9 hown hK hP222 hDa za_r_unit hS222 0 rfl k_14 (OKX9_l ho_227) dX9_unit_198 (fun H234 lo234 fs234 efs234 (hP234 : va_P (dC, dI) vwCl (zW_r_unit p0 fs234 p0_code c_p0_code b_p0_code p0_codeNumber c_p0_codeNumber b_p0_codeNumber p0_eSign c_p0_eSign o_224 p0_eWhat c_p0_eWhat o_225 p0_text c_p0_text b_p0_text) H234) hS234 => ?_))))))
                have ho234 := OKX9_p47 ho_227 efs234
                clear hP222 hS222
                refine lv_iconst (v := 1) hx hb dX9_unit_201 (by decide) ?_
                exact q_zret hx hb hr hlocks (by decide) hS234 dX9_unit_202 ⟨fs234, b_p0_code, b_p0_codeNumber, o_224, o_225, o_210, o_211, o_212, fkv, co, v_175, v_233, o_226, (Or.inl ⟨rfl, Or.inr ⟨by omega, q_EI.cast (hEI.push (un' := v_175.toInt) z_231 z_232 (by unfold q_nb; omega) (by omega) (by omega) (by omega) (by omega)) (by omega) (by omega) (by omega) (by omega), by omega⟩⟩), ho234, ((((hf_fz_p0.st efs176 (by decide)).tr hf_214 (by decide)).tr hf_228 (by decide)).st efs234 (by decide)), (q_sn efs234 (by decide) (hf_228.u (by decide) z_215)), (q_sn efs234 (by decide) (hf_228.u (by decide) z_216)), (q_sn efs234 (by decide) (hf_228.u (by decide) z_217)), (q_sn efs234 (by decide) (hf_228.u (by decide) (hf_214.u (by decide) (q_sn efs176 (by decide) fv_fz_p0_4)))), (q_sn efs234 (by decide) (hf_228.u (by decide) (hf_214.u (by decide) (q_sn efs176 (by decide) fh_fz_p0_45)))), (q_sn efs234 (by decide) (hf_228.u (by decide) (hf_214.u (by decide) (q_sa efs176 (OKX9_l ho_fz_p0) (by decide))))), (q_sa efs234 (OKX9_l ho_227) (by decide)), (q_sn efs234 (by decide) z_229), (by omega), (by omega), (by omega), q_offc.rf, (by omega), (by omega), hP234, za_r_unit⟩
          · refine lv_if_ne (tgt := 130) hx hb dX9_unit_125 (by decide) (fun c_235 => absurd c_235 (by decide)) (fun c_235 => ?_)
            refine lv_iconst (v := 1) hx hb dX9_unit_128 (by decide) ?_
            exact q_zret hx hb hr hlocks (by decide) hS16 dX9_unit_129 ⟨fz_p0, b_p0_code, b_p0_codeNumber, b_p0_eSign, b_p0_eWhat, at0, en, tk, fkv, co, un, wi, pi, (Or.inl ⟨rfl, Or.inl (by omega)⟩), ho_fz_p0, hf_fz_p0, fh_fz_p0_6, fh_fz_p0_7, fh_fz_p0_8, fv_fz_p0_4, fh_fz_p0_45, fh_fz_p0_46, fh_fz_p0_47, fh_fz_p0_48, (by omega), (by omega), (by omega), q_offc.rf, (by omega), (by omega), hP16, za_r_unit⟩
        refine lv_iload_n hx hb dX9_unit_70 rfl (lv_at hl 2 rfl) ?_
        refine lv_if_ne (tgt := 100) hx hb dX9_unit_71 (by decide) (fun c_236 => ?_) (fun c_236 => ?_)
        · have tc_236 := q_ne c_236
          refine lv_iload_n hx hb dX9_unit_100 rfl (lv_at hl 2 rfl) (lv_if_ne (tgt := 108) hx hb dX9_unit_101 (by decide) (fun c_237 => ?_) (fun c_237 => by exfalso; have t9 := q_eqN c_237; omega))
          have tc_237 := q_ne c_237
          refine lv_aload_n hx hb dX9_unit_108 rfl (lv_at hl 4 rfl) (qg_X9_47 hx hb hts i_X9 hown hK hP11 0 rfl k_14 pf_wi dX9_unit_109 (lv_bipush (v := 7) hx hb dX9_unit_112 (by decide) ?_))
          refine lv_icmp_ne (tgt := 121) hx hb dX9_unit_114 (by decide) (fun c_238 => ?_) (fun c_238 => ?_)
          · have tc_238 := q_ne c_238
            exact jn_13 f_p0 fk _ _ _ ho_p0 q_fr.rf fr_p0_1 pf_sz pf_fk (by omega) pf_at0 pf_en pf_tk fr_p0_38 fr_p0_39 fr_p0_40 fr_p0_41 pf_rb pf_co pf_un pf_wi pf_pi (by omega) hP11 hS11 (lv_sub hl [0, 1, 2, 3, 4] rfl)
          · have tc_238 := q_eqN c_238
            refine lv_aload_n hx hb dX9_unit_117 rfl (lv_at hl 4 rfl) ?_
            refine q_cVv (As := []) (rest := []) q_w0 trivial hK hP11 hDa za_r_unit hS11 hA [0] [] (by decide +kernel) ⟨hx, hb, hml, hown, hts⟩ (r_misplaced l dC dI H11.size p0 f_p0 ho_p0) rfl rfl (cwV 0 hts (p1_gV m_19 m_20 m_21 m_3 g_r_misplaced gz_r_misplaced) rfl rfl rfl (by decide +kernel) ⟨by decide, by decide⟩) (va_recv hK hP11 (ci := 8) (q0 := 0) rfl rfl) zm_r_misplaced rfl hl.1 rfl (Nat.le_of_ble_eq_true rfl) dX9_unit_118 ⟨by decide, by decide⟩ (fun H240 lo240 hG240 hS240 => ?_)
            obtain ⟨o_241, o_242, ho_243, hf_244, z_245, z_246, hQ240⟩ := hG240
            have to_242 := (OKX9_g4 ho_243).use z_245
            have hP240 : va_P (dC, dI) vwCl (zW_r_unit p0 o_241 p0_code c_p0_code b_p0_code p0_codeNumber c_p0_codeNumber b_p0_codeNumber p0_eSign c_p0_eSign b_p0_eSign p0_eWhat c_p0_eWhat b_p0_eWhat p0_text c_p0_text b_p0_text) H240 := hQ240
            clear hQ240 hP11 hS11
            exact jn_13 o_241 o_242 _ _ _ ho_243 (q_fr.rf.tr hf_244 (by decide)) (hf_244.u (by decide) fr_p0_1) (hf_244.u (by decide) pf_sz) z_245 (by omega) (hf_244.u (by decide) pf_at0) (hf_244.u (by decide) pf_en) (hf_244.u (by decide) pf_tk) (hf_244.u (by decide) fr_p0_38) (hf_244.u (by decide) fr_p0_39) (hf_244.u (by decide) fr_p0_40) (hf_244.u (by decide) fr_p0_41) (hf_244.u (by decide) pf_rb) (hf_244.u (by decide) pf_co) (hf_244.u (by decide) pf_un) (hf_244.u (by decide) pf_wi) (hf_244.u (by decide) pf_pi) (by omega) hP240 hS240 (lv_sub hl [0, 1, 2, 3, 4] rfl)
        · have tc_236 := q_eqN c_236
          refine lv_iload hx hb dX9_unit_74 (lv_at hl 0 rfl) ?_
          refine lv_if_ne (tgt := 91) hx hb dX9_unit_76 (by decide) (fun c_247 => ?_) (fun c_247 => ?_)
          · have tc_247 := q_ne c_247
            refine lv_aload_n hx hb dX9_unit_91 rfl (lv_at hl 4 rfl) (qg_X9_46 hx hb hts i_X9 hown hK hP11 0 rfl k_7 pf_un dX9_unit_92 (lv_bipush (v := 60) hx hb dX9_unit_95 (by decide) ?_))
            refine lv_icmp_eq (tgt := 117) hx hb dX9_unit_97 (by decide) (fun c_248 => ?_) (fun c_248 => ?_)
            · have tc_248 := q_eq c_248
              refine lv_aload_n hx hb dX9_unit_117 rfl (lv_at hl 4 rfl) ?_
              refine q_cVv (As := []) (rest := []) q_w0 trivial hK hP11 hDa za_r_unit hS11 hA [0] [] (by decide +kernel) ⟨hx, hb, hml, hown, hts⟩ (r_misplaced l dC dI H11.size p0 f_p0 ho_p0) rfl rfl (cwV 0 hts (p1_gV m_19 m_20 m_21 m_3 g_r_misplaced gz_r_misplaced) rfl rfl rfl (by decide +kernel) ⟨by decide, by decide⟩) (va_recv hK hP11 (ci := 8) (q0 := 0) rfl rfl) zm_r_misplaced rfl hl.1 rfl (Nat.le_of_ble_eq_true rfl) dX9_unit_118 ⟨by decide, by decide⟩ (fun H250 lo250 hG250 hS250 => ?_)
              obtain ⟨o_251, o_252, ho_253, hf_254, z_255, z_256, hQ250⟩ := hG250
              have to_252 := (OKX9_g4 ho_253).use z_255
              have hP250 : va_P (dC, dI) vwCl (zW_r_unit p0 o_251 p0_code c_p0_code b_p0_code p0_codeNumber c_p0_codeNumber b_p0_codeNumber p0_eSign c_p0_eSign b_p0_eSign p0_eWhat c_p0_eWhat b_p0_eWhat p0_text c_p0_text b_p0_text) H250 := hQ250
              clear hQ250 hP11 hS11
              exact jn_13 o_251 o_252 _ _ _ ho_253 (q_fr.rf.tr hf_254 (by decide)) (hf_254.u (by decide) fr_p0_1) (hf_254.u (by decide) pf_sz) z_255 (by omega) (hf_254.u (by decide) pf_at0) (hf_254.u (by decide) pf_en) (hf_254.u (by decide) pf_tk) (hf_254.u (by decide) fr_p0_38) (hf_254.u (by decide) fr_p0_39) (hf_254.u (by decide) fr_p0_40) (hf_254.u (by decide) fr_p0_41) (hf_254.u (by decide) pf_rb) (hf_254.u (by decide) pf_co) (hf_254.u (by decide) pf_un) (hf_254.u (by decide) pf_wi) (hf_254.u (by decide) pf_pi) (by omega) hP250 hS250 (lv_sub hl [0, 1, 2, 3, 4] rfl)
            · have tc_248 := q_neN c_248
              refine lv_iload_n hx hb dX9_unit_100 rfl (lv_at hl 2 rfl) ?_
              refine lv_if_ne (tgt := 108) hx hb dX9_unit_101 (by decide) (fun c_257 => ?_) (fun c_257 => ?_)
              · have tc_257 := q_ne c_257
                refine lv_aload_n hx hb dX9_unit_108 rfl (lv_at hl 4 rfl) (qg_X9_47 hx hb hts i_X9 hown hK hP11 0 rfl k_14 pf_wi dX9_unit_109 (lv_bipush (v := 7) hx hb dX9_unit_112 (by decide) ?_))
                refine lv_icmp_ne (tgt := 121) hx hb dX9_unit_114 (by decide) (fun c_258 => ?_) (fun c_258 => ?_)
                · have tc_258 := q_ne c_258
                  exact jn_13 f_p0 fk _ _ _ ho_p0 q_fr.rf fr_p0_1 pf_sz pf_fk (by omega) pf_at0 pf_en pf_tk fr_p0_38 fr_p0_39 fr_p0_40 fr_p0_41 pf_rb pf_co pf_un pf_wi pf_pi (by omega) hP11 hS11 (lv_sub hl [0, 1, 2, 3, 4] rfl)
                · have tc_258 := q_eqN c_258
                  refine lv_aload_n hx hb dX9_unit_117 rfl (lv_at hl 4 rfl) ?_
                  refine q_cVv (As := []) (rest := []) q_w0 trivial hK hP11 hDa za_r_unit hS11 hA [0] [] (by decide +kernel) ⟨hx, hb, hml, hown, hts⟩ (r_misplaced l dC dI H11.size p0 f_p0 ho_p0) rfl rfl (cwV 0 hts (p1_gV m_19 m_20 m_21 m_3 g_r_misplaced gz_r_misplaced) rfl rfl rfl (by decide +kernel) ⟨by decide, by decide⟩) (va_recv hK hP11 (ci := 8) (q0 := 0) rfl rfl) zm_r_misplaced rfl hl.1 rfl (Nat.le_of_ble_eq_true rfl) dX9_unit_118 ⟨by decide, by decide⟩ (fun H260 lo260 hG260 hS260 => ?_)
                  obtain ⟨o_261, o_262, ho_263, hf_264, z_265, z_266, hQ260⟩ := hG260
                  have to_262 := (OKX9_g4 ho_263).use z_265
                  have hP260 : va_P (dC, dI) vwCl (zW_r_unit p0 o_261 p0_code c_p0_code b_p0_code p0_codeNumber c_p0_codeNumber b_p0_codeNumber p0_eSign c_p0_eSign b_p0_eSign p0_eWhat c_p0_eWhat b_p0_eWhat p0_text c_p0_text b_p0_text) H260 := hQ260
                  clear hQ260 hP11 hS11
                  exact jn_13 o_261 o_262 _ _ _ ho_263 (q_fr.rf.tr hf_264 (by decide)) (hf_264.u (by decide) fr_p0_1) (hf_264.u (by decide) pf_sz) z_265 (by omega) (hf_264.u (by decide) pf_at0) (hf_264.u (by decide) pf_en) (hf_264.u (by decide) pf_tk) (hf_264.u (by decide) fr_p0_38) (hf_264.u (by decide) fr_p0_39) (hf_264.u (by decide) fr_p0_40) (hf_264.u (by decide) fr_p0_41) (hf_264.u (by decide) pf_rb) (hf_264.u (by decide) pf_co) (hf_264.u (by decide) pf_un) (hf_264.u (by decide) pf_wi) (hf_264.u (by decide) pf_pi) (by omega) hP260 hS260 (lv_sub hl [0, 1, 2, 3, 4] rfl)
              · have tc_257 := q_eqN c_257
                refine lv_iload_n hx hb dX9_unit_104 rfl (lv_at hl 1 rfl) ?_
                refine lv_if_eq (tgt := 121) hx hb dX9_unit_105 (by decide) (fun c_267 => ?_) (fun c_267 => ?_)
                · have tc_267 := q_eq c_267
                  exact jn_13 f_p0 fk _ _ _ ho_p0 q_fr.rf fr_p0_1 pf_sz pf_fk (by omega) pf_at0 pf_en pf_tk fr_p0_38 fr_p0_39 fr_p0_40 fr_p0_41 pf_rb pf_co pf_un pf_wi pf_pi (by omega) hP11 hS11 (lv_sub hl [0, 1, 2, 3, 4] rfl)
                · have tc_267 := q_neN c_267
                  refine lv_aload_n hx hb dX9_unit_108 rfl (lv_at hl 4 rfl) (qg_X9_47 hx hb hts i_X9 hown hK hP11 0 rfl k_14 pf_wi dX9_unit_109 (lv_bipush (v := 7) hx hb dX9_unit_112 (by decide) ?_))
                  refine lv_icmp_ne (tgt := 121) hx hb dX9_unit_114 (by decide) (fun c_268 => ?_) (fun c_268 => ?_)
                  · have tc_268 := q_ne c_268
                    exact jn_13 f_p0 fk _ _ _ ho_p0 q_fr.rf fr_p0_1 pf_sz pf_fk (by omega) pf_at0 pf_en pf_tk fr_p0_38 fr_p0_39 fr_p0_40 fr_p0_41 pf_rb pf_co pf_un pf_wi pf_pi (by omega) hP11 hS11 (lv_sub hl [0, 1, 2, 3, 4] rfl)
                  · have tc_268 := q_eqN c_268
                    refine lv_aload_n hx hb dX9_unit_117 rfl (lv_at hl 4 rfl) ?_
                    refine q_cVv (As := []) (rest := []) q_w0 trivial hK hP11 hDa za_r_unit hS11 hA [0] [] (by decide +kernel) ⟨hx, hb, hml, hown, hts⟩ (r_misplaced l dC dI H11.size p0 f_p0 ho_p0) rfl rfl (cwV 0 hts (p1_gV m_19 m_20 m_21 m_3 g_r_misplaced gz_r_misplaced) rfl rfl rfl (by decide +kernel) ⟨by decide, by decide⟩) (va_recv hK hP11 (ci := 8) (q0 := 0) rfl rfl) zm_r_misplaced rfl hl.1 rfl (Nat.le_of_ble_eq_true rfl) dX9_unit_118 ⟨by decide, by decide⟩ (fun H270 lo270 hG270 hS270 => ?_)
                    obtain ⟨o_271, o_272, ho_273, hf_274, z_275, z_276, hQ270⟩ := hG270
                    have to_272 := (OKX9_g4 ho_273).use z_275
                    have hP270 : va_P (dC, dI) vwCl (zW_r_unit p0 o_271 p0_code c_p0_code b_p0_code p0_codeNumber c_p0_codeNumber b_p0_codeNumber p0_eSign c_p0_eSign b_p0_eSign p0_eWhat c_p0_eWhat b_p0_eWhat p0_text c_p0_text b_p0_text) H270 := hQ270
                    clear hQ270 hP11 hS11
                    exact jn_13 o_271 o_272 _ _ _ ho_273 (q_fr.rf.tr hf_274 (by decide)) (hf_274.u (by decide) fr_p0_1) (hf_274.u (by decide) pf_sz) z_275 (by omega) (hf_274.u (by decide) pf_at0) (hf_274.u (by decide) pf_en) (hf_274.u (by decide) pf_tk) (hf_274.u (by decide) fr_p0_38) (hf_274.u (by decide) fr_p0_39) (hf_274.u (by decide) fr_p0_40) (hf_274.u (by decide) fr_p0_41) (hf_274.u (by decide) pf_rb) (hf_274.u (by decide) pf_co) (hf_274.u (by decide) pf_un) (hf_274.u (by decide) pf_wi) (hf_274.u (by decide) pf_pi) (by omega) hP270 hS270 (lv_sub hl [0, 1, 2, 3, 4] rfl)
          · have tc_247 := q_eqN c_247
            refine lv_aload_n hx hb dX9_unit_79 rfl (lv_at hl 4 rfl) (qg_X9_8 hx hb hts i_X9 hown hK hP11 0 rfl k_22 pf_tk dX9_unit_80 (lv_iconst (v := 4) hx hb dX9_unit_83 (by decide) ?_))
            refine lv_icmp_eq (tgt := 91) hx hb dX9_unit_84 (by decide) (fun c_277 => ?_) (fun c_277 => ?_)
            · have tc_277 := q_eq c_277
              refine lv_aload_n hx hb dX9_unit_91 rfl (lv_at hl 4 rfl) (qg_X9_46 hx hb hts i_X9 hown hK hP11 0 rfl k_7 pf_un dX9_unit_92 (lv_bipush (v := 60) hx hb dX9_unit_95 (by decide) ?_))
              refine lv_icmp_eq (tgt := 117) hx hb dX9_unit_97 (by decide) (fun c_278 => ?_) (fun c_278 => ?_)
              · have tc_278 := q_eq c_278
                refine lv_aload_n hx hb dX9_unit_117 rfl (lv_at hl 4 rfl) ?_
                refine q_cVv (As := []) (rest := []) q_w0 trivial hK hP11 hDa za_r_unit hS11 hA [0] [] (by decide +kernel) ⟨hx, hb, hml, hown, hts⟩ (r_misplaced l dC dI H11.size p0 f_p0 ho_p0) rfl rfl (cwV 0 hts (p1_gV m_19 m_20 m_21 m_3 g_r_misplaced gz_r_misplaced) rfl rfl rfl (by decide +kernel) ⟨by decide, by decide⟩) (va_recv hK hP11 (ci := 8) (q0 := 0) rfl rfl) zm_r_misplaced rfl hl.1 rfl (Nat.le_of_ble_eq_true rfl) dX9_unit_118 ⟨by decide, by decide⟩ (fun H280 lo280 hG280 hS280 => ?_)
                obtain ⟨o_281, o_282, ho_283, hf_284, z_285, z_286, hQ280⟩ := hG280
                have to_282 := (OKX9_g4 ho_283).use z_285
                have hP280 : va_P (dC, dI) vwCl (zW_r_unit p0 o_281 p0_code c_p0_code b_p0_code p0_codeNumber c_p0_codeNumber b_p0_codeNumber p0_eSign c_p0_eSign b_p0_eSign p0_eWhat c_p0_eWhat b_p0_eWhat p0_text c_p0_text b_p0_text) H280 := hQ280
                clear hQ280 hP11 hS11
                exact jn_13 o_281 o_282 _ _ _ ho_283 (q_fr.rf.tr hf_284 (by decide)) (hf_284.u (by decide) fr_p0_1) (hf_284.u (by decide) pf_sz) z_285 (by omega) (hf_284.u (by decide) pf_at0) (hf_284.u (by decide) pf_en) (hf_284.u (by decide) pf_tk) (hf_284.u (by decide) fr_p0_38) (hf_284.u (by decide) fr_p0_39) (hf_284.u (by decide) fr_p0_40) (hf_284.u (by decide) fr_p0_41) (hf_284.u (by decide) pf_rb) (hf_284.u (by decide) pf_co) (hf_284.u (by decide) pf_un) (hf_284.u (by decide) pf_wi) (hf_284.u (by decide) pf_pi) (by omega) hP280 hS280 (lv_sub hl [0, 1, 2, 3, 4] rfl)
              · have tc_278 := q_neN c_278
                refine lv_iload_n hx hb dX9_unit_100 rfl (lv_at hl 2 rfl) ?_
                refine lv_if_ne (tgt := 108) hx hb dX9_unit_101 (by decide) (fun c_287 => ?_) (fun c_287 => ?_)
                · have tc_287 := q_ne c_287
                  refine lv_aload_n hx hb dX9_unit_108 rfl (lv_at hl 4 rfl) (qg_X9_47 hx hb hts i_X9 hown hK hP11 0 rfl k_14 pf_wi dX9_unit_109 (lv_bipush (v := 7) hx hb dX9_unit_112 (by decide) ?_))
                  refine lv_icmp_ne (tgt := 121) hx hb dX9_unit_114 (by decide) (fun c_288 => ?_) (fun c_288 => ?_)
                  · have tc_288 := q_ne c_288
                    exact jn_13 f_p0 fk _ _ _ ho_p0 q_fr.rf fr_p0_1 pf_sz pf_fk (by omega) pf_at0 pf_en pf_tk fr_p0_38 fr_p0_39 fr_p0_40 fr_p0_41 pf_rb pf_co pf_un pf_wi pf_pi (by omega) hP11 hS11 (lv_sub hl [0, 1, 2, 3, 4] rfl)
                  · have tc_288 := q_eqN c_288
                    refine lv_aload_n hx hb dX9_unit_117 rfl (lv_at hl 4 rfl) ?_
                    refine q_cVv (As := []) (rest := []) q_w0 trivial hK hP11 hDa za_r_unit hS11 hA [0] [] (by decide +kernel) ⟨hx, hb, hml, hown, hts⟩ (r_misplaced l dC dI H11.size p0 f_p0 ho_p0) rfl rfl (cwV 0 hts (p1_gV m_19 m_20 m_21 m_3 g_r_misplaced gz_r_misplaced) rfl rfl rfl (by decide +kernel) ⟨by decide, by decide⟩) (va_recv hK hP11 (ci := 8) (q0 := 0) rfl rfl) zm_r_misplaced rfl hl.1 rfl (Nat.le_of_ble_eq_true rfl) dX9_unit_118 ⟨by decide, by decide⟩ (fun H290 lo290 hG290 hS290 => ?_)
                    obtain ⟨o_291, o_292, ho_293, hf_294, z_295, z_296, hQ290⟩ := hG290
                    have to_292 := (OKX9_g4 ho_293).use z_295
                    have hP290 : va_P (dC, dI) vwCl (zW_r_unit p0 o_291 p0_code c_p0_code b_p0_code p0_codeNumber c_p0_codeNumber b_p0_codeNumber p0_eSign c_p0_eSign b_p0_eSign p0_eWhat c_p0_eWhat b_p0_eWhat p0_text c_p0_text b_p0_text) H290 := hQ290
                    clear hQ290 hP11 hS11
                    exact jn_13 o_291 o_292 _ _ _ ho_293 (q_fr.rf.tr hf_294 (by decide)) (hf_294.u (by decide) fr_p0_1) (hf_294.u (by decide) pf_sz) z_295 (by omega) (hf_294.u (by decide) pf_at0) (hf_294.u (by decide) pf_en) (hf_294.u (by decide) pf_tk) (hf_294.u (by decide) fr_p0_38) (hf_294.u (by decide) fr_p0_39) (hf_294.u (by decide) fr_p0_40) (hf_294.u (by decide) fr_p0_41) (hf_294.u (by decide) pf_rb) (hf_294.u (by decide) pf_co) (hf_294.u (by decide) pf_un) (hf_294.u (by decide) pf_wi) (hf_294.u (by decide) pf_pi) (by omega) hP290 hS290 (lv_sub hl [0, 1, 2, 3, 4] rfl)
                · have tc_287 := q_eqN c_287
                  refine lv_iload_n hx hb dX9_unit_104 rfl (lv_at hl 1 rfl) ?_
                  refine lv_if_eq (tgt := 121) hx hb dX9_unit_105 (by decide) (fun c_297 => ?_) (fun c_297 => ?_)
                  · have tc_297 := q_eq c_297
                    exact jn_13 f_p0 fk _ _ _ ho_p0 q_fr.rf fr_p0_1 pf_sz pf_fk (by omega) pf_at0 pf_en pf_tk fr_p0_38 fr_p0_39 fr_p0_40 fr_p0_41 pf_rb pf_co pf_un pf_wi pf_pi (by omega) hP11 hS11 (lv_sub hl [0, 1, 2, 3, 4] rfl)
                  · have tc_297 := q_neN c_297
                    refine lv_aload_n hx hb dX9_unit_108 rfl (lv_at hl 4 rfl) (qg_X9_47 hx hb hts i_X9 hown hK hP11 0 rfl k_14 pf_wi dX9_unit_109 (lv_bipush (v := 7) hx hb dX9_unit_112 (by decide) ?_))
                    refine lv_icmp_ne (tgt := 121) hx hb dX9_unit_114 (by decide) (fun c_298 => ?_) (fun c_298 => ?_)
                    · have tc_298 := q_ne c_298
                      exact jn_13 f_p0 fk _ _ _ ho_p0 q_fr.rf fr_p0_1 pf_sz pf_fk (by omega) pf_at0 pf_en pf_tk fr_p0_38 fr_p0_39 fr_p0_40 fr_p0_41 pf_rb pf_co pf_un pf_wi pf_pi (by omega) hP11 hS11 (lv_sub hl [0, 1, 2, 3, 4] rfl)
                    · have tc_298 := q_eqN c_298
                      refine lv_aload_n hx hb dX9_unit_117 rfl (lv_at hl 4 rfl) ?_
                      refine q_cVv (As := []) (rest := []) q_w0 trivial hK hP11 hDa za_r_unit hS11 hA [0] [] (by decide +kernel) ⟨hx, hb, hml, hown, hts⟩ (r_misplaced l dC dI H11.size p0 f_p0 ho_p0) rfl rfl (cwV 0 hts (p1_gV m_19 m_20 m_21 m_3 g_r_misplaced gz_r_misplaced) rfl rfl rfl (by decide +kernel) ⟨by decide, by decide⟩) (va_recv hK hP11 (ci := 8) (q0 := 0) rfl rfl) zm_r_misplaced rfl hl.1 rfl (Nat.le_of_ble_eq_true rfl) dX9_unit_118 ⟨by decide, by decide⟩ (fun H300 lo300 hG300 hS300 => ?_)
                      obtain ⟨o_301, o_302, ho_303, hf_304, z_305, z_306, hQ300⟩ := hG300
                      have to_302 := (OKX9_g4 ho_303).use z_305
                      have hP300 : va_P (dC, dI) vwCl (zW_r_unit p0 o_301 p0_code c_p0_code b_p0_code p0_codeNumber c_p0_codeNumber b_p0_codeNumber p0_eSign c_p0_eSign b_p0_eSign p0_eWhat c_p0_eWhat b_p0_eWhat p0_text c_p0_text b_p0_text) H300 := hQ300
                      clear hQ300 hP11 hS11
                      exact jn_13 o_301 o_302 _ _ _ ho_303 (q_fr.rf.tr hf_304 (by decide)) (hf_304.u (by decide) fr_p0_1) (hf_304.u (by decide) pf_sz) z_305 (by omega) (hf_304.u (by decide) pf_at0) (hf_304.u (by decide) pf_en) (hf_304.u (by decide) pf_tk) (hf_304.u (by decide) fr_p0_38) (hf_304.u (by decide) fr_p0_39) (hf_304.u (by decide) fr_p0_40) (hf_304.u (by decide) fr_p0_41) (hf_304.u (by decide) pf_rb) (hf_304.u (by decide) pf_co) (hf_304.u (by decide) pf_un) (hf_304.u (by decide) pf_wi) (hf_304.u (by decide) pf_pi) (by omega) hP300 hS300 (lv_sub hl [0, 1, 2, 3, 4] rfl)
            · have tc_277 := q_neN c_277
              refine lv_iload_n hx hb dX9_unit_87 rfl (lv_at hl 1 rfl) ?_
              refine lv_if_eq (tgt := 117) hx hb dX9_unit_88 (by decide) (fun c_307 => ?_) (fun c_307 => ?_)
              · have tc_307 := q_eq c_307
                refine lv_aload_n hx hb dX9_unit_117 rfl (lv_at hl 4 rfl) ?_
                refine q_cVv (As := []) (rest := []) q_w0 trivial hK hP11 hDa za_r_unit hS11 hA [0] [] (by decide +kernel) ⟨hx, hb, hml, hown, hts⟩ (r_misplaced l dC dI H11.size p0 f_p0 ho_p0) rfl rfl (cwV 0 hts (p1_gV m_19 m_20 m_21 m_3 g_r_misplaced gz_r_misplaced) rfl rfl rfl (by decide +kernel) ⟨by decide, by decide⟩) (va_recv hK hP11 (ci := 8) (q0 := 0) rfl rfl) zm_r_misplaced rfl hl.1 rfl (Nat.le_of_ble_eq_true rfl) dX9_unit_118 ⟨by decide, by decide⟩ (fun H309 lo309 hG309 hS309 => ?_)
                obtain ⟨o_310, o_311, ho_312, hf_313, z_314, z_315, hQ309⟩ := hG309
                have to_311 := (OKX9_g4 ho_312).use z_314
                have hP309 : va_P (dC, dI) vwCl (zW_r_unit p0 o_310 p0_code c_p0_code b_p0_code p0_codeNumber c_p0_codeNumber b_p0_codeNumber p0_eSign c_p0_eSign b_p0_eSign p0_eWhat c_p0_eWhat b_p0_eWhat p0_text c_p0_text b_p0_text) H309 := hQ309
                clear hQ309 hP11 hS11
                exact jn_13 o_310 o_311 _ _ _ ho_312 (q_fr.rf.tr hf_313 (by decide)) (hf_313.u (by decide) fr_p0_1) (hf_313.u (by decide) pf_sz) z_314 (by omega) (hf_313.u (by decide) pf_at0) (hf_313.u (by decide) pf_en) (hf_313.u (by decide) pf_tk) (hf_313.u (by decide) fr_p0_38) (hf_313.u (by decide) fr_p0_39) (hf_313.u (by decide) fr_p0_40) (hf_313.u (by decide) fr_p0_41) (hf_313.u (by decide) pf_rb) (hf_313.u (by decide) pf_co) (hf_313.u (by decide) pf_un) (hf_313.u (by decide) pf_wi) (hf_313.u (by decide) pf_pi) (by omega) hP309 hS309 (lv_sub hl [0, 1, 2, 3, 4] rfl)
              · have tc_307 := q_neN c_307
                refine lv_aload_n hx hb dX9_unit_91 rfl (lv_at hl 4 rfl) (qg_X9_46 hx hb hts i_X9 hown hK hP11 0 rfl k_7 pf_un dX9_unit_92 (lv_bipush (v := 60) hx hb dX9_unit_95 (by decide) ?_))
                refine lv_icmp_eq (tgt := 117) hx hb dX9_unit_97 (by decide) (fun c_316 => ?_) (fun c_316 => ?_)
                · have tc_316 := q_eq c_316
                  refine lv_aload_n hx hb dX9_unit_117 rfl (lv_at hl 4 rfl) ?_
                  refine q_cVv (As := []) (rest := []) q_w0 trivial hK hP11 hDa za_r_unit hS11 hA [0] [] (by decide +kernel) ⟨hx, hb, hml, hown, hts⟩ (r_misplaced l dC dI H11.size p0 f_p0 ho_p0) rfl rfl (cwV 0 hts (p1_gV m_19 m_20 m_21 m_3 g_r_misplaced gz_r_misplaced) rfl rfl rfl (by decide +kernel) ⟨by decide, by decide⟩) (va_recv hK hP11 (ci := 8) (q0 := 0) rfl rfl) zm_r_misplaced rfl hl.1 rfl (Nat.le_of_ble_eq_true rfl) dX9_unit_118 ⟨by decide, by decide⟩ (fun H318 lo318 hG318 hS318 => ?_)
                  obtain ⟨o_319, o_320, ho_321, hf_322, z_323, z_324, hQ318⟩ := hG318
                  have to_320 := (OKX9_g4 ho_321).use z_323
                  have hP318 : va_P (dC, dI) vwCl (zW_r_unit p0 o_319 p0_code c_p0_code b_p0_code p0_codeNumber c_p0_codeNumber b_p0_codeNumber p0_eSign c_p0_eSign b_p0_eSign p0_eWhat c_p0_eWhat b_p0_eWhat p0_text c_p0_text b_p0_text) H318 := hQ318
                  clear hQ318 hP11 hS11
                  exact jn_13 o_319 o_320 _ _ _ ho_321 (q_fr.rf.tr hf_322 (by decide)) (hf_322.u (by decide) fr_p0_1) (hf_322.u (by decide) pf_sz) z_323 (by omega) (hf_322.u (by decide) pf_at0) (hf_322.u (by decide) pf_en) (hf_322.u (by decide) pf_tk) (hf_322.u (by decide) fr_p0_38) (hf_322.u (by decide) fr_p0_39) (hf_322.u (by decide) fr_p0_40) (hf_322.u (by decide) fr_p0_41) (hf_322.u (by decide) pf_rb) (hf_322.u (by decide) pf_co) (hf_322.u (by decide) pf_un) (hf_322.u (by decide) pf_wi) (hf_322.u (by decide) pf_pi) (by omega) hP318 hS318 (lv_sub hl [0, 1, 2, 3, 4] rfl)
                · have tc_316 := q_neN c_316
                  refine lv_iload_n hx hb dX9_unit_100 rfl (lv_at hl 2 rfl) ?_
                  refine lv_if_ne (tgt := 108) hx hb dX9_unit_101 (by decide) (fun c_325 => ?_) (fun c_325 => ?_)
                  · have tc_325 := q_ne c_325
                    refine lv_aload_n hx hb dX9_unit_108 rfl (lv_at hl 4 rfl) (qg_X9_47 hx hb hts i_X9 hown hK hP11 0 rfl k_14 pf_wi dX9_unit_109 (lv_bipush (v := 7) hx hb dX9_unit_112 (by decide) ?_))
                    refine lv_icmp_ne (tgt := 121) hx hb dX9_unit_114 (by decide) (fun c_326 => ?_) (fun c_326 => ?_)
                    · have tc_326 := q_ne c_326
                      exact jn_13 f_p0 fk _ _ _ ho_p0 q_fr.rf fr_p0_1 pf_sz pf_fk (by omega) pf_at0 pf_en pf_tk fr_p0_38 fr_p0_39 fr_p0_40 fr_p0_41 pf_rb pf_co pf_un pf_wi pf_pi (by omega) hP11 hS11 (lv_sub hl [0, 1, 2, 3, 4] rfl)
                    · have tc_326 := q_eqN c_326
                      refine lv_aload_n hx hb dX9_unit_117 rfl (lv_at hl 4 rfl) ?_
                      refine q_cVv (As := []) (rest := []) q_w0 trivial hK hP11 hDa za_r_unit hS11 hA [0] [] (by decide +kernel) ⟨hx, hb, hml, hown, hts⟩ (r_misplaced l dC dI H11.size p0 f_p0 ho_p0) rfl rfl (cwV 0 hts (p1_gV m_19 m_20 m_21 m_3 g_r_misplaced gz_r_misplaced) rfl rfl rfl (by decide +kernel) ⟨by decide, by decide⟩) (va_recv hK hP11 (ci := 8) (q0 := 0) rfl rfl) zm_r_misplaced rfl hl.1 rfl (Nat.le_of_ble_eq_true rfl) dX9_unit_118 ⟨by decide, by decide⟩ (fun H328 lo328 hG328 hS328 => ?_)
                      obtain ⟨o_329, o_330, ho_331, hf_332, z_333, z_334, hQ328⟩ := hG328
                      have to_330 := (OKX9_g4 ho_331).use z_333
                      have hP328 : va_P (dC, dI) vwCl (zW_r_unit p0 o_329 p0_code c_p0_code b_p0_code p0_codeNumber c_p0_codeNumber b_p0_codeNumber p0_eSign c_p0_eSign b_p0_eSign p0_eWhat c_p0_eWhat b_p0_eWhat p0_text c_p0_text b_p0_text) H328 := hQ328
                      clear hQ328 hP11 hS11
                      exact jn_13 o_329 o_330 _ _ _ ho_331 (q_fr.rf.tr hf_332 (by decide)) (hf_332.u (by decide) fr_p0_1) (hf_332.u (by decide) pf_sz) z_333 (by omega) (hf_332.u (by decide) pf_at0) (hf_332.u (by decide) pf_en) (hf_332.u (by decide) pf_tk) (hf_332.u (by decide) fr_p0_38) (hf_332.u (by decide) fr_p0_39) (hf_332.u (by decide) fr_p0_40) (hf_332.u (by decide) fr_p0_41) (hf_332.u (by decide) pf_rb) (hf_332.u (by decide) pf_co) (hf_332.u (by decide) pf_un) (hf_332.u (by decide) pf_wi) (hf_332.u (by decide) pf_pi) (by omega) hP328 hS328 (lv_sub hl [0, 1, 2, 3, 4] rfl)
                  · have tc_325 := q_eqN c_325
                    refine lv_iload_n hx hb dX9_unit_104 rfl (lv_at hl 1 rfl) (lv_if_eq (tgt := 121) hx hb dX9_unit_105 (by decide) (fun c_335 => by exfalso; have t9 := q_eq c_335; omega) (fun c_335 => ?_))
                    have tc_335 := q_neN c_335
                    refine lv_aload_n hx hb dX9_unit_108 rfl (lv_at hl 4 rfl) (qg_X9_47 hx hb hts i_X9 hown hK hP11 0 rfl k_14 pf_wi dX9_unit_109 (lv_bipush (v := 7) hx hb dX9_unit_112 (by decide) ?_))
                    refine lv_icmp_ne (tgt := 121) hx hb dX9_unit_114 (by decide) (fun c_336 => ?_) (fun c_336 => ?_)
                    · have tc_336 := q_ne c_336
                      exact jn_13 f_p0 fk _ _ _ ho_p0 q_fr.rf fr_p0_1 pf_sz pf_fk (by omega) pf_at0 pf_en pf_tk fr_p0_38 fr_p0_39 fr_p0_40 fr_p0_41 pf_rb pf_co pf_un pf_wi pf_pi (by omega) hP11 hS11 (lv_sub hl [0, 1, 2, 3, 4] rfl)
                    · have tc_336 := q_eqN c_336
                      refine lv_aload_n hx hb dX9_unit_117 rfl (lv_at hl 4 rfl) ?_
                      refine q_cVv (As := []) (rest := []) q_w0 trivial hK hP11 hDa za_r_unit hS11 hA [0] [] (by decide +kernel) ⟨hx, hb, hml, hown, hts⟩ (r_misplaced l dC dI H11.size p0 f_p0 ho_p0) rfl rfl (cwV 0 hts (p1_gV m_19 m_20 m_21 m_3 g_r_misplaced gz_r_misplaced) rfl rfl rfl (by decide +kernel) ⟨by decide, by decide⟩) (va_recv hK hP11 (ci := 8) (q0 := 0) rfl rfl) zm_r_misplaced rfl hl.1 rfl (Nat.le_of_ble_eq_true rfl) dX9_unit_118 ⟨by decide, by decide⟩ (fun H338 lo338 hG338 hS338 => ?_)
                      obtain ⟨o_339, o_340, ho_341, hf_342, z_343, z_344, hQ338⟩ := hG338
                      have to_340 := (OKX9_g4 ho_341).use z_343
                      have hP338 : va_P (dC, dI) vwCl (zW_r_unit p0 o_339 p0_code c_p0_code b_p0_code p0_codeNumber c_p0_codeNumber b_p0_codeNumber p0_eSign c_p0_eSign b_p0_eSign p0_eWhat c_p0_eWhat b_p0_eWhat p0_text c_p0_text b_p0_text) H338 := hQ338
                      clear hQ338 hP11 hS11
                      exact jn_13 o_339 o_340 _ _ _ ho_341 (q_fr.rf.tr hf_342 (by decide)) (hf_342.u (by decide) fr_p0_1) (hf_342.u (by decide) pf_sz) z_343 (by omega) (hf_342.u (by decide) pf_at0) (hf_342.u (by decide) pf_en) (hf_342.u (by decide) pf_tk) (hf_342.u (by decide) fr_p0_38) (hf_342.u (by decide) fr_p0_39) (hf_342.u (by decide) fr_p0_40) (hf_342.u (by decide) fr_p0_41) (hf_342.u (by decide) pf_rb) (hf_342.u (by decide) pf_co) (hf_342.u (by decide) pf_un) (hf_342.u (by decide) pf_wi) (hf_342.u (by decide) pf_pi) (by omega) hP338 hS338 (lv_sub hl [0, 1, 2, 3, 4] rfl)
      refine lv_aload_n hx hb dX9_unit_57 rfl (lv_at hl 2 rfl) (lv_bipush (v := 40) hx hb dX9_unit_58 (by decide) ?_)
      refine q_cVi (As := [.int 40]) (rest := []) q_w0 trivial hK hP6 hDa za_r_unit hS6 hA [0, 5] [4] (by decide +kernel) ⟨hx, hb, hml, hown, hts⟩ (r_is l dC dI H6.size p0 f_p0 p0_text c_p0_text b_p0_text 40 tk at0 sz ho_p0 fr_p0_1 pf_tk pf_at0 pf_sz) rfl rfl (cwV 1 hts (p1_gV m_23 m_24 m_25 m_3 g_r_is gz_r_is) rfl rfl rfl (by decide +kernel) ⟨by decide, by decide⟩) (va_recv hK hP6 (ci := 8) (q0 := 0) rfl rfl) zm_r_is rfl hl.1 rfl (Nat.le_of_ble_eq_true rfl) dX9_unit_60 ⟨by decide, by decide⟩ (fun r_345 H346 lo346 hG346 hS346 => ?_)
      obtain ⟨z_347, hQ346⟩ := hG346
      have hP346 : va_P (dC, dI) vwCl (zW_r_unit p0 f_p0 p0_code c_p0_code b_p0_code p0_codeNumber c_p0_codeNumber b_p0_codeNumber p0_eSign c_p0_eSign b_p0_eSign p0_eWhat c_p0_eWhat b_p0_eWhat p0_text c_p0_text b_p0_text) H346 := hQ346
      clear hQ346 hP6 hS6
      rcases z_347 with ⟨rfl, z_347⟩ | ⟨rfl, z_347⟩
      · exact jn_8 1 _ _ _ (by omega) hP346 hS346 (lv_sub hl [0, 1, 2] rfl)
      · exact jn_8 0 _ _ _ (by omega) hP346 hS346 (lv_sub hl [0, 1, 2] rfl)
    refine lv_iload_n hx hb dX9_unit_37 rfl (lv_at hl 0 rfl) ?_
    refine lv_if_eq (tgt := 55) hx hb dX9_unit_38 (by decide) (fun c_348 => ?_) (fun c_348 => ?_)
    · have tc_348 := q_eq c_348
      refine lv_iconst (v := 0) hx hb dX9_unit_55 (by decide) ?_
      exact jn_5 0 _ _ _ (by omega) hP3 hS3 (lv_sub hl [0, 1] rfl)
    · have tc_348 := q_neN c_348
      refine lv_aload_n hx hb dX9_unit_41 rfl (lv_at hl 1 rfl) (lv_ldc2 (v := 7237492) hx hb hown k_26 dX9_unit_42 ?_)
      obtain ⟨v_349, fv_349⟩ := OKX9_g10 ho_p0
      refine q_cVi (As := [.long 7237492]) (rest := []) q_w0 trivial hK hP3 hDa za_r_unit hS3 hA [0] [] (by decide +kernel) ⟨hx, hb, hml, hown, hts⟩ (r_isWord l dC dI H3.size p0 f_p0 7237492 tk v_349 ho_p0 pf_tk fv_349) rfl rfl (cwV 1 hts (p1_gV m_27 m_28 m_29 m_3 g_r_isWord gz_r_isWord) rfl rfl rfl (by decide +kernel) ⟨by decide, by decide⟩) (va_recv hK hP3 (ci := 8) (q0 := 0) rfl rfl) zm_r_isWord rfl hl.1 rfl (Nat.le_of_ble_eq_true rfl) dX9_unit_45 ⟨by decide, by decide⟩ (fun r_350 H351 lo351 hG351 hS351 => ?_)
      obtain ⟨z_352, hQ351⟩ := hG351
      have hP351 : va_P (dC, dI) vwCl (zW_r_unit p0 f_p0 p0_code c_p0_code b_p0_code p0_codeNumber c_p0_codeNumber b_p0_codeNumber p0_eSign c_p0_eSign b_p0_eSign p0_eWhat c_p0_eWhat b_p0_eWhat p0_text c_p0_text b_p0_text) H351 := hQ351
      clear hQ351 hP3 hS3
      rcases z_352 with ⟨rfl, z_352⟩ | ⟨rfl, z_352⟩
      · refine lv_if_eq (tgt := 55) hx hb dX9_unit_48 (by decide) (fun c_353 => absurd c_353 (by decide)) (fun c_353 => ?_)
        refine lv_iconst (v := 1) hx hb dX9_unit_51 (by decide) (lv_goto (tgt := 56) hx hb dX9_unit_52 (by decide) ?_)
        exact jn_5 1 _ _ _ (by omega) hP351 hS351 (lv_sub hl [0, 1] rfl)
      · refine lv_if_eq (tgt := 55) hx hb dX9_unit_48 (by decide) (fun c_354 => ?_) (fun c_354 => absurd c_354 (by decide))
        refine lv_iconst (v := 0) hx hb dX9_unit_55 (by decide) ?_
        exact jn_5 0 _ _ _ (by omega) hP351 hS351 (lv_sub hl [0, 1] rfl)
  refine lv_aload_n hx hb dX9_unit_0 rfl (lv_at hl 0 rfl) (qg_X9_40 hx hb hts i_X9 hown hK hP 0 rfl k_30 fr_p0_40 dX9_unit_1 (lv_aload_n hx hb dX9_unit_4 rfl (lv_at hl 0 rfl) (qg_X9_48 hx hb hts i_X9 hown hK hP 0 rfl k_31 pf_pi dX9_unit_5 (lv_iconst (v := 1) hx hb dX9_unit_8 (by decide) (lv_isub hx hb dX9_unit_9 (lv_topi fun v_355 ev_355 => q_ild hx hb hK hP 4 3 rfl rfl (q_in (by omega) (by omega)) dX9_unit_10 (fun v_356 ev_356 => ?_)))))))
  refine lv_iconst (v := 3) hx hb dX9_unit_11 (by decide) ?_
  refine lv_icmp_le (tgt := 31) hx hb dX9_unit_12 (by decide) (fun c_357 => ?_) (fun c_357 => ?_)
  · have tc_357 := q_le c_357
    refine lv_iconst (v := 1) hx hb dX9_unit_31 (by decide) (lv_goto (tgt := 36) hx hb dX9_unit_32 (by decide) ?_)
    exact jn_2 1 _ _ _ (by omega) hP hS (lv_sub hl [0] rfl)
  · have tc_357 := q_gtN c_357
    refine lv_aload_n hx hb dX9_unit_15 rfl (lv_at hl 0 rfl) (qg_X9_40 hx hb hts i_X9 hown hK hP 0 rfl k_30 fr_p0_40 dX9_unit_16 (lv_aload_n hx hb dX9_unit_19 rfl (lv_at hl 0 rfl) (qg_X9_48 hx hb hts i_X9 hown hK hP 0 rfl k_31 pf_pi dX9_unit_20 (lv_iconst (v := 1) hx hb dX9_unit_23 (by decide) (lv_isub hx hb dX9_unit_24 (lv_topi fun v_358 ev_358 => q_ild hx hb hK hP 4 3 rfl rfl (q_in (by omega) (by omega)) dX9_unit_25 (fun v_359 ev_359 => ?_)))))))
    refine lv_bipush (v := 7) hx hb dX9_unit_26 (by decide) ?_
    refine lv_icmp_lt (tgt := 35) hx hb dX9_unit_28 (by decide) (fun c_360 => ?_) (fun c_360 => ?_)
    · have tc_360 := q_lt c_360
      refine lv_iconst (v := 0) hx hb dX9_unit_35 (by decide) ?_
      exact jn_2 0 _ _ _ (by omega) hP hS (lv_sub hl [0] rfl)
    · have tc_360 := q_geN c_360
      refine lv_iconst (v := 1) hx hb dX9_unit_31 (by decide) (lv_goto (tgt := 36) hx hb dX9_unit_32 (by decide) ?_)
      exact jn_2 1 _ _ _ (by omega) hP hS (lv_sub hl [0] rfl)
def zo_r_behindUnit : List Cond := [.code yX9_behindUnit cX9_behindUnit 2 (some .boolean), .methodLink RX9 361 yX9_rankHere, .instanceMethod yX9_rankHere, .selects RX9 yX9_rankHere yX9_rankHere, .initialized RX9, .fieldLink RX9 110 "BowWalkModel" "eWhat" "[I", .fieldLink RX9 339 "BowWalkModel" "piled" "I", .fieldLink RX9 342 "BowWalkModel" "within" "I", .methodLink RX9 322 yX9_is, .instanceMethod yX9_is, .selects RX9 yX9_is yX9_is, .methodLink RX9 271 yX9_must, .instanceMethod yX9_must, .selects RX9 yX9_must yX9_must, .fieldLink RX9 223 "BowWalkModel" "at" "I", .methodLink RX9 226 yX9_sign, .instanceMethod yX9_sign, .selects RX9 yX9_sign yX9_sign, .methodLink RX9 345 yX9_pushE, .instanceMethod yX9_pushE, .selects RX9 yX9_pushE yX9_pushE, .methodLink RX9 262 yX9_goOn, .instanceMethod yX9_goOn, .selects RX9 yX9_goOn yX9_goOn, .fieldLink RX9 113 "BowWalkModel" "eSign" "[I", .methodLink RX9 358 yX9_emit, .instanceMethod yX9_emit, .selects RX9 yX9_emit yX9_emit, .methodLink RX9 364 yX9_isCompared, .instanceMethod yX9_isCompared, .selects RX9 yX9_isCompared yX9_isCompared, .methodLink RX9 265 yX9_misplaced, .instanceMethod yX9_misplaced, .selects RX9 yX9_misplaced yX9_misplaced]
def zw_r_behindUnit : List Cond := zo_r_behindUnit ++ (zw_r_rankHere ++ (zw_r_is ++ (zw_r_must ++ (zw_r_sign ++ (zw_r_pushE ++ (zw_r_goOn ++ (zw_r_emit ++ (zw_r_isCompared ++ (zw_r_misplaced ++ (wsX90 ++ []))))))))))
theorem gz_r_behindUnit : zw_r_behindUnit.all goodWord = true := p1_ga (by decide +kernel) (p1_ga gz_r_rankHere (p1_ga gz_r_is (p1_ga gz_r_must (p1_ga gz_r_sign (p1_ga gz_r_pushE (p1_ga gz_r_goOn (p1_ga gz_r_emit (p1_ga gz_r_isCompared (p1_ga gz_r_misplaced (p1_ga gk_X9 p1_g0))))))))))
theorem iz_r_behindUnit : ∀ w ∈ zw_r_behindUnit, w ∈ lw_tbl := p1_ia (p1_all [1414, 1415, 1417, 68, 116, 1077, 1085, 1084, 1399, 1401, 64, 1371, 1373, 57, 1043, 1289, 1291, 45, 1391, 1393, 62, 1285, 1287, 44, 1078, 1407, 1409, 66, 1419, 1421, 69, 1343, 1345, 50] (by decide +kernel)) (p1_ia iz_r_rankHere (p1_ia iz_r_is (p1_ia iz_r_must (p1_ia iz_r_sign (p1_ia iz_r_pushE (p1_ia iz_r_goOn (p1_ia iz_r_emit (p1_ia iz_r_isCompared (p1_ia iz_r_misplaced (p1_ia ik_X9 p1_i0))))))))))
def zW_r_behindUnit (p0 : Nat) (f_p0 : List Value) (p0_code : Nat) (c_p0_code : ClassId) (b_p0_code : Nat → Int32) (p0_codeNumber : Nat) (c_p0_codeNumber : ClassId) (b_p0_codeNumber : Nat → Int32) (p0_eSign : Nat) (c_p0_eSign : ClassId) (b_p0_eSign : Nat → Int32) (p0_eWhat : Nat) (c_p0_eWhat : ClassId) (b_p0_eWhat : Nat → Int32) (p0_text : Nat) (c_p0_text : ClassId) (b_p0_text : Nat → Int32) : va_W := [(p0, .inr (8, f_p0)), (p0_code, .inl (c_p0_code, 1800, .inl b_p0_code)), (p0_codeNumber, .inl (c_p0_codeNumber, 1800, .inl b_p0_codeNumber)), (p0_eSign, .inl (c_p0_eSign, 120, .inl b_p0_eSign)), (p0_eWhat, .inl (c_p0_eWhat, 120, .inl b_p0_eWhat)), (p0_text, .inl (c_p0_text, 1600, .inl b_p0_text))]
def zT_r_behindUnit (c_p0_code : ClassId) (c_p0_codeNumber : ClassId) (c_p0_eSign : ClassId) (c_p0_eWhat : ClassId) (c_p0_text : ClassId) : List (ClassId × FieldType) := [(c_p0_code, .int), (c_p0_codeNumber, .int), (c_p0_eSign, .int), (c_p0_eWhat, .int), (c_p0_text, .byte)]
def zA_r_behindUnit (p0 : Nat) (p0_code : Nat) (p0_codeNumber : Nat) (p0_eSign : Nat) (p0_eWhat : Nat) (p0_text : Nat) : List Nat := [p0, p0_code, p0_codeNumber, p0_eSign, p0_eWhat, p0_text]
theorem za_r_behindUnit {p0 : Nat} {f_p0 : List Value} {p0_code : Nat} {c_p0_code : ClassId} {b_p0_code : Nat → Int32} {p0_codeNumber : Nat} {c_p0_codeNumber : ClassId} {b_p0_codeNumber : Nat → Int32} {p0_eSign : Nat} {c_p0_eSign : ClassId} {b_p0_eSign : Nat → Int32} {p0_eWhat : Nat} {c_p0_eWhat : ClassId} {b_p0_eWhat : Nat → Int32} {p0_text : Nat} {c_p0_text : ClassId} {b_p0_text : Nat → Int32} : (zW_r_behindUnit p0 f_p0 p0_code c_p0_code b_p0_code p0_codeNumber c_p0_codeNumber b_p0_codeNumber p0_eSign c_p0_eSign b_p0_eSign p0_eWhat c_p0_eWhat b_p0_eWhat p0_text c_p0_text b_p0_text).map Prod.fst = (zA_r_behindUnit p0 p0_code p0_codeNumber p0_eSign p0_eWhat p0_text) := rfl
def zG_r_behindUnit (p0 : Nat) (f_p0 : List Value) (p0_code : Nat) (c_p0_code : ClassId) (b_p0_code : Nat → Int32) (p0_codeNumber : Nat) (c_p0_codeNumber : ClassId) (b_p0_codeNumber : Nat → Int32) (p0_eSign : Nat) (c_p0_eSign : ClassId) (b_p0_eSign : Nat → Int32) (p0_eWhat : Nat) (c_p0_eWhat : ClassId) (b_p0_eWhat : Nat → Int32) (p0_text : Nat) (c_p0_text : ClassId) (b_p0_text : Nat → Int32) (at0 : Int32) (en : Int32) (tk : Int32) (sz : Int32) (fk : Int32) (co : Int32) (un : Int32) (wi : Int32) (pi : Int32) (rb : Int32) (lo9 : Int) (r : Int32) (X : va_W → Prop) : Prop := ∃ (y_p0 : List Value) (y_p0_code : Nat → Int32) (y_p0_codeNumber : Nat → Int32) (y_p0_eSign : Nat → Int32) (y_p0_eWhat : Nat → Int32) (at1 : Int32) (en1 : Int32) (tk1 : Int32) (fk1 : Int32) (co1 : Int32) (un1 : Int32) (wi1 : Int32) (pi1 : Int32), ((r = 1 ∧ (1 ≤ fk1.toInt ∨ (1 ≤ pi1.toInt ∧ q_EI 0 pi1.toInt.toNat rb.toInt co1.toInt un1.toInt wi1.toInt lo9 y_p0_eWhat y_p0_eSign y_p0_code))) ∨ (r = 0 ∧ (pi1.toInt < pi.toInt ∧ ((1 ≤ pi1.toInt ∧ q_EI 1 pi1.toInt.toNat rb.toInt co1.toInt un1.toInt wi1.toInt lo9 y_p0_eWhat y_p0_eSign y_p0_code) ∨ (pi1.toInt = 0 ∧ q_run y_p0_code lo9.toNat (co1.toInt - lo9).toNat ≠ none ∧ co1.toInt - 900 * rb.toInt ≤ 9 * un1.toInt ∧ lo9 ≤ co1.toInt))))) ∧ OKX9 y_p0 ∧ q_fr [4, 5, 6, 7, 8, 9, 10, 45, 47, 48] f_p0 y_p0 ∧ y_p0[6]? = some (.int at1) ∧ y_p0[7]? = some (.int en1) ∧ y_p0[8]? = some (.int tk1) ∧ y_p0[4]? = some (.int fk1) ∧ y_p0[45]? = some (.int co1) ∧ y_p0[46]? = some (.int un1) ∧ y_p0[47]? = some (.int wi1) ∧ y_p0[48]? = some (.int pi1) ∧ (en1.toInt ≤ sz.toInt ∧ at0.toInt ≤ at1.toInt ∧ at1.toInt ≤ en1.toInt ∧ (tk1.toInt ≠ 3 ∨ at1.toInt < en1.toInt)) ∧ (fk.toInt = 0 ∨ 1 ≤ fk1.toInt) ∧ (900 * rb.toInt ≤ co1.toInt ∧ co1.toInt ≤ 900 * rb.toInt + 900 ∧ 0 ≤ un1.toInt ∧ un1.toInt ≤ 60) ∧ (q_offc lo9 rb b_p0_code y_p0_code) ∧ (0 ≤ wi1.toInt ∧ wi1.toInt ≤ 7 ∧ 0 ≤ pi1.toInt ∧ pi1.toInt ≤ 69) ∧ (un1.toInt = un.toInt) ∧ X (zW_r_behindUnit p0 y_p0 p0_code c_p0_code y_p0_code p0_codeNumber c_p0_codeNumber y_p0_codeNumber p0_eSign c_p0_eSign y_p0_eSign p0_eWhat c_p0_eWhat y_p0_eWhat p0_text c_p0_text b_p0_text)
theorem zm_r_behindUnit {p0 : Nat} {f_p0 : List Value} {p0_code : Nat} {c_p0_code : ClassId} {b_p0_code : Nat → Int32} {p0_codeNumber : Nat} {c_p0_codeNumber : ClassId} {b_p0_codeNumber : Nat → Int32} {p0_eSign : Nat} {c_p0_eSign : ClassId} {b_p0_eSign : Nat → Int32} {p0_eWhat : Nat} {c_p0_eWhat : ClassId} {b_p0_eWhat : Nat → Int32} {p0_text : Nat} {c_p0_text : ClassId} {b_p0_text : Nat → Int32} {at0 : Int32} {en : Int32} {tk : Int32} {sz : Int32} {fk : Int32} {co : Int32} {un : Int32} {wi : Int32} {pi : Int32} {rb : Int32} {lo9 : Int} : ∀ (r : Int32), ∀ X Y : va_W → Prop, (∀ w, X w → Y w) → zG_r_behindUnit p0 f_p0 p0_code c_p0_code b_p0_code p0_codeNumber c_p0_codeNumber b_p0_codeNumber p0_eSign c_p0_eSign b_p0_eSign p0_eWhat c_p0_eWhat b_p0_eWhat p0_text c_p0_text b_p0_text at0 en tk sz fk co un wi pi rb lo9 r X → zG_r_behindUnit p0 f_p0 p0_code c_p0_code b_p0_code p0_codeNumber c_p0_codeNumber b_p0_codeNumber p0_eSign c_p0_eSign b_p0_eSign p0_eWhat c_p0_eWhat b_p0_eWhat p0_text c_p0_text b_p0_text at0 en tk sz fk co un wi pi rb lo9 r Y := fun r X Y h h1 => by obtain ⟨x0, x1, x2, x3, x4, x5, x6, x7, x8, x9, x10, x11, x12, x13, x14, x15, x16, x17, x18, x19, x20, x21, x22, x23, x24, x25, x26, x27, x28, x29, hx⟩ := h1; exact ⟨x0, x1, x2, x3, x4, x5, x6, x7, x8, x9, x10, x11, x12, x13, x14, x15, x16, x17, x18, x19, x20, x21, x22, x23, x24, x25, x26, x27, x28, x29, h _ hx⟩
set_option maxHeartbeats 4000000 in
set_option maxRecDepth 100000 in
theorem r_behindUnit (l : Launch) (dC : Nat → ClassId) (dI : Nat → Nat → Nat) (sz : Nat) (p0 : Nat) (f_p0 : List Value) (p0_code : Nat) (c_p0_code : ClassId) (b_p0_code : Nat → Int32) (p0_codeNumber : Nat) (c_p0_codeNumber : ClassId) (b_p0_codeNumber : Nat → Int32) (p0_eSign : Nat) (c_p0_eSign : ClassId) (b_p0_eSign : Nat → Int32) (p0_eWhat : Nat) (c_p0_eWhat : ClassId) (b_p0_eWhat : Nat → Int32) (p0_text : Nat) (c_p0_text : ClassId) (b_p0_text : Nat → Int32) (at0 : Int32) (en : Int32) (tk : Int32) (sz : Int32) (fk : Int32) (co : Int32) (un : Int32) (wi : Int32) (pi : Int32) (rb : Int32) (lo9 : Int) (ho_p0 : OKX9 f_p0) (fr_p0_1 : f_p0[1]? = some (.ref p0_text)) (fr_p0_38 : f_p0[38]? = some (.ref p0_code)) (fr_p0_39 : f_p0[39]? = some (.ref p0_codeNumber)) (fr_p0_40 : f_p0[40]? = some (.ref p0_eWhat)) (fr_p0_41 : f_p0[41]? = some (.ref p0_eSign)) (pf_at0 : f_p0[6]? = some (.int at0)) (pf_en : f_p0[7]? = some (.int en)) (pf_tk : f_p0[8]? = some (.int tk)) (pf_sz : f_p0[3]? = some (.int sz)) (pf_fk : f_p0[4]? = some (.int fk)) (pf_co : f_p0[45]? = some (.int co)) (pf_un : f_p0[46]? = some (.int un)) (pf_wi : f_p0[47]? = some (.int wi)) (pf_pi : f_p0[48]? = some (.int pi)) (pf_rb : f_p0[44]? = some (.int rb)) (hR : en.toInt ≤ sz.toInt ∧ at0.toInt ≤ en.toInt ∧ (tk.toInt ≠ 3 ∨ at0.toInt < en.toInt)) (hpi : 1 ≤ pi.toInt) (hEI : q_EI 1 pi.toInt.toNat rb.toInt co.toInt un.toInt wi.toInt lo9 b_p0_eWhat b_p0_eSign b_p0_code) : Met l yX9_behindUnit zw_r_behindUnit ({ frames := 3, cells := 0, slots := 0, locals := 65 }) (va_Pc [.ref p0] (q_pre (dC, dI) (zW_r_behindUnit p0 f_p0 p0_code c_p0_code b_p0_code p0_codeNumber c_p0_codeNumber b_p0_codeNumber p0_eSign c_p0_eSign b_p0_eSign p0_eWhat c_p0_eWhat b_p0_eWhat p0_text c_p0_text b_p0_text) (zT_r_behindUnit c_p0_code c_p0_codeNumber c_p0_eSign c_p0_eWhat c_p0_text) q_E0 sz)) (q_Qi (dC, dI) (zG_r_behindUnit p0 f_p0 p0_code c_p0_code b_p0_code p0_codeNumber c_p0_codeNumber b_p0_codeNumber p0_eSign c_p0_eSign b_p0_eSign p0_eWhat c_p0_eWhat b_p0_eWhat p0_text c_p0_text b_p0_text at0 en tk sz fk co un wi pi rb lo9) (zA_r_behindUnit p0 p0_code p0_codeNumber p0_eSign p0_eWhat p0_text) (va_A (zW_r_behindUnit p0 f_p0 p0_code c_p0_code b_p0_code p0_codeNumber c_p0_codeNumber b_p0_codeNumber p0_eSign c_p0_eSign b_p0_eSign p0_eWhat c_p0_eWhat b_p0_eWhat p0_text c_p0_text b_p0_text) sz)) 0 0 (va_A (zW_r_behindUnit p0 f_p0 p0_code c_p0_code b_p0_code p0_codeNumber c_p0_codeNumber b_p0_codeNumber p0_eSign c_p0_eSign b_p0_eSign p0_eWhat c_p0_eWhat b_p0_eWhat p0_text c_p0_text b_p0_text) sz) := by
  refine Met.ofW (cc := cX9_behindUnit) (maxL := 2) (ret := (some .boolean)) (by decide) rfl ?_
  intro p e s m args below meth c s₁ B hml hv
  obtain ⟨rfl, hsz, hP, hK, hD0, hE⟩ := hv
  have hx := B.exec
  have hb := B.bytes
  have hr := B.returns
  have hts := atoms_spec (ws := zw_r_behindUnit) B.pre
  have hown : s.vm.findClass RX9 = some m.cls := findClass_of_methodNamed B.named
  have hlocks := B.notSynchronized
  subst hsz
  have hD := hD0.self (sz := s.heap.size)
  generalize hAe : va_A (zW_r_behindUnit p0 f_p0 p0_code c_p0_code b_p0_code p0_codeNumber c_p0_codeNumber b_p0_codeNumber p0_eSign c_p0_eSign b_p0_eSign p0_eWhat c_p0_eWhat b_p0_eWhat p0_text c_p0_text b_p0_text) s.heap.size = A at hD hE ⊢
  have hA : ∀ q : Nat, s.heap.size ≤ q → A q := fun q h => by rw [← hAe]; exact Or.inr h
  have hDa : q_DA A (zA_r_behindUnit p0 p0_code p0_codeNumber p0_eSign p0_eWhat p0_text) := q_DA.mk hD za_r_behindUnit
  clear hAe hD0 hD
  have hS : va_S A s.heap s.heap [] := va_S.rf
  have m_0 : (.methodLink RX9 361 yX9_rankHere : Cond) ∈ zw_r_behindUnit := List.mem_append_left _ (List.mem_of_getElem? (i := 1) rfl)
  have k_0 := hts _ m_0
  have m_1 : (.instanceMethod yX9_rankHere : Cond) ∈ zw_r_behindUnit := List.mem_append_left _ (List.mem_of_getElem? (i := 2) rfl)
  have k_1 := hts _ m_1
  have m_2 : (.selects RX9 yX9_rankHere yX9_rankHere : Cond) ∈ zw_r_behindUnit := List.mem_append_left _ (List.mem_of_getElem? (i := 3) rfl)
  have k_2 := hts _ m_2
  have m_3 : (.initialized RX9 : Cond) ∈ zw_r_behindUnit := List.mem_append_left _ (List.mem_of_getElem? (i := 4) rfl)
  have k_3 := hts _ m_3
  have m_4 : (.fieldLink RX9 110 "BowWalkModel" "eWhat" "[I" : Cond) ∈ zw_r_behindUnit := List.mem_append_left _ (List.mem_of_getElem? (i := 5) rfl)
  have k_4 := hts _ m_4
  have m_5 : (.fieldLink RX9 339 "BowWalkModel" "piled" "I" : Cond) ∈ zw_r_behindUnit := List.mem_append_left _ (List.mem_of_getElem? (i := 6) rfl)
  have k_5 := hts _ m_5
  have m_6 : (.fieldLink RX9 342 "BowWalkModel" "within" "I" : Cond) ∈ zw_r_behindUnit := List.mem_append_left _ (List.mem_of_getElem? (i := 7) rfl)
  have k_6 := hts _ m_6
  have m_7 : (.methodLink RX9 322 yX9_is : Cond) ∈ zw_r_behindUnit := List.mem_append_left _ (List.mem_of_getElem? (i := 8) rfl)
  have k_7 := hts _ m_7
  have m_8 : (.instanceMethod yX9_is : Cond) ∈ zw_r_behindUnit := List.mem_append_left _ (List.mem_of_getElem? (i := 9) rfl)
  have k_8 := hts _ m_8
  have m_9 : (.selects RX9 yX9_is yX9_is : Cond) ∈ zw_r_behindUnit := List.mem_append_left _ (List.mem_of_getElem? (i := 10) rfl)
  have k_9 := hts _ m_9
  have m_10 : (.methodLink RX9 271 yX9_must : Cond) ∈ zw_r_behindUnit := List.mem_append_left _ (List.mem_of_getElem? (i := 11) rfl)
  have k_10 := hts _ m_10
  have m_11 : (.instanceMethod yX9_must : Cond) ∈ zw_r_behindUnit := List.mem_append_left _ (List.mem_of_getElem? (i := 12) rfl)
  have k_11 := hts _ m_11
  have m_12 : (.selects RX9 yX9_must yX9_must : Cond) ∈ zw_r_behindUnit := List.mem_append_left _ (List.mem_of_getElem? (i := 13) rfl)
  have k_12 := hts _ m_12
  have m_13 : (.fieldLink RX9 223 "BowWalkModel" "at" "I" : Cond) ∈ zw_r_behindUnit := List.mem_append_left _ (List.mem_of_getElem? (i := 14) rfl)
  have k_13 := hts _ m_13
  have m_14 : (.methodLink RX9 226 yX9_sign : Cond) ∈ zw_r_behindUnit := List.mem_append_left _ (List.mem_of_getElem? (i := 15) rfl)
  have k_14 := hts _ m_14
  have m_15 : (.instanceMethod yX9_sign : Cond) ∈ zw_r_behindUnit := List.mem_append_left _ (List.mem_of_getElem? (i := 16) rfl)
  have k_15 := hts _ m_15
  have m_16 : (.selects RX9 yX9_sign yX9_sign : Cond) ∈ zw_r_behindUnit := List.mem_append_left _ (List.mem_of_getElem? (i := 17) rfl)
  have k_16 := hts _ m_16
  have m_17 : (.methodLink RX9 345 yX9_pushE : Cond) ∈ zw_r_behindUnit := List.mem_append_left _ (List.mem_of_getElem? (i := 18) rfl)
  have k_17 := hts _ m_17
  have m_18 : (.instanceMethod yX9_pushE : Cond) ∈ zw_r_behindUnit := List.mem_append_left _ (List.mem_of_getElem? (i := 19) rfl)
  have k_18 := hts _ m_18
  have m_19 : (.selects RX9 yX9_pushE yX9_pushE : Cond) ∈ zw_r_behindUnit := List.mem_append_left _ (List.mem_of_getElem? (i := 20) rfl)
  have k_19 := hts _ m_19
  have m_20 : (.methodLink RX9 262 yX9_goOn : Cond) ∈ zw_r_behindUnit := List.mem_append_left _ (List.mem_of_getElem? (i := 21) rfl)
  have k_20 := hts _ m_20
  have m_21 : (.instanceMethod yX9_goOn : Cond) ∈ zw_r_behindUnit := List.mem_append_left _ (List.mem_of_getElem? (i := 22) rfl)
  have k_21 := hts _ m_21
  have m_22 : (.selects RX9 yX9_goOn yX9_goOn : Cond) ∈ zw_r_behindUnit := List.mem_append_left _ (List.mem_of_getElem? (i := 23) rfl)
  have k_22 := hts _ m_22
  have m_23 : (.fieldLink RX9 113 "BowWalkModel" "eSign" "[I" : Cond) ∈ zw_r_behindUnit := List.mem_append_left _ (List.mem_of_getElem? (i := 24) rfl)
  have k_23 := hts _ m_23
  have m_24 : (.methodLink RX9 358 yX9_emit : Cond) ∈ zw_r_behindUnit := List.mem_append_left _ (List.mem_of_getElem? (i := 25) rfl)
  have k_24 := hts _ m_24
  have m_25 : (.instanceMethod yX9_emit : Cond) ∈ zw_r_behindUnit := List.mem_append_left _ (List.mem_of_getElem? (i := 26) rfl)
  have k_25 := hts _ m_25
  have m_26 : (.selects RX9 yX9_emit yX9_emit : Cond) ∈ zw_r_behindUnit := List.mem_append_left _ (List.mem_of_getElem? (i := 27) rfl)
  have k_26 := hts _ m_26
  have m_27 : (.methodLink RX9 364 yX9_isCompared : Cond) ∈ zw_r_behindUnit := List.mem_append_left _ (List.mem_of_getElem? (i := 28) rfl)
  have k_27 := hts _ m_27
  have m_28 : (.instanceMethod yX9_isCompared : Cond) ∈ zw_r_behindUnit := List.mem_append_left _ (List.mem_of_getElem? (i := 29) rfl)
  have k_28 := hts _ m_28
  have m_29 : (.selects RX9 yX9_isCompared yX9_isCompared : Cond) ∈ zw_r_behindUnit := List.mem_append_left _ (List.mem_of_getElem? (i := 30) rfl)
  have k_29 := hts _ m_29
  have m_30 : (.methodLink RX9 265 yX9_misplaced : Cond) ∈ zw_r_behindUnit := List.mem_append_left _ (List.mem_of_getElem? (i := 31) rfl)
  have k_30 := hts _ m_30
  have m_31 : (.instanceMethod yX9_misplaced : Cond) ∈ zw_r_behindUnit := List.mem_append_left _ (List.mem_of_getElem? (i := 32) rfl)
  have k_31 := hts _ m_31
  have m_32 : (.selects RX9 yX9_misplaced yX9_misplaced : Cond) ∈ zw_r_behindUnit := List.mem_append_left _ (List.mem_of_getElem? (i := 33) rfl)
  have k_32 := hts _ m_32
  have g_r_rankHere : ∀ w ∈ zw_r_rankHere, w ∈ zw_r_behindUnit := fun w h => List.mem_append_right _ (List.mem_append_left _ h)
  have g_r_is : ∀ w ∈ zw_r_is, w ∈ zw_r_behindUnit := fun w h => List.mem_append_right _ (List.mem_append_right _ (List.mem_append_left _ h))
  have g_r_must : ∀ w ∈ zw_r_must, w ∈ zw_r_behindUnit := fun w h => List.mem_append_right _ (List.mem_append_right _ (List.mem_append_right _ (List.mem_append_left _ h)))
  have g_r_sign : ∀ w ∈ zw_r_sign, w ∈ zw_r_behindUnit := fun w h => List.mem_append_right _ (List.mem_append_right _ (List.mem_append_right _ (List.mem_append_right _ (List.mem_append_left _ h))))
  have g_r_pushE : ∀ w ∈ zw_r_pushE, w ∈ zw_r_behindUnit := fun w h => List.mem_append_right _ (List.mem_append_right _ (List.mem_append_right _ (List.mem_append_right _ (List.mem_append_right _ (List.mem_append_left _ h)))))
  have g_r_goOn : ∀ w ∈ zw_r_goOn, w ∈ zw_r_behindUnit := fun w h => List.mem_append_right _ (List.mem_append_right _ (List.mem_append_right _ (List.mem_append_right _ (List.mem_append_right _ (List.mem_append_right _ (List.mem_append_left _ h))))))
  have g_r_emit : ∀ w ∈ zw_r_emit, w ∈ zw_r_behindUnit := fun w h => List.mem_append_right _ (List.mem_append_right _ (List.mem_append_right _ (List.mem_append_right _ (List.mem_append_right _ (List.mem_append_right _ (List.mem_append_right _ (List.mem_append_left _ h)))))))
  have g_r_isCompared : ∀ w ∈ zw_r_isCompared, w ∈ zw_r_behindUnit := fun w h => List.mem_append_right _ (List.mem_append_right _ (List.mem_append_right _ (List.mem_append_right _ (List.mem_append_right _ (List.mem_append_right _ (List.mem_append_right _ (List.mem_append_right _ (List.mem_append_left _ h))))))))
  have g_r_misplaced : ∀ w ∈ zw_r_misplaced, w ∈ zw_r_behindUnit := fun w h => List.mem_append_right _ (List.mem_append_right _ (List.mem_append_right _ (List.mem_append_right _ (List.mem_append_right _ (List.mem_append_right _ (List.mem_append_right _ (List.mem_append_right _ (List.mem_append_right _ (List.mem_append_left _ h)))))))))
  have i_X9 : ∀ w ∈ u_ws RX9 TX9 81, w ∈ zw_r_behindUnit := fun w h => List.mem_append_right _ (List.mem_append_right _ (List.mem_append_right _ (List.mem_append_right _ (List.mem_append_right _ (List.mem_append_right _ (List.mem_append_right _ (List.mem_append_right _ (List.mem_append_right _ (List.mem_append_right _ (List.mem_append_left _ h))))))))))
  have lt_0 : (0 : Int32).toInt = 0 := by decide
  have lt_1 : (1 : Int32).toInt = 1 := by decide
  have lt_2 : (2 : Int32).toInt = 2 := by decide
  have lt_3 : (3 : Int32).toInt = 3 := by decide
  have lt_4 : (4 : Int32).toInt = 4 := by decide
  have lt_6 : (6 : Int32).toInt = 6 := by decide
  have lt_7 : (7 : Int32).toInt = 7 := by decide
  have lt_38 : (38 : Int32).toInt = 38 := by decide
  have lt_41 : (41 : Int32).toInt = 41 := by decide
  have lt_124 : (124 : Int32).toInt = 124 := by decide
  have hl := lv_entry ([.ref p0]) (n := 2) (Nat.le_of_ble_eq_true rfl)
  rw [lg_entry_eq]
  generalize (lg_sl ([.ref p0]) ++ List.replicate (2 - (lg_sl ([.ref p0])).length) Slot.unset).toArray = ls at hl ⊢
  have hl : lv_has ls 2 [(0, .ref p0)] := hl
  have tat0 := (OKX9_g6 ho_p0).use pf_at0
  have ten := (OKX9_g7 ho_p0).use pf_en
  have ttk := (OKX9_g8 ho_p0).use pf_tk
  have tsz := (OKX9_g3 ho_p0).use pf_sz
  have tfk := (OKX9_g4 ho_p0).use pf_fk
  have trb := (OKX9_g44 ho_p0).use pf_rb
  have hbd := hEI.bd
  refine lv_aload_n hx hb dX9_behindUnit_0 rfl (lv_at hl 0 rfl) ?_
  refine q_cVi (As := []) (rest := []) q_w0 trivial hK hP hDa za_r_behindUnit hS hA [0, 5] [4] (by decide +kernel) ⟨hx, hb, hml, hown, hts⟩ (r_rankHere l dC dI s.heap.size p0 f_p0 p0_text c_p0_text b_p0_text tk at0 sz ho_p0 fr_p0_1 pf_tk pf_at0 pf_sz) rfl rfl (cwV 0 hts (p1_gV m_0 m_1 m_2 m_3 g_r_rankHere gz_r_rankHere) rfl rfl rfl (by decide +kernel) ⟨by decide, by decide⟩) (va_recv hK hP (ci := 8) (q0 := 0) rfl rfl) zm_r_rankHere rfl hl.1 rfl (Nat.le_of_ble_eq_true rfl) dX9_behindUnit_1 ⟨by decide, by decide⟩ (fun r_1 H2 lo2 hG2 hS2 => ?_)
  obtain ⟨z_3, hQ2⟩ := hG2
  have hP2 : va_P (dC, dI) vwCl (zW_r_behindUnit p0 f_p0 p0_code c_p0_code b_p0_code p0_codeNumber c_p0_codeNumber b_p0_codeNumber p0_eSign c_p0_eSign b_p0_eSign p0_eWhat c_p0_eWhat b_p0_eWhat p0_text c_p0_text b_p0_text) H2 := hQ2
  clear hQ2 hP hS
  refine lv_istore_n (lv' := [(1, .int r_1), (0, .ref p0)]) hx hb dX9_behindUnit_4 rfl hl (by decide) rfl (fun ls hl => ?_)
  refine lv_iload_n hx hb dX9_behindUnit_5 rfl (lv_at hl 0 rfl) (lv_iconst (v := 4) hx hb dX9_behindUnit_6 (by decide) ?_)
  refine lv_icmp_ne (tgt := 23) hx hb dX9_behindUnit_7 (by decide) (fun c_4 => ?_) (fun c_4 => ?_)
  · have tc_4 := q_ne c_4
    have key23 : ∀ (fu23 : Nat) (fz_p0 : List Value) (cov : Int32) (wiv : Int32) (piv : Int32) (bz_p0_code : Nat → Int32) (bz_p0_codeNumber : Nat → Int32) (H : Heap) (locs : List Loc) (ls : Array Slot) (hfu23 : piv.toInt ≤ (fu23 : Int)) (ho_fz_p0 : OKX9 fz_p0) (hf_fz_p0 : q_fr [4, 5, 6, 7, 8, 9, 10, 45, 47, 48] f_p0 fz_p0) (fr_fz_p0_1 : fz_p0[1]? = some (.ref p0_text)) (fh_fz_p0_3 : fz_p0[3]? = some (.int sz)) (fh_fz_p0_4 : fz_p0[4]? = some (.int fk)) (fh_fz_p0_6 : fz_p0[6]? = some (.int at0)) (fh_fz_p0_7 : fz_p0[7]? = some (.int en)) (fh_fz_p0_8 : fz_p0[8]? = some (.int tk)) (fr_fz_p0_38 : fz_p0[38]? = some (.ref p0_code)) (fr_fz_p0_39 : fz_p0[39]? = some (.ref p0_codeNumber)) (fr_fz_p0_40 : fz_p0[40]? = some (.ref p0_eWhat)) (fr_fz_p0_41 : fz_p0[41]? = some (.ref p0_eSign)) (fh_fz_p0_44 : fz_p0[44]? = some (.int rb)) (fv_fz_p0_45 : fz_p0[45]? = some (.int cov)) (tcov : (0) ≤ cov.toInt ∧ cov.toInt ≤ 1800) (fh_fz_p0_46 : fz_p0[46]? = some (.int un)) (fv_fz_p0_47 : fz_p0[47]? = some (.int wiv)) (twiv : (0) ≤ wiv.toInt ∧ wiv.toInt ≤ 7) (fv_fz_p0_48 : fz_p0[48]? = some (.int piv)) (tpiv : (0) ≤ piv.toInt ∧ piv.toInt ≤ 119) (hq23_0 : q_EI 1 piv.toInt.toNat rb.toInt cov.toInt un.toInt wiv.toInt lo9 b_p0_eWhat b_p0_eSign bz_p0_code) (hq23_1 : q_offc lo9 rb b_p0_code bz_p0_code) (hq23_2 : 1 ≤ piv.toInt ∧ piv.toInt ≤ pi.toInt), va_P (dC, dI) vwCl (zW_r_behindUnit p0 fz_p0 p0_code c_p0_code bz_p0_code p0_codeNumber c_p0_codeNumber bz_p0_codeNumber p0_eSign c_p0_eSign b_p0_eSign p0_eWhat c_p0_eWhat b_p0_eWhat p0_text c_p0_text b_p0_text) H → va_S A s.heap H locs → lv_has ls 2 [(1, .int r_1), (0, .ref p0)] → W p l e (headSpec zw_r_behindUnit { frames := 3, cells := 0, slots := 0, locals := 65 }).room s m ([.ref p0] : List Value).toArray below meth c H locs 0 0 (MQ below (q_Qi (dC, dI) (zG_r_behindUnit p0 f_p0 p0_code c_p0_code b_p0_code p0_codeNumber c_p0_codeNumber b_p0_codeNumber p0_eSign c_p0_eSign b_p0_eSign p0_eWhat c_p0_eWhat b_p0_eWhat p0_text c_p0_text b_p0_text at0 en tk sz fk co un wi pi rb lo9) (zA_r_behindUnit p0 p0_code p0_codeNumber p0_eSign p0_eWhat p0_text) A) ([.ref p0] : List Value).toArray s 0 0 A) (F0 m 23 ls []) := by
      intro fu23
      induction fu23 using Nat.strongRecOn with
      | ind fu23 ih23 =>
        intro fz_p0 cov wiv piv bz_p0_code bz_p0_codeNumber H5 lo5 ls hfu23 ho_fz_p0 hf_fz_p0 fr_fz_p0_1 fh_fz_p0_3 fh_fz_p0_4 fh_fz_p0_6 fh_fz_p0_7 fh_fz_p0_8 fr_fz_p0_38 fr_fz_p0_39 fr_fz_p0_40 fr_fz_p0_41 fh_fz_p0_44 fv_fz_p0_45 tcov fh_fz_p0_46 fv_fz_p0_47 twiv fv_fz_p0_48 tpiv hq23_0 hq23_1 hq23_2 hP5 hS5 hl
        have hbd23 := hq23_0.bd
        have hdone := hq23_0.2.2.2.2.2.2.2.2.2.2.2.2.2.1
        refine lv_aload_n hx hb dX9_behindUnit_23 rfl (lv_at hl 1 rfl) (qg_X9_40 hx hb hts i_X9 hown hK hP5 0 rfl k_4 fr_fz_p0_40 dX9_behindUnit_24 (lv_aload_n hx hb dX9_behindUnit_27 rfl (lv_at hl 1 rfl) (qg_X9_48 hx hb hts i_X9 hown hK hP5 0 rfl k_5 fv_fz_p0_48 dX9_behindUnit_28 (lv_iconst (v := 1) hx hb dX9_behindUnit_31 (by decide) (lv_isub hx hb dX9_behindUnit_32 (lv_topi fun v_6 ev_6 => ?_))))))
        have tv_6 := q_sub ev_6 (by omega) (by omega)
        refine q_ild hx hb hK hP5 4 3 rfl rfl (q_in (by omega) (by omega)) dX9_behindUnit_33 (fun v_7 ev_7 => ?_)
        have kv_7 := q_ix (n := (piv.toInt - 1).toNat) ev_7 (by omega) (by omega)
        have uv_7 : v_7.toInt = (b_p0_eWhat (piv.toInt - 1).toNat).toInt := by rw [kv_7]
        have htopv_7 := (q_EI.cast hq23_0 (p' := (piv.toInt - 1).toNat + 1) (by omega) rfl rfl rfl).top kv_7
        refine lv_bipush (v := 6) hx hb dX9_behindUnit_34 (by decide) ?_
        refine lv_icmp_gt (tgt := 104) hx hb dX9_behindUnit_36 (by decide) (fun c_8 => ?_) (fun c_8 => ?_)
        · have tc_8 := q_gt c_8
          refine lv_iload_n hx hb dX9_behindUnit_104 rfl (lv_at hl 0 rfl) ?_
          refine lv_if_le (tgt := 147) hx hb dX9_behindUnit_105 (by decide) (fun c_9 => ?_) (fun c_9 => ?_)
          · have tc_9 := q_le c_9
            refine lv_aload_n hx hb dX9_behindUnit_147 rfl (lv_at hl 1 rfl) (lv_dup hx hb dX9_behindUnit_148 rfl (qg_X9_48 hx hb hts i_X9 hown hK hP5 0 rfl k_5 fv_fz_p0_48 dX9_behindUnit_149 (lv_iconst (v := 1) hx hb dX9_behindUnit_152 (by decide) (lv_isub hx hb dX9_behindUnit_153 (lv_topi fun v_10 ev_10 => ?_)))))
            have tv_10 := q_sub ev_10 (by omega) (by omega)
            refine qp_X9_48 hx hb hts i_X9 hown hK hP5 hDa za_r_behindUnit hS5 0 rfl k_5 (OKX9_l ho_fz_p0) dX9_behindUnit_154 (fun H11 lo11 fs11 efs11 (hP11 : va_P (dC, dI) vwCl (zW_r_behindUnit p0 fs11 p0_code c_p0_code bz_p0_code p0_codeNumber c_p0_codeNumber bz_p0_codeNumber p0_eSign c_p0_eSign b_p0_eSign p0_eWhat c_p0_eWhat b_p0_eWhat p0_text c_p0_text b_p0_text) H11) hS11 => ?_)
            have ho11 := OKX9_p48 ho_fz_p0 efs11
            clear hP5 hS5
            refine lv_aload_n hx hb dX9_behindUnit_157 rfl (lv_at hl 1 rfl) (qg_X9_40 hx hb hts i_X9 hown hK hP11 0 rfl k_4 (q_sn efs11 (by decide) fr_fz_p0_40) dX9_behindUnit_158 (lv_aload_n hx hb dX9_behindUnit_161 rfl (lv_at hl 1 rfl) (qg_X9_48 hx hb hts i_X9 hown hK hP11 0 rfl k_5 (q_sa efs11 (OKX9_l ho_fz_p0) (by decide)) dX9_behindUnit_162 (q_ild hx hb hK hP11 4 3 rfl rfl (q_in (by omega) (by omega)) dX9_behindUnit_165 (fun v_12 ev_12 => ?_)))))
            have kv_12 := q_ix (n := (piv.toInt - 1).toNat) ev_12 (by omega) (by omega)
            have uv_12 : v_12.toInt = (b_p0_eWhat (piv.toInt - 1).toNat).toInt := by rw [kv_12]
            have htopv_12 := (q_EI.cast hq23_0 (p' := (piv.toInt - 1).toNat + 1) (by omega) rfl rfl rfl).top kv_12
            refine lv_bipush (v := 7) hx hb dX9_behindUnit_166 (by decide) ?_
            refine lv_icmp_ne (tgt := 191) hx hb dX9_behindUnit_168 (by decide) (fun c_13 => ?_) (fun c_13 => ?_)
            · have tc_13 := q_ne c_13
              refine lv_iconst (v := 0) hx hb dX9_behindUnit_191 (by decide) ?_
              exact q_zret hx hb hr hlocks (by decide) hS11 dX9_behindUnit_192 ⟨fs11, bz_p0_code, bz_p0_codeNumber, b_p0_eSign, b_p0_eWhat, at0, en, tk, fk, cov, un, wiv, v_10, (Or.inr ⟨rfl, by omega, Or.inr ⟨by omega, (q_EI.cast hq23_0 (p' := 1) (by omega) rfl rfl rfl).done.1, by omega, by omega⟩⟩), ho11, (hf_fz_p0.st efs11 (by decide)), (q_sn efs11 (by decide) fh_fz_p0_6), (q_sn efs11 (by decide) fh_fz_p0_7), (q_sn efs11 (by decide) fh_fz_p0_8), (q_sn efs11 (by decide) fh_fz_p0_4), (q_sn efs11 (by decide) fv_fz_p0_45), (q_sn efs11 (by decide) fh_fz_p0_46), (q_sn efs11 (by decide) fv_fz_p0_47), (q_sa efs11 (OKX9_l ho_fz_p0) (by decide)), (by omega), (by omega), (by omega), hq23_1, (by omega), (by omega), hP11, za_r_behindUnit⟩
            · have tc_13 := q_eqN c_13
              refine lv_aload_n hx hb dX9_behindUnit_171 rfl (lv_at hl 1 rfl) (lv_dup hx hb dX9_behindUnit_172 rfl (qg_X9_47 hx hb hts i_X9 hown hK hP11 0 rfl k_6 (q_sn efs11 (by decide) fv_fz_p0_47) dX9_behindUnit_173 (lv_iconst (v := 1) hx hb dX9_behindUnit_176 (by decide) (lv_isub hx hb dX9_behindUnit_177 (lv_topi fun v_14 ev_14 => ?_)))))
              have tv_14 := q_sub ev_14 (by omega) (by omega)
              refine qp_X9_47 hx hb hts i_X9 hown hK hP11 hDa za_r_behindUnit hS11 0 rfl k_6 (OKX9_l ho11) dX9_behindUnit_178 (fun H15 lo15 fs15 efs15 (hP15 : va_P (dC, dI) vwCl (zW_r_behindUnit p0 fs15 p0_code c_p0_code bz_p0_code p0_codeNumber c_p0_codeNumber bz_p0_codeNumber p0_eSign c_p0_eSign b_p0_eSign p0_eWhat c_p0_eWhat b_p0_eWhat p0_text c_p0_text b_p0_text) H15) hS15 => ?_)
              have ho15 := OKX9_p47 ho11 efs15
              clear hP11 hS11
              refine lv_aload_n hx hb dX9_behindUnit_181 rfl (lv_at hl 1 rfl) (lv_aload_n hx hb dX9_behindUnit_182 rfl (lv_at hl 1 rfl) (lv_bipush (v := 41) hx hb dX9_behindUnit_183 (by decide) ?_))
              refine q_cVi (As := [.int 41]) (rest := [.ref p0]) q_w0 trivial hK hP15 hDa za_r_behindUnit hS15 hA [0, 5] [4] (by decide +kernel) ⟨hx, hb, hml, hown, hts⟩ (r_is l dC dI H15.size p0 fs15 p0_text c_p0_text b_p0_text 41 tk at0 sz ho15 ((q_sn efs15 (by decide) (q_sn efs11 (by decide) fr_fz_p0_1))) ((q_sn efs15 (by decide) (q_sn efs11 (by decide) fh_fz_p0_8))) ((q_sn efs15 (by decide) (q_sn efs11 (by decide) fh_fz_p0_6))) ((q_sn efs15 (by decide) (q_sn efs11 (by decide) fh_fz_p0_3)))) rfl rfl (cwV 1 hts (p1_gV m_7 m_8 m_9 m_3 g_r_is gz_r_is) rfl rfl rfl (by decide +kernel) ⟨by decide, by decide⟩) (va_recv hK hP15 (ci := 8) (q0 := 0) rfl rfl) zm_r_is rfl hl.1 rfl (Nat.le_of_ble_eq_true rfl) dX9_behindUnit_185 ⟨by decide, by decide⟩ (fun r_16 H17 lo17 hG17 hS17 => ?_)
              obtain ⟨z_18, hQ17⟩ := hG17
              have hP17 : va_P (dC, dI) vwCl (zW_r_behindUnit p0 fs15 p0_code c_p0_code bz_p0_code p0_codeNumber c_p0_codeNumber bz_p0_codeNumber p0_eSign c_p0_eSign b_p0_eSign p0_eWhat c_p0_eWhat b_p0_eWhat p0_text c_p0_text b_p0_text) H17 := hQ17
              clear hQ17 hP15 hS15
              rcases z_18 with ⟨rfl, z_18⟩ | ⟨rfl, z_18⟩
              · refine q_cVv (As := [.int 1]) (rest := []) q_w0 trivial hK hP17 hDa za_r_behindUnit hS17 hA [0, 5] [4] (by decide +kernel) ⟨hx, hb, hml, hown, hts⟩ (r_must l dC dI H17.size p0 fs15 p0_text c_p0_text b_p0_text 1 at0 en tk sz fk ho15 ((q_sn efs15 (by decide) (q_sn efs11 (by decide) fr_fz_p0_1))) ((q_sn efs15 (by decide) (q_sn efs11 (by decide) fh_fz_p0_6))) ((q_sn efs15 (by decide) (q_sn efs11 (by decide) fh_fz_p0_7))) ((q_sn efs15 (by decide) (q_sn efs11 (by decide) fh_fz_p0_8))) ((q_sn efs15 (by decide) (q_sn efs11 (by decide) fh_fz_p0_3))) ((q_sn efs15 (by decide) (q_sn efs11 (by decide) fh_fz_p0_4))) ((by omega))) rfl rfl (cwV 1 hts (p1_gV m_10 m_11 m_12 m_3 g_r_must gz_r_must) rfl rfl rfl (by decide +kernel) ⟨by decide, by decide⟩) (va_recv hK hP17 (ci := 8) (q0 := 0) rfl rfl) zm_r_must rfl hl.1 rfl (Nat.le_of_ble_eq_true rfl) dX9_behindUnit_188 ⟨by decide, by decide⟩ (fun H20 lo20 hG20 hS20 => ?_)
                obtain ⟨o_21, o_22, o_23, o_24, o_25, ho_26, hf_27, z_28, z_29, z_30, z_31, z_32, z_33, hQ20⟩ := hG20
                have to_22 := (OKX9_g6 ho_26).use z_28
                have to_23 := (OKX9_g7 ho_26).use z_29
                have to_24 := (OKX9_g8 ho_26).use z_30
                have to_25 := (OKX9_g4 ho_26).use z_31
                have hP20 : va_P (dC, dI) vwCl (zW_r_behindUnit p0 o_21 p0_code c_p0_code bz_p0_code p0_codeNumber c_p0_codeNumber bz_p0_codeNumber p0_eSign c_p0_eSign b_p0_eSign p0_eWhat c_p0_eWhat b_p0_eWhat p0_text c_p0_text b_p0_text) H20 := hQ20
                clear hQ20 hP17 hS17
                refine lv_iconst (v := 0) hx hb dX9_behindUnit_191 (by decide) ?_
                exact q_zret hx hb hr hlocks (by decide) hS20 dX9_behindUnit_192 ⟨o_21, bz_p0_code, bz_p0_codeNumber, b_p0_eSign, b_p0_eWhat, o_22, o_23, o_24, o_25, cov, un, v_14, v_10, (Or.inr ⟨rfl, by omega, Or.inl ⟨by omega, q_EI.cast (q_EI.drop (p := (piv.toInt - 1).toNat) (wi' := v_14.toInt) (q_EI.cast hq23_0 (by omega) rfl rfl rfl) (by omega) kv_12 (by omega) (by omega)) (by omega) (by omega) (by omega) rfl⟩⟩), ho_26, (((hf_fz_p0.st efs11 (by decide)).st efs15 (by decide)).tr hf_27 (by decide)), z_28, z_29, z_30, z_31, (hf_27.u (by decide) (q_sn efs15 (by decide) (q_sn efs11 (by decide) fv_fz_p0_45))), (hf_27.u (by decide) (q_sn efs15 (by decide) (q_sn efs11 (by decide) fh_fz_p0_46))), (hf_27.u (by decide) (q_sa efs15 (OKX9_l ho11) (by decide))), (hf_27.u (by decide) (q_sn efs15 (by decide) (q_sa efs11 (OKX9_l ho_fz_p0) (by decide)))), (by omega), (by omega), (by omega), hq23_1, (by omega), (by omega), hP20, za_r_behindUnit⟩
              · refine q_cVv (As := [.int 0]) (rest := []) q_w0 trivial hK hP17 hDa za_r_behindUnit hS17 hA [0, 5] [4] (by decide +kernel) ⟨hx, hb, hml, hown, hts⟩ (r_must l dC dI H17.size p0 fs15 p0_text c_p0_text b_p0_text 0 at0 en tk sz fk ho15 ((q_sn efs15 (by decide) (q_sn efs11 (by decide) fr_fz_p0_1))) ((q_sn efs15 (by decide) (q_sn efs11 (by decide) fh_fz_p0_6))) ((q_sn efs15 (by decide) (q_sn efs11 (by decide) fh_fz_p0_7))) ((q_sn efs15 (by decide) (q_sn efs11 (by decide) fh_fz_p0_8))) ((q_sn efs15 (by decide) (q_sn efs11 (by decide) fh_fz_p0_3))) ((q_sn efs15 (by decide) (q_sn efs11 (by decide) fh_fz_p0_4))) ((by omega))) rfl rfl (cwV 1 hts (p1_gV m_10 m_11 m_12 m_3 g_r_must gz_r_must) rfl rfl rfl (by decide +kernel) ⟨by decide, by decide⟩) (va_recv hK hP17 (ci := 8) (q0 := 0) rfl rfl) zm_r_must rfl hl.1 rfl (Nat.le_of_ble_eq_true rfl) dX9_behindUnit_188 ⟨by decide, by decide⟩ (fun H35 lo35 hG35 hS35 => ?_)
                obtain ⟨o_36, o_37, o_38, o_39, o_40, ho_41, hf_42, z_43, z_44, z_45, z_46, z_47, z_48, hQ35⟩ := hG35
                have to_37 := (OKX9_g6 ho_41).use z_43
                have to_38 := (OKX9_g7 ho_41).use z_44
                have to_39 := (OKX9_g8 ho_41).use z_45
                have to_40 := (OKX9_g4 ho_41).use z_46
                have hP35 : va_P (dC, dI) vwCl (zW_r_behindUnit p0 o_36 p0_code c_p0_code bz_p0_code p0_codeNumber c_p0_codeNumber bz_p0_codeNumber p0_eSign c_p0_eSign b_p0_eSign p0_eWhat c_p0_eWhat b_p0_eWhat p0_text c_p0_text b_p0_text) H35 := hQ35
                clear hQ35 hP17 hS17
                refine lv_iconst (v := 0) hx hb dX9_behindUnit_191 (by decide) ?_
                exact q_zret hx hb hr hlocks (by decide) hS35 dX9_behindUnit_192 ⟨o_36, bz_p0_code, bz_p0_codeNumber, b_p0_eSign, b_p0_eWhat, o_37, o_38, o_39, o_40, cov, un, v_14, v_10, (Or.inr ⟨rfl, by omega, Or.inl ⟨by omega, q_EI.cast (q_EI.drop (p := (piv.toInt - 1).toNat) (wi' := v_14.toInt) (q_EI.cast hq23_0 (by omega) rfl rfl rfl) (by omega) kv_12 (by omega) (by omega)) (by omega) (by omega) (by omega) rfl⟩⟩), ho_41, (((hf_fz_p0.st efs11 (by decide)).st efs15 (by decide)).tr hf_42 (by decide)), z_43, z_44, z_45, z_46, (hf_42.u (by decide) (q_sn efs15 (by decide) (q_sn efs11 (by decide) fv_fz_p0_45))), (hf_42.u (by decide) (q_sn efs15 (by decide) (q_sn efs11 (by decide) fh_fz_p0_46))), (hf_42.u (by decide) (q_sa efs15 (OKX9_l ho11) (by decide))), (hf_42.u (by decide) (q_sn efs15 (by decide) (q_sa efs11 (OKX9_l ho_fz_p0) (by decide)))), (by omega), (by omega), (by omega), hq23_1, (by omega), (by omega), hP35, za_r_behindUnit⟩
          · have tc_9 := q_gtN c_9
            refine lv_aload_n hx hb dX9_behindUnit_108 rfl (lv_at hl 1 rfl) (lv_iload_n hx hb dX9_behindUnit_109 rfl (lv_at hl 0 rfl) (lv_iload_n hx hb dX9_behindUnit_110 rfl (lv_at hl 0 rfl) (lv_iconst (v := 2) hx hb dX9_behindUnit_111 (by decide) ?_)))
            refine lv_icmp_ne (tgt := 120) hx hb dX9_behindUnit_112 (by decide) (fun c_49 => ?_) (fun c_49 => ?_)
            · have tc_49 := q_ne c_49
              refine lv_iload_n hx hb dX9_behindUnit_120 rfl (lv_at hl 0 rfl) (lv_iconst (v := 1) hx hb dX9_behindUnit_121 (by decide) ?_)
              refine lv_icmp_ne (tgt := 130) hx hb dX9_behindUnit_122 (by decide) (fun c_50 => ?_) (fun c_50 => ?_)
              · have tc_50 := q_ne c_50
                refine lv_aload_n hx hb dX9_behindUnit_130 rfl (lv_at hl 1 rfl) (lv_aload_n hx hb dX9_behindUnit_131 rfl (lv_at hl 1 rfl) (qg_X9_6 hx hb hts i_X9 hown hK hP5 0 rfl k_13 fh_fz_p0_6 dX9_behindUnit_132 ?_))
                refine q_cVi (As := [.int at0]) (rest := [.int r_1, .ref p0]) q_w0 trivial hK hP5 hDa za_r_behindUnit hS5 hA [0, 5] [4] (by decide +kernel) ⟨hx, hb, hml, hown, hts⟩ (r_sign l dC dI H5.size p0 fz_p0 p0_text c_p0_text b_p0_text at0 sz ho_fz_p0 fr_fz_p0_1 fh_fz_p0_3 ((by omega))) rfl rfl (cwV 1 hts (p1_gV m_14 m_15 m_16 m_3 g_r_sign gz_r_sign) rfl rfl rfl (by decide +kernel) ⟨by decide, by decide⟩) (va_recv hK hP5 (ci := 8) (q0 := 0) rfl rfl) zm_r_sign rfl hl.1 rfl (Nat.le_of_ble_eq_true rfl) dX9_behindUnit_135 ⟨by decide, by decide⟩ (fun r_51 H52 lo52 hG52 hS52 => ?_)
                obtain ⟨z_53, hQ52⟩ := hG52
                have hP52 : va_P (dC, dI) vwCl (zW_r_behindUnit p0 fz_p0 p0_code c_p0_code bz_p0_code p0_codeNumber c_p0_codeNumber bz_p0_codeNumber p0_eSign c_p0_eSign b_p0_eSign p0_eWhat c_p0_eWhat b_p0_eWhat p0_text c_p0_text b_p0_text) H52 := hQ52
                clear hQ52 hP5 hS5
                refine q_cVv (As := [.int r_1, .int r_51]) (rest := []) q_w0 trivial hK hP52 hDa za_r_behindUnit hS52 hA [0, 3, 4] [2, 3] (by decide +kernel) ⟨hx, hb, hml, hown, hts⟩ (r_pushE l dC dI H52.size p0 fz_p0 p0_eSign c_p0_eSign b_p0_eSign p0_eWhat c_p0_eWhat b_p0_eWhat r_1 r_51 piv ho_fz_p0 fr_fz_p0_40 fr_fz_p0_41 fv_fz_p0_48 ((by omega))) rfl rfl (cwV 2 hts (p1_gV m_17 m_18 m_19 m_3 g_r_pushE gz_r_pushE) rfl rfl rfl (by decide +kernel) ⟨by decide, by decide⟩) (va_recv hK hP52 (ci := 8) (q0 := 0) rfl rfl) zm_r_pushE rfl hl.1 rfl (Nat.le_of_ble_eq_true rfl) dX9_behindUnit_138 ⟨by decide, by decide⟩ (fun H55 lo55 hG55 hS55 => ?_)
                obtain ⟨o_56, o_57, o_58, o_59, ho_60, hf_61, z_62, z_63, z_64, z_65, hQ55⟩ := hG55
                have hP55 : va_P (dC, dI) vwCl (zW_r_behindUnit p0 o_56 p0_code c_p0_code bz_p0_code p0_codeNumber c_p0_codeNumber bz_p0_codeNumber p0_eSign c_p0_eSign o_57 p0_eWhat c_p0_eWhat o_58 p0_text c_p0_text b_p0_text) H55 := hQ55
                clear hQ55 hP52 hS52
                refine lv_aload_n hx hb dX9_behindUnit_141 rfl (lv_at hl 1 rfl) ?_
                refine q_cVv (As := []) (rest := []) q_w0 trivial hK hP55 hDa za_r_behindUnit hS55 hA [0, 5] [4] (by decide +kernel) ⟨hx, hb, hml, hown, hts⟩ (r_goOn l dC dI H55.size p0 o_56 p0_text c_p0_text b_p0_text at0 en tk sz ho_60 ((hf_61.u (by decide) fr_fz_p0_1)) ((hf_61.u (by decide) fh_fz_p0_6)) ((hf_61.u (by decide) fh_fz_p0_7)) ((hf_61.u (by decide) fh_fz_p0_8)) ((hf_61.u (by decide) fh_fz_p0_3)) ((by omega))) rfl rfl (cwV 0 hts (p1_gV m_20 m_21 m_22 m_3 g_r_goOn gz_r_goOn) rfl rfl rfl (by decide +kernel) ⟨by decide, by decide⟩) (va_recv hK hP55 (ci := 8) (q0 := 0) rfl rfl) zm_r_goOn rfl hl.1 rfl (Nat.le_of_ble_eq_true rfl) dX9_behindUnit_142 ⟨by decide, by decide⟩ (fun H67 lo67 hG67 hS67 => ?_)
                obtain ⟨o_68, o_69, o_70, o_71, ho_72, hf_73, z_74, z_75, z_76, z_77, hQ67⟩ := hG67
                have to_69 := (OKX9_g6 ho_72).use z_74
                have to_70 := (OKX9_g7 ho_72).use z_75
                have to_71 := (OKX9_g8 ho_72).use z_76
                have hP67 : va_P (dC, dI) vwCl (zW_r_behindUnit p0 o_68 p0_code c_p0_code bz_p0_code p0_codeNumber c_p0_codeNumber bz_p0_codeNumber p0_eSign c_p0_eSign o_57 p0_eWhat c_p0_eWhat o_58 p0_text c_p0_text b_p0_text) H67 := hQ67
                clear hQ67 hP55 hS55
                refine lv_iconst (v := 1) hx hb dX9_behindUnit_145 (by decide) ?_
                exact q_zret hx hb hr hlocks (by decide) hS67 dX9_behindUnit_146 ⟨o_68, bz_p0_code, bz_p0_codeNumber, o_57, o_58, o_69, o_70, o_71, fk, cov, un, wiv, o_59, (Or.inl ⟨rfl, Or.inr ⟨by omega, q_EI.cast (hq23_0.wait z_64 z_65 (by unfold q_op; omega) (by unfold q_ops; omega)) (by omega) (by omega) (by omega) (by omega)⟩⟩), ho_72, ((hf_fz_p0.tr hf_61 (by decide)).tr hf_73 (by decide)), z_74, z_75, z_76, (hf_73.u (by decide) (hf_61.u (by decide) fh_fz_p0_4)), (hf_73.u (by decide) (hf_61.u (by decide) fv_fz_p0_45)), (hf_73.u (by decide) (hf_61.u (by decide) fh_fz_p0_46)), (hf_73.u (by decide) (hf_61.u (by decide) fv_fz_p0_47)), (hf_73.u (by decide) z_62), (by omega), (by omega), (by omega), hq23_1, (by omega), (by omega), hP67, za_r_behindUnit⟩
              · have tc_50 := q_eqN c_50
                refine lv_bipush (v := 124) hx hb dX9_behindUnit_125 (by decide) (lv_goto (tgt := 138) hx hb dX9_behindUnit_127 (by decide) ?_)
                refine q_cVv (As := [.int r_1, .int 124]) (rest := []) q_w0 trivial hK hP5 hDa za_r_behindUnit hS5 hA [0, 3, 4] [2, 3] (by decide +kernel) ⟨hx, hb, hml, hown, hts⟩ (r_pushE l dC dI H5.size p0 fz_p0 p0_eSign c_p0_eSign b_p0_eSign p0_eWhat c_p0_eWhat b_p0_eWhat r_1 124 piv ho_fz_p0 fr_fz_p0_40 fr_fz_p0_41 fv_fz_p0_48 ((by omega))) rfl rfl (cwV 2 hts (p1_gV m_17 m_18 m_19 m_3 g_r_pushE gz_r_pushE) rfl rfl rfl (by decide +kernel) ⟨by decide, by decide⟩) (va_recv hK hP5 (ci := 8) (q0 := 0) rfl rfl) zm_r_pushE rfl hl.1 rfl (Nat.le_of_ble_eq_true rfl) dX9_behindUnit_138 ⟨by decide, by decide⟩ (fun H79 lo79 hG79 hS79 => ?_)
                obtain ⟨o_80, o_81, o_82, o_83, ho_84, hf_85, z_86, z_87, z_88, z_89, hQ79⟩ := hG79
                have hP79 : va_P (dC, dI) vwCl (zW_r_behindUnit p0 o_80 p0_code c_p0_code bz_p0_code p0_codeNumber c_p0_codeNumber bz_p0_codeNumber p0_eSign c_p0_eSign o_81 p0_eWhat c_p0_eWhat o_82 p0_text c_p0_text b_p0_text) H79 := hQ79
                clear hQ79 hP5 hS5
                refine lv_aload_n hx hb dX9_behindUnit_141 rfl (lv_at hl 1 rfl) ?_
                refine q_cVv (As := []) (rest := []) q_w0 trivial hK hP79 hDa za_r_behindUnit hS79 hA [0, 5] [4] (by decide +kernel) ⟨hx, hb, hml, hown, hts⟩ (r_goOn l dC dI H79.size p0 o_80 p0_text c_p0_text b_p0_text at0 en tk sz ho_84 ((hf_85.u (by decide) fr_fz_p0_1)) ((hf_85.u (by decide) fh_fz_p0_6)) ((hf_85.u (by decide) fh_fz_p0_7)) ((hf_85.u (by decide) fh_fz_p0_8)) ((hf_85.u (by decide) fh_fz_p0_3)) ((by omega))) rfl rfl (cwV 0 hts (p1_gV m_20 m_21 m_22 m_3 g_r_goOn gz_r_goOn) rfl rfl rfl (by decide +kernel) ⟨by decide, by decide⟩) (va_recv hK hP79 (ci := 8) (q0 := 0) rfl rfl) zm_r_goOn rfl hl.1 rfl (Nat.le_of_ble_eq_true rfl) dX9_behindUnit_142 ⟨by decide, by decide⟩ (fun H91 lo91 hG91 hS91 => ?_)
                obtain ⟨o_92, o_93, o_94, o_95, ho_96, hf_97, z_98, z_99, z_100, z_101, hQ91⟩ := hG91
                have to_93 := (OKX9_g6 ho_96).use z_98
                have to_94 := (OKX9_g7 ho_96).use z_99
                have to_95 := (OKX9_g8 ho_96).use z_100
                have hP91 : va_P (dC, dI) vwCl (zW_r_behindUnit p0 o_92 p0_code c_p0_code bz_p0_code p0_codeNumber c_p0_codeNumber bz_p0_codeNumber p0_eSign c_p0_eSign o_81 p0_eWhat c_p0_eWhat o_82 p0_text c_p0_text b_p0_text) H91 := hQ91
                clear hQ91 hP79 hS79
                refine lv_iconst (v := 1) hx hb dX9_behindUnit_145 (by decide) ?_
                exact q_zret hx hb hr hlocks (by decide) hS91 dX9_behindUnit_146 ⟨o_92, bz_p0_code, bz_p0_codeNumber, o_81, o_82, o_93, o_94, o_95, fk, cov, un, wiv, o_83, (Or.inl ⟨rfl, Or.inr ⟨by omega, q_EI.cast (hq23_0.wait z_88 z_89 (by unfold q_op; omega) (by unfold q_ops; omega)) (by omega) (by omega) (by omega) (by omega)⟩⟩), ho_96, ((hf_fz_p0.tr hf_85 (by decide)).tr hf_97 (by decide)), z_98, z_99, z_100, (hf_97.u (by decide) (hf_85.u (by decide) fh_fz_p0_4)), (hf_97.u (by decide) (hf_85.u (by decide) fv_fz_p0_45)), (hf_97.u (by decide) (hf_85.u (by decide) fh_fz_p0_46)), (hf_97.u (by decide) (hf_85.u (by decide) fv_fz_p0_47)), (hf_97.u (by decide) z_86), (by omega), (by omega), (by omega), hq23_1, (by omega), (by omega), hP91, za_r_behindUnit⟩
            · have tc_49 := q_eqN c_49
              refine lv_bipush (v := 38) hx hb dX9_behindUnit_115 (by decide) (lv_goto (tgt := 138) hx hb dX9_behindUnit_117 (by decide) ?_)
              refine q_cVv (As := [.int r_1, .int 38]) (rest := []) q_w0 trivial hK hP5 hDa za_r_behindUnit hS5 hA [0, 3, 4] [2, 3] (by decide +kernel) ⟨hx, hb, hml, hown, hts⟩ (r_pushE l dC dI H5.size p0 fz_p0 p0_eSign c_p0_eSign b_p0_eSign p0_eWhat c_p0_eWhat b_p0_eWhat r_1 38 piv ho_fz_p0 fr_fz_p0_40 fr_fz_p0_41 fv_fz_p0_48 ((by omega))) rfl rfl (cwV 2 hts (p1_gV m_17 m_18 m_19 m_3 g_r_pushE gz_r_pushE) rfl rfl rfl (by decide +kernel) ⟨by decide, by decide⟩) (va_recv hK hP5 (ci := 8) (q0 := 0) rfl rfl) zm_r_pushE rfl hl.1 rfl (Nat.le_of_ble_eq_true rfl) dX9_behindUnit_138 ⟨by decide, by decide⟩ (fun H103 lo103 hG103 hS103 => ?_)
              obtain ⟨o_104, o_105, o_106, o_107, ho_108, hf_109, z_110, z_111, z_112, z_113, hQ103⟩ := hG103
              have hP103 : va_P (dC, dI) vwCl (zW_r_behindUnit p0 o_104 p0_code c_p0_code bz_p0_code p0_codeNumber c_p0_codeNumber bz_p0_codeNumber p0_eSign c_p0_eSign o_105 p0_eWhat c_p0_eWhat o_106 p0_text c_p0_text b_p0_text) H103 := hQ103
              clear hQ103 hP5 hS5
              refine lv_aload_n hx hb dX9_behindUnit_141 rfl (lv_at hl 1 rfl) ?_
              refine q_cVv (As := []) (rest := []) q_w0 trivial hK hP103 hDa za_r_behindUnit hS103 hA [0, 5] [4] (by decide +kernel) ⟨hx, hb, hml, hown, hts⟩ (r_goOn l dC dI H103.size p0 o_104 p0_text c_p0_text b_p0_text at0 en tk sz ho_108 ((hf_109.u (by decide) fr_fz_p0_1)) ((hf_109.u (by decide) fh_fz_p0_6)) ((hf_109.u (by decide) fh_fz_p0_7)) ((hf_109.u (by decide) fh_fz_p0_8)) ((hf_109.u (by decide) fh_fz_p0_3)) ((by omega))) rfl rfl (cwV 0 hts (p1_gV m_20 m_21 m_22 m_3 g_r_goOn gz_r_goOn) rfl rfl rfl (by decide +kernel) ⟨by decide, by decide⟩) (va_recv hK hP103 (ci := 8) (q0 := 0) rfl rfl) zm_r_goOn rfl hl.1 rfl (Nat.le_of_ble_eq_true rfl) dX9_behindUnit_142 ⟨by decide, by decide⟩ (fun H115 lo115 hG115 hS115 => ?_)
              obtain ⟨o_116, o_117, o_118, o_119, ho_120, hf_121, z_122, z_123, z_124, z_125, hQ115⟩ := hG115
              have to_117 := (OKX9_g6 ho_120).use z_122
              have to_118 := (OKX9_g7 ho_120).use z_123
              have to_119 := (OKX9_g8 ho_120).use z_124
              have hP115 : va_P (dC, dI) vwCl (zW_r_behindUnit p0 o_116 p0_code c_p0_code bz_p0_code p0_codeNumber c_p0_codeNumber bz_p0_codeNumber p0_eSign c_p0_eSign o_105 p0_eWhat c_p0_eWhat o_106 p0_text c_p0_text b_p0_text) H115 := hQ115
              clear hQ115 hP103 hS103
              refine lv_iconst (v := 1) hx hb dX9_behindUnit_145 (by decide) ?_
              exact q_zret hx hb hr hlocks (by decide) hS115 dX9_behindUnit_146 ⟨o_116, bz_p0_code, bz_p0_codeNumber, o_105, o_106, o_117, o_118, o_119, fk, cov, un, wiv, o_107, (Or.inl ⟨rfl, Or.inr ⟨by omega, q_EI.cast (hq23_0.wait z_112 z_113 (by unfold q_op; omega) (by unfold q_ops; omega)) (by omega) (by omega) (by omega) (by omega)⟩⟩), ho_120, ((hf_fz_p0.tr hf_109 (by decide)).tr hf_121 (by decide)), z_122, z_123, z_124, (hf_121.u (by decide) (hf_109.u (by decide) fh_fz_p0_4)), (hf_121.u (by decide) (hf_109.u (by decide) fv_fz_p0_45)), (hf_121.u (by decide) (hf_109.u (by decide) fh_fz_p0_46)), (hf_121.u (by decide) (hf_109.u (by decide) fv_fz_p0_47)), (hf_121.u (by decide) z_110), (by omega), (by omega), (by omega), hq23_1, (by omega), (by omega), hP115, za_r_behindUnit⟩
        · have tc_8 := q_leN c_8
          refine lv_aload_n hx hb dX9_behindUnit_39 rfl (lv_at hl 1 rfl) (qg_X9_40 hx hb hts i_X9 hown hK hP5 0 rfl k_4 fr_fz_p0_40 dX9_behindUnit_40 (lv_aload_n hx hb dX9_behindUnit_43 rfl (lv_at hl 1 rfl) (qg_X9_48 hx hb hts i_X9 hown hK hP5 0 rfl k_5 fv_fz_p0_48 dX9_behindUnit_44 (lv_iconst (v := 1) hx hb dX9_behindUnit_47 (by decide) (lv_isub hx hb dX9_behindUnit_48 (lv_topi fun v_126 ev_126 => ?_))))))
          have tv_126 := q_sub ev_126 (by omega) (by omega)
          refine q_ild hx hb hK hP5 4 3 rfl rfl (q_in (by omega) (by omega)) dX9_behindUnit_49 (fun v_127 ev_127 => ?_)
          have kv_127 := q_ix (n := (piv.toInt - 1).toNat) ev_127 (by omega) (by omega)
          have uv_127 : v_127.toInt = (b_p0_eWhat (piv.toInt - 1).toNat).toInt := by rw [kv_127]
          have htopv_127 := (q_EI.cast hq23_0 (p' := (piv.toInt - 1).toNat + 1) (by omega) rfl rfl rfl).top kv_127
          refine lv_iload_n hx hb dX9_behindUnit_50 rfl (lv_at hl 0 rfl) ?_
          refine lv_icmp_lt (tgt := 104) hx hb dX9_behindUnit_51 (by decide) (fun c_128 => ?_) (fun c_128 => ?_)
          · have tc_128 := q_lt c_128
            refine lv_iload_n hx hb dX9_behindUnit_104 rfl (lv_at hl 0 rfl) ?_
            refine lv_if_le (tgt := 147) hx hb dX9_behindUnit_105 (by decide) (fun c_129 => ?_) (fun c_129 => ?_)
            · have tc_129 := q_le c_129
              refine lv_aload_n hx hb dX9_behindUnit_147 rfl (lv_at hl 1 rfl) (lv_dup hx hb dX9_behindUnit_148 rfl (qg_X9_48 hx hb hts i_X9 hown hK hP5 0 rfl k_5 fv_fz_p0_48 dX9_behindUnit_149 (lv_iconst (v := 1) hx hb dX9_behindUnit_152 (by decide) (lv_isub hx hb dX9_behindUnit_153 (lv_topi fun v_130 ev_130 => ?_)))))
              have tv_130 := q_sub ev_130 (by omega) (by omega)
              refine qp_X9_48 hx hb hts i_X9 hown hK hP5 hDa za_r_behindUnit hS5 0 rfl k_5 (OKX9_l ho_fz_p0) dX9_behindUnit_154 (fun H131 lo131 fs131 efs131 (hP131 : va_P (dC, dI) vwCl (zW_r_behindUnit p0 fs131 p0_code c_p0_code bz_p0_code p0_codeNumber c_p0_codeNumber bz_p0_codeNumber p0_eSign c_p0_eSign b_p0_eSign p0_eWhat c_p0_eWhat b_p0_eWhat p0_text c_p0_text b_p0_text) H131) hS131 => ?_)
              have ho131 := OKX9_p48 ho_fz_p0 efs131
              clear hP5 hS5
              refine lv_aload_n hx hb dX9_behindUnit_157 rfl (lv_at hl 1 rfl) (qg_X9_40 hx hb hts i_X9 hown hK hP131 0 rfl k_4 (q_sn efs131 (by decide) fr_fz_p0_40) dX9_behindUnit_158 (lv_aload_n hx hb dX9_behindUnit_161 rfl (lv_at hl 1 rfl) (qg_X9_48 hx hb hts i_X9 hown hK hP131 0 rfl k_5 (q_sa efs131 (OKX9_l ho_fz_p0) (by decide)) dX9_behindUnit_162 (q_ild hx hb hK hP131 4 3 rfl rfl (q_in (by omega) (by omega)) dX9_behindUnit_165 (fun v_132 ev_132 => ?_)))))
              have kv_132 := q_ix (n := (piv.toInt - 1).toNat) ev_132 (by omega) (by omega)
              have uv_132 : v_132.toInt = (b_p0_eWhat (piv.toInt - 1).toNat).toInt := by rw [kv_132]
              have htopv_132 := (q_EI.cast hq23_0 (p' := (piv.toInt - 1).toNat + 1) (by omega) rfl rfl rfl).top kv_132
              refine lv_bipush (v := 7) hx hb dX9_behindUnit_166 (by decide) ?_
              refine lv_icmp_ne (tgt := 191) hx hb dX9_behindUnit_168 (by decide) (fun c_133 => ?_) (fun c_133 => ?_)
              · have tc_133 := q_ne c_133
                refine lv_iconst (v := 0) hx hb dX9_behindUnit_191 (by decide) ?_
                exact q_zret hx hb hr hlocks (by decide) hS131 dX9_behindUnit_192 ⟨fs131, bz_p0_code, bz_p0_codeNumber, b_p0_eSign, b_p0_eWhat, at0, en, tk, fk, cov, un, wiv, v_130, (Or.inr ⟨rfl, by omega, Or.inr ⟨by omega, (q_EI.cast hq23_0 (p' := 1) (by omega) rfl rfl rfl).done.1, by omega, by omega⟩⟩), ho131, (hf_fz_p0.st efs131 (by decide)), (q_sn efs131 (by decide) fh_fz_p0_6), (q_sn efs131 (by decide) fh_fz_p0_7), (q_sn efs131 (by decide) fh_fz_p0_8), (q_sn efs131 (by decide) fh_fz_p0_4), (q_sn efs131 (by decide) fv_fz_p0_45), (q_sn efs131 (by decide) fh_fz_p0_46), (q_sn efs131 (by decide) fv_fz_p0_47), (q_sa efs131 (OKX9_l ho_fz_p0) (by decide)), (by omega), (by omega), (by omega), hq23_1, (by omega), (by omega), hP131, za_r_behindUnit⟩
              · have tc_133 := q_eqN c_133
                refine lv_aload_n hx hb dX9_behindUnit_171 rfl (lv_at hl 1 rfl) (lv_dup hx hb dX9_behindUnit_172 rfl (qg_X9_47 hx hb hts i_X9 hown hK hP131 0 rfl k_6 (q_sn efs131 (by decide) fv_fz_p0_47) dX9_behindUnit_173 (lv_iconst (v := 1) hx hb dX9_behindUnit_176 (by decide) (lv_isub hx hb dX9_behindUnit_177 (lv_topi fun v_134 ev_134 => ?_)))))
                have tv_134 := q_sub ev_134 (by omega) (by omega)
                refine qp_X9_47 hx hb hts i_X9 hown hK hP131 hDa za_r_behindUnit hS131 0 rfl k_6 (OKX9_l ho131) dX9_behindUnit_178 (fun H135 lo135 fs135 efs135 (hP135 : va_P (dC, dI) vwCl (zW_r_behindUnit p0 fs135 p0_code c_p0_code bz_p0_code p0_codeNumber c_p0_codeNumber bz_p0_codeNumber p0_eSign c_p0_eSign b_p0_eSign p0_eWhat c_p0_eWhat b_p0_eWhat p0_text c_p0_text b_p0_text) H135) hS135 => ?_)
                have ho135 := OKX9_p47 ho131 efs135
                clear hP131 hS131
                refine lv_aload_n hx hb dX9_behindUnit_181 rfl (lv_at hl 1 rfl) (lv_aload_n hx hb dX9_behindUnit_182 rfl (lv_at hl 1 rfl) (lv_bipush (v := 41) hx hb dX9_behindUnit_183 (by decide) ?_))
                refine q_cVi (As := [.int 41]) (rest := [.ref p0]) q_w0 trivial hK hP135 hDa za_r_behindUnit hS135 hA [0, 5] [4] (by decide +kernel) ⟨hx, hb, hml, hown, hts⟩ (r_is l dC dI H135.size p0 fs135 p0_text c_p0_text b_p0_text 41 tk at0 sz ho135 ((q_sn efs135 (by decide) (q_sn efs131 (by decide) fr_fz_p0_1))) ((q_sn efs135 (by decide) (q_sn efs131 (by decide) fh_fz_p0_8))) ((q_sn efs135 (by decide) (q_sn efs131 (by decide) fh_fz_p0_6))) ((q_sn efs135 (by decide) (q_sn efs131 (by decide) fh_fz_p0_3)))) rfl rfl (cwV 1 hts (p1_gV m_7 m_8 m_9 m_3 g_r_is gz_r_is) rfl rfl rfl (by decide +kernel) ⟨by decide, by decide⟩) (va_recv hK hP135 (ci := 8) (q0 := 0) rfl rfl) zm_r_is rfl hl.1 rfl (Nat.le_of_ble_eq_true rfl) dX9_behindUnit_185 ⟨by decide, by decide⟩ (fun r_136 H137 lo137 hG137 hS137 => ?_)
                obtain ⟨z_138, hQ137⟩ := hG137
                have hP137 : va_P (dC, dI) vwCl (zW_r_behindUnit p0 fs135 p0_code c_p0_code bz_p0_code p0_codeNumber c_p0_codeNumber bz_p0_codeNumber p0_eSign c_p0_eSign b_p0_eSign p0_eWhat c_p0_eWhat b_p0_eWhat p0_text c_p0_text b_p0_text) H137 := hQ137
                clear hQ137 hP135 hS135
                rcases z_138 with ⟨rfl, z_138⟩ | ⟨rfl, z_138⟩
                · refine q_cVv (As := [.int 1]) (rest := []) q_w0 trivial hK hP137 hDa za_r_behindUnit hS137 hA [0, 5] [4] (by decide +kernel) ⟨hx, hb, hml, hown, hts⟩ (r_must l dC dI H137.size p0 fs135 p0_text c_p0_text b_p0_text 1 at0 en tk sz fk ho135 ((q_sn efs135 (by decide) (q_sn efs131 (by decide) fr_fz_p0_1))) ((q_sn efs135 (by decide) (q_sn efs131 (by decide) fh_fz_p0_6))) ((q_sn efs135 (by decide) (q_sn efs131 (by decide) fh_fz_p0_7))) ((q_sn efs135 (by decide) (q_sn efs131 (by decide) fh_fz_p0_8))) ((q_sn efs135 (by decide) (q_sn efs131 (by decide) fh_fz_p0_3))) ((q_sn efs135 (by decide) (q_sn efs131 (by decide) fh_fz_p0_4))) ((by omega))) rfl rfl (cwV 1 hts (p1_gV m_10 m_11 m_12 m_3 g_r_must gz_r_must) rfl rfl rfl (by decide +kernel) ⟨by decide, by decide⟩) (va_recv hK hP137 (ci := 8) (q0 := 0) rfl rfl) zm_r_must rfl hl.1 rfl (Nat.le_of_ble_eq_true rfl) dX9_behindUnit_188 ⟨by decide, by decide⟩ (fun H140 lo140 hG140 hS140 => ?_)
                  obtain ⟨o_141, o_142, o_143, o_144, o_145, ho_146, hf_147, z_148, z_149, z_150, z_151, z_152, z_153, hQ140⟩ := hG140
                  have to_142 := (OKX9_g6 ho_146).use z_148
                  have to_143 := (OKX9_g7 ho_146).use z_149
                  have to_144 := (OKX9_g8 ho_146).use z_150
                  have to_145 := (OKX9_g4 ho_146).use z_151
                  have hP140 : va_P (dC, dI) vwCl (zW_r_behindUnit p0 o_141 p0_code c_p0_code bz_p0_code p0_codeNumber c_p0_codeNumber bz_p0_codeNumber p0_eSign c_p0_eSign b_p0_eSign p0_eWhat c_p0_eWhat b_p0_eWhat p0_text c_p0_text b_p0_text) H140 := hQ140
                  clear hQ140 hP137 hS137
                  refine lv_iconst (v := 0) hx hb dX9_behindUnit_191 (by decide) ?_
                  exact q_zret hx hb hr hlocks (by decide) hS140 dX9_behindUnit_192 ⟨o_141, bz_p0_code, bz_p0_codeNumber, b_p0_eSign, b_p0_eWhat, o_142, o_143, o_144, o_145, cov, un, v_134, v_130, (Or.inr ⟨rfl, by omega, Or.inl ⟨by omega, q_EI.cast (q_EI.drop (p := (piv.toInt - 1).toNat) (wi' := v_134.toInt) (q_EI.cast hq23_0 (by omega) rfl rfl rfl) (by omega) kv_132 (by omega) (by omega)) (by omega) (by omega) (by omega) rfl⟩⟩), ho_146, (((hf_fz_p0.st efs131 (by decide)).st efs135 (by decide)).tr hf_147 (by decide)), z_148, z_149, z_150, z_151, (hf_147.u (by decide) (q_sn efs135 (by decide) (q_sn efs131 (by decide) fv_fz_p0_45))), (hf_147.u (by decide) (q_sn efs135 (by decide) (q_sn efs131 (by decide) fh_fz_p0_46))), (hf_147.u (by decide) (q_sa efs135 (OKX9_l ho131) (by decide))), (hf_147.u (by decide) (q_sn efs135 (by decide) (q_sa efs131 (OKX9_l ho_fz_p0) (by decide)))), (by omega), (by omega), (by omega), hq23_1, (by omega), (by omega), hP140, za_r_behindUnit⟩
                · refine q_cVv (As := [.int 0]) (rest := []) q_w0 trivial hK hP137 hDa za_r_behindUnit hS137 hA [0, 5] [4] (by decide +kernel) ⟨hx, hb, hml, hown, hts⟩ (r_must l dC dI H137.size p0 fs135 p0_text c_p0_text b_p0_text 0 at0 en tk sz fk ho135 ((q_sn efs135 (by decide) (q_sn efs131 (by decide) fr_fz_p0_1))) ((q_sn efs135 (by decide) (q_sn efs131 (by decide) fh_fz_p0_6))) ((q_sn efs135 (by decide) (q_sn efs131 (by decide) fh_fz_p0_7))) ((q_sn efs135 (by decide) (q_sn efs131 (by decide) fh_fz_p0_8))) ((q_sn efs135 (by decide) (q_sn efs131 (by decide) fh_fz_p0_3))) ((q_sn efs135 (by decide) (q_sn efs131 (by decide) fh_fz_p0_4))) ((by omega))) rfl rfl (cwV 1 hts (p1_gV m_10 m_11 m_12 m_3 g_r_must gz_r_must) rfl rfl rfl (by decide +kernel) ⟨by decide, by decide⟩) (va_recv hK hP137 (ci := 8) (q0 := 0) rfl rfl) zm_r_must rfl hl.1 rfl (Nat.le_of_ble_eq_true rfl) dX9_behindUnit_188 ⟨by decide, by decide⟩ (fun H155 lo155 hG155 hS155 => ?_)
                  obtain ⟨o_156, o_157, o_158, o_159, o_160, ho_161, hf_162, z_163, z_164, z_165, z_166, z_167, z_168, hQ155⟩ := hG155
                  have to_157 := (OKX9_g6 ho_161).use z_163
                  have to_158 := (OKX9_g7 ho_161).use z_164
                  have to_159 := (OKX9_g8 ho_161).use z_165
                  have to_160 := (OKX9_g4 ho_161).use z_166
                  have hP155 : va_P (dC, dI) vwCl (zW_r_behindUnit p0 o_156 p0_code c_p0_code bz_p0_code p0_codeNumber c_p0_codeNumber bz_p0_codeNumber p0_eSign c_p0_eSign b_p0_eSign p0_eWhat c_p0_eWhat b_p0_eWhat p0_text c_p0_text b_p0_text) H155 := hQ155
                  clear hQ155 hP137 hS137
                  refine lv_iconst (v := 0) hx hb dX9_behindUnit_191 (by decide) ?_
                  exact q_zret hx hb hr hlocks (by decide) hS155 dX9_behindUnit_192 ⟨o_156, bz_p0_code, bz_p0_codeNumber, b_p0_eSign, b_p0_eWhat, o_157, o_158, o_159, o_160, cov, un, v_134, v_130, (Or.inr ⟨rfl, by omega, Or.inl ⟨by omega, q_EI.cast (q_EI.drop (p := (piv.toInt - 1).toNat) (wi' := v_134.toInt) (q_EI.cast hq23_0 (by omega) rfl rfl rfl) (by omega) kv_132 (by omega) (by omega)) (by omega) (by omega) (by omega) rfl⟩⟩), ho_161, (((hf_fz_p0.st efs131 (by decide)).st efs135 (by decide)).tr hf_162 (by decide)), z_163, z_164, z_165, z_166, (hf_162.u (by decide) (q_sn efs135 (by decide) (q_sn efs131 (by decide) fv_fz_p0_45))), (hf_162.u (by decide) (q_sn efs135 (by decide) (q_sn efs131 (by decide) fh_fz_p0_46))), (hf_162.u (by decide) (q_sa efs135 (OKX9_l ho131) (by decide))), (hf_162.u (by decide) (q_sn efs135 (by decide) (q_sa efs131 (OKX9_l ho_fz_p0) (by decide)))), (by omega), (by omega), (by omega), hq23_1, (by omega), (by omega), hP155, za_r_behindUnit⟩
            · have tc_129 := q_gtN c_129
              refine lv_aload_n hx hb dX9_behindUnit_108 rfl (lv_at hl 1 rfl) (lv_iload_n hx hb dX9_behindUnit_109 rfl (lv_at hl 0 rfl) (lv_iload_n hx hb dX9_behindUnit_110 rfl (lv_at hl 0 rfl) (lv_iconst (v := 2) hx hb dX9_behindUnit_111 (by decide) ?_)))
              refine lv_icmp_ne (tgt := 120) hx hb dX9_behindUnit_112 (by decide) (fun c_169 => ?_) (fun c_169 => ?_)
              · have tc_169 := q_ne c_169
                refine lv_iload_n hx hb dX9_behindUnit_120 rfl (lv_at hl 0 rfl) (lv_iconst (v := 1) hx hb dX9_behindUnit_121 (by decide) ?_)
                refine lv_icmp_ne (tgt := 130) hx hb dX9_behindUnit_122 (by decide) (fun c_170 => ?_) (fun c_170 => ?_)
                · have tc_170 := q_ne c_170
                  refine lv_aload_n hx hb dX9_behindUnit_130 rfl (lv_at hl 1 rfl) (lv_aload_n hx hb dX9_behindUnit_131 rfl (lv_at hl 1 rfl) (qg_X9_6 hx hb hts i_X9 hown hK hP5 0 rfl k_13 fh_fz_p0_6 dX9_behindUnit_132 ?_))
                  refine q_cVi (As := [.int at0]) (rest := [.int r_1, .ref p0]) q_w0 trivial hK hP5 hDa za_r_behindUnit hS5 hA [0, 5] [4] (by decide +kernel) ⟨hx, hb, hml, hown, hts⟩ (r_sign l dC dI H5.size p0 fz_p0 p0_text c_p0_text b_p0_text at0 sz ho_fz_p0 fr_fz_p0_1 fh_fz_p0_3 ((by omega))) rfl rfl (cwV 1 hts (p1_gV m_14 m_15 m_16 m_3 g_r_sign gz_r_sign) rfl rfl rfl (by decide +kernel) ⟨by decide, by decide⟩) (va_recv hK hP5 (ci := 8) (q0 := 0) rfl rfl) zm_r_sign rfl hl.1 rfl (Nat.le_of_ble_eq_true rfl) dX9_behindUnit_135 ⟨by decide, by decide⟩ (fun r_171 H172 lo172 hG172 hS172 => ?_)
                  obtain ⟨z_173, hQ172⟩ := hG172
                  have hP172 : va_P (dC, dI) vwCl (zW_r_behindUnit p0 fz_p0 p0_code c_p0_code bz_p0_code p0_codeNumber c_p0_codeNumber bz_p0_codeNumber p0_eSign c_p0_eSign b_p0_eSign p0_eWhat c_p0_eWhat b_p0_eWhat p0_text c_p0_text b_p0_text) H172 := hQ172
                  clear hQ172 hP5 hS5
                  refine q_cVv (As := [.int r_1, .int r_171]) (rest := []) q_w0 trivial hK hP172 hDa za_r_behindUnit hS172 hA [0, 3, 4] [2, 3] (by decide +kernel) ⟨hx, hb, hml, hown, hts⟩ (r_pushE l dC dI H172.size p0 fz_p0 p0_eSign c_p0_eSign b_p0_eSign p0_eWhat c_p0_eWhat b_p0_eWhat r_1 r_171 piv ho_fz_p0 fr_fz_p0_40 fr_fz_p0_41 fv_fz_p0_48 ((by omega))) rfl rfl (cwV 2 hts (p1_gV m_17 m_18 m_19 m_3 g_r_pushE gz_r_pushE) rfl rfl rfl (by decide +kernel) ⟨by decide, by decide⟩) (va_recv hK hP172 (ci := 8) (q0 := 0) rfl rfl) zm_r_pushE rfl hl.1 rfl (Nat.le_of_ble_eq_true rfl) dX9_behindUnit_138 ⟨by decide, by decide⟩ (fun H175 lo175 hG175 hS175 => ?_)
                  obtain ⟨o_176, o_177, o_178, o_179, ho_180, hf_181, z_182, z_183, z_184, z_185, hQ175⟩ := hG175
                  have hP175 : va_P (dC, dI) vwCl (zW_r_behindUnit p0 o_176 p0_code c_p0_code bz_p0_code p0_codeNumber c_p0_codeNumber bz_p0_codeNumber p0_eSign c_p0_eSign o_177 p0_eWhat c_p0_eWhat o_178 p0_text c_p0_text b_p0_text) H175 := hQ175
                  clear hQ175 hP172 hS172
                  refine lv_aload_n hx hb dX9_behindUnit_141 rfl (lv_at hl 1 rfl) ?_
                  refine q_cVv (As := []) (rest := []) q_w0 trivial hK hP175 hDa za_r_behindUnit hS175 hA [0, 5] [4] (by decide +kernel) ⟨hx, hb, hml, hown, hts⟩ (r_goOn l dC dI H175.size p0 o_176 p0_text c_p0_text b_p0_text at0 en tk sz ho_180 ((hf_181.u (by decide) fr_fz_p0_1)) ((hf_181.u (by decide) fh_fz_p0_6)) ((hf_181.u (by decide) fh_fz_p0_7)) ((hf_181.u (by decide) fh_fz_p0_8)) ((hf_181.u (by decide) fh_fz_p0_3)) ((by omega))) rfl rfl (cwV 0 hts (p1_gV m_20 m_21 m_22 m_3 g_r_goOn gz_r_goOn) rfl rfl rfl (by decide +kernel) ⟨by decide, by decide⟩) (va_recv hK hP175 (ci := 8) (q0 := 0) rfl rfl) zm_r_goOn rfl hl.1 rfl (Nat.le_of_ble_eq_true rfl) dX9_behindUnit_142 ⟨by decide, by decide⟩ (fun H187 lo187 hG187 hS187 => ?_)
                  obtain ⟨o_188, o_189, o_190, o_191, ho_192, hf_193, z_194, z_195, z_196, z_197, hQ187⟩ := hG187
                  have to_189 := (OKX9_g6 ho_192).use z_194
                  have to_190 := (OKX9_g7 ho_192).use z_195
                  have to_191 := (OKX9_g8 ho_192).use z_196
                  have hP187 : va_P (dC, dI) vwCl (zW_r_behindUnit p0 o_188 p0_code c_p0_code bz_p0_code p0_codeNumber c_p0_codeNumber bz_p0_codeNumber p0_eSign c_p0_eSign o_177 p0_eWhat c_p0_eWhat o_178 p0_text c_p0_text b_p0_text) H187 := hQ187
                  clear hQ187 hP175 hS175
                  refine lv_iconst (v := 1) hx hb dX9_behindUnit_145 (by decide) ?_
                  exact q_zret hx hb hr hlocks (by decide) hS187 dX9_behindUnit_146 ⟨o_188, bz_p0_code, bz_p0_codeNumber, o_177, o_178, o_189, o_190, o_191, fk, cov, un, wiv, o_179, (Or.inl ⟨rfl, Or.inr ⟨by omega, q_EI.cast (hq23_0.wait z_184 z_185 (by unfold q_op; omega) (by unfold q_ops; omega)) (by omega) (by omega) (by omega) (by omega)⟩⟩), ho_192, ((hf_fz_p0.tr hf_181 (by decide)).tr hf_193 (by decide)), z_194, z_195, z_196, (hf_193.u (by decide) (hf_181.u (by decide) fh_fz_p0_4)), (hf_193.u (by decide) (hf_181.u (by decide) fv_fz_p0_45)), (hf_193.u (by decide) (hf_181.u (by decide) fh_fz_p0_46)), (hf_193.u (by decide) (hf_181.u (by decide) fv_fz_p0_47)), (hf_193.u (by decide) z_182), (by omega), (by omega), (by omega), hq23_1, (by omega), (by omega), hP187, za_r_behindUnit⟩
                · have tc_170 := q_eqN c_170
                  refine lv_bipush (v := 124) hx hb dX9_behindUnit_125 (by decide) (lv_goto (tgt := 138) hx hb dX9_behindUnit_127 (by decide) ?_)
                  refine q_cVv (As := [.int r_1, .int 124]) (rest := []) q_w0 trivial hK hP5 hDa za_r_behindUnit hS5 hA [0, 3, 4] [2, 3] (by decide +kernel) ⟨hx, hb, hml, hown, hts⟩ (r_pushE l dC dI H5.size p0 fz_p0 p0_eSign c_p0_eSign b_p0_eSign p0_eWhat c_p0_eWhat b_p0_eWhat r_1 124 piv ho_fz_p0 fr_fz_p0_40 fr_fz_p0_41 fv_fz_p0_48 ((by omega))) rfl rfl (cwV 2 hts (p1_gV m_17 m_18 m_19 m_3 g_r_pushE gz_r_pushE) rfl rfl rfl (by decide +kernel) ⟨by decide, by decide⟩) (va_recv hK hP5 (ci := 8) (q0 := 0) rfl rfl) zm_r_pushE rfl hl.1 rfl (Nat.le_of_ble_eq_true rfl) dX9_behindUnit_138 ⟨by decide, by decide⟩ (fun H199 lo199 hG199 hS199 => ?_)
                  obtain ⟨o_200, o_201, o_202, o_203, ho_204, hf_205, z_206, z_207, z_208, z_209, hQ199⟩ := hG199
                  have hP199 : va_P (dC, dI) vwCl (zW_r_behindUnit p0 o_200 p0_code c_p0_code bz_p0_code p0_codeNumber c_p0_codeNumber bz_p0_codeNumber p0_eSign c_p0_eSign o_201 p0_eWhat c_p0_eWhat o_202 p0_text c_p0_text b_p0_text) H199 := hQ199
                  clear hQ199 hP5 hS5
                  refine lv_aload_n hx hb dX9_behindUnit_141 rfl (lv_at hl 1 rfl) ?_
                  refine q_cVv (As := []) (rest := []) q_w0 trivial hK hP199 hDa za_r_behindUnit hS199 hA [0, 5] [4] (by decide +kernel) ⟨hx, hb, hml, hown, hts⟩ (r_goOn l dC dI H199.size p0 o_200 p0_text c_p0_text b_p0_text at0 en tk sz ho_204 ((hf_205.u (by decide) fr_fz_p0_1)) ((hf_205.u (by decide) fh_fz_p0_6)) ((hf_205.u (by decide) fh_fz_p0_7)) ((hf_205.u (by decide) fh_fz_p0_8)) ((hf_205.u (by decide) fh_fz_p0_3)) ((by omega))) rfl rfl (cwV 0 hts (p1_gV m_20 m_21 m_22 m_3 g_r_goOn gz_r_goOn) rfl rfl rfl (by decide +kernel) ⟨by decide, by decide⟩) (va_recv hK hP199 (ci := 8) (q0 := 0) rfl rfl) zm_r_goOn rfl hl.1 rfl (Nat.le_of_ble_eq_true rfl) dX9_behindUnit_142 ⟨by decide, by decide⟩ (fun H211 lo211 hG211 hS211 => ?_)
                  obtain ⟨o_212, o_213, o_214, o_215, ho_216, hf_217, z_218, z_219, z_220, z_221, hQ211⟩ := hG211
                  have to_213 := (OKX9_g6 ho_216).use z_218
                  have to_214 := (OKX9_g7 ho_216).use z_219
                  have to_215 := (OKX9_g8 ho_216).use z_220
                  have hP211 : va_P (dC, dI) vwCl (zW_r_behindUnit p0 o_212 p0_code c_p0_code bz_p0_code p0_codeNumber c_p0_codeNumber bz_p0_codeNumber p0_eSign c_p0_eSign o_201 p0_eWhat c_p0_eWhat o_202 p0_text c_p0_text b_p0_text) H211 := hQ211
                  clear hQ211 hP199 hS199
                  refine lv_iconst (v := 1) hx hb dX9_behindUnit_145 (by decide) ?_
                  exact q_zret hx hb hr hlocks (by decide) hS211 dX9_behindUnit_146 ⟨o_212, bz_p0_code, bz_p0_codeNumber, o_201, o_202, o_213, o_214, o_215, fk, cov, un, wiv, o_203, (Or.inl ⟨rfl, Or.inr ⟨by omega, q_EI.cast (hq23_0.wait z_208 z_209 (by unfold q_op; omega) (by unfold q_ops; omega)) (by omega) (by omega) (by omega) (by omega)⟩⟩), ho_216, ((hf_fz_p0.tr hf_205 (by decide)).tr hf_217 (by decide)), z_218, z_219, z_220, (hf_217.u (by decide) (hf_205.u (by decide) fh_fz_p0_4)), (hf_217.u (by decide) (hf_205.u (by decide) fv_fz_p0_45)), (hf_217.u (by decide) (hf_205.u (by decide) fh_fz_p0_46)), (hf_217.u (by decide) (hf_205.u (by decide) fv_fz_p0_47)), (hf_217.u (by decide) z_206), (by omega), (by omega), (by omega), hq23_1, (by omega), (by omega), hP211, za_r_behindUnit⟩
              · have tc_169 := q_eqN c_169
                refine lv_bipush (v := 38) hx hb dX9_behindUnit_115 (by decide) (lv_goto (tgt := 138) hx hb dX9_behindUnit_117 (by decide) ?_)
                refine q_cVv (As := [.int r_1, .int 38]) (rest := []) q_w0 trivial hK hP5 hDa za_r_behindUnit hS5 hA [0, 3, 4] [2, 3] (by decide +kernel) ⟨hx, hb, hml, hown, hts⟩ (r_pushE l dC dI H5.size p0 fz_p0 p0_eSign c_p0_eSign b_p0_eSign p0_eWhat c_p0_eWhat b_p0_eWhat r_1 38 piv ho_fz_p0 fr_fz_p0_40 fr_fz_p0_41 fv_fz_p0_48 ((by omega))) rfl rfl (cwV 2 hts (p1_gV m_17 m_18 m_19 m_3 g_r_pushE gz_r_pushE) rfl rfl rfl (by decide +kernel) ⟨by decide, by decide⟩) (va_recv hK hP5 (ci := 8) (q0 := 0) rfl rfl) zm_r_pushE rfl hl.1 rfl (Nat.le_of_ble_eq_true rfl) dX9_behindUnit_138 ⟨by decide, by decide⟩ (fun H223 lo223 hG223 hS223 => ?_)
                obtain ⟨o_224, o_225, o_226, o_227, ho_228, hf_229, z_230, z_231, z_232, z_233, hQ223⟩ := hG223
                have hP223 : va_P (dC, dI) vwCl (zW_r_behindUnit p0 o_224 p0_code c_p0_code bz_p0_code p0_codeNumber c_p0_codeNumber bz_p0_codeNumber p0_eSign c_p0_eSign o_225 p0_eWhat c_p0_eWhat o_226 p0_text c_p0_text b_p0_text) H223 := hQ223
                clear hQ223 hP5 hS5
                refine lv_aload_n hx hb dX9_behindUnit_141 rfl (lv_at hl 1 rfl) ?_
                refine q_cVv (As := []) (rest := []) q_w0 trivial hK hP223 hDa za_r_behindUnit hS223 hA [0, 5] [4] (by decide +kernel) ⟨hx, hb, hml, hown, hts⟩ (r_goOn l dC dI H223.size p0 o_224 p0_text c_p0_text b_p0_text at0 en tk sz ho_228 ((hf_229.u (by decide) fr_fz_p0_1)) ((hf_229.u (by decide) fh_fz_p0_6)) ((hf_229.u (by decide) fh_fz_p0_7)) ((hf_229.u (by decide) fh_fz_p0_8)) ((hf_229.u (by decide) fh_fz_p0_3)) ((by omega))) rfl rfl (cwV 0 hts (p1_gV m_20 m_21 m_22 m_3 g_r_goOn gz_r_goOn) rfl rfl rfl (by decide +kernel) ⟨by decide, by decide⟩) (va_recv hK hP223 (ci := 8) (q0 := 0) rfl rfl) zm_r_goOn rfl hl.1 rfl (Nat.le_of_ble_eq_true rfl) dX9_behindUnit_142 ⟨by decide, by decide⟩ (fun H235 lo235 hG235 hS235 => ?_)
                obtain ⟨o_236, o_237, o_238, o_239, ho_240, hf_241, z_242, z_243, z_244, z_245, hQ235⟩ := hG235
                have to_237 := (OKX9_g6 ho_240).use z_242
                have to_238 := (OKX9_g7 ho_240).use z_243
                have to_239 := (OKX9_g8 ho_240).use z_244
                have hP235 : va_P (dC, dI) vwCl (zW_r_behindUnit p0 o_236 p0_code c_p0_code bz_p0_code p0_codeNumber c_p0_codeNumber bz_p0_codeNumber p0_eSign c_p0_eSign o_225 p0_eWhat c_p0_eWhat o_226 p0_text c_p0_text b_p0_text) H235 := hQ235
                clear hQ235 hP223 hS223
                refine lv_iconst (v := 1) hx hb dX9_behindUnit_145 (by decide) ?_
                exact q_zret hx hb hr hlocks (by decide) hS235 dX9_behindUnit_146 ⟨o_236, bz_p0_code, bz_p0_codeNumber, o_225, o_226, o_237, o_238, o_239, fk, cov, un, wiv, o_227, (Or.inl ⟨rfl, Or.inr ⟨by omega, q_EI.cast (hq23_0.wait z_232 z_233 (by unfold q_op; omega) (by unfold q_ops; omega)) (by omega) (by omega) (by omega) (by omega)⟩⟩), ho_240, ((hf_fz_p0.tr hf_229 (by decide)).tr hf_241 (by decide)), z_242, z_243, z_244, (hf_241.u (by decide) (hf_229.u (by decide) fh_fz_p0_4)), (hf_241.u (by decide) (hf_229.u (by decide) fv_fz_p0_45)), (hf_241.u (by decide) (hf_229.u (by decide) fh_fz_p0_46)), (hf_241.u (by decide) (hf_229.u (by decide) fv_fz_p0_47)), (hf_241.u (by decide) z_230), (by omega), (by omega), (by omega), hq23_1, (by omega), (by omega), hP235, za_r_behindUnit⟩
          · have tc_128 := q_geN c_128
            refine lv_aload_n hx hb dX9_behindUnit_54 rfl (lv_at hl 1 rfl) (lv_dup hx hb dX9_behindUnit_55 rfl (qg_X9_48 hx hb hts i_X9 hown hK hP5 0 rfl k_5 fv_fz_p0_48 dX9_behindUnit_56 (lv_iconst (v := 1) hx hb dX9_behindUnit_59 (by decide) (lv_isub hx hb dX9_behindUnit_60 (lv_topi fun v_246 ev_246 => ?_)))))
            have tv_246 := q_sub ev_246 (by omega) (by omega)
            refine qp_X9_48 hx hb hts i_X9 hown hK hP5 hDa za_r_behindUnit hS5 0 rfl k_5 (OKX9_l ho_fz_p0) dX9_behindUnit_61 (fun H247 lo247 fs247 efs247 (hP247 : va_P (dC, dI) vwCl (zW_r_behindUnit p0 fs247 p0_code c_p0_code bz_p0_code p0_codeNumber c_p0_codeNumber bz_p0_codeNumber p0_eSign c_p0_eSign b_p0_eSign p0_eWhat c_p0_eWhat b_p0_eWhat p0_text c_p0_text b_p0_text) H247) hS247 => ?_)
            have ho247 := OKX9_p48 ho_fz_p0 efs247
            clear hP5 hS5
            refine lv_aload_n hx hb dX9_behindUnit_64 rfl (lv_at hl 1 rfl) (qg_X9_40 hx hb hts i_X9 hown hK hP247 0 rfl k_4 (q_sn efs247 (by decide) fr_fz_p0_40) dX9_behindUnit_65 (lv_aload_n hx hb dX9_behindUnit_68 rfl (lv_at hl 1 rfl) (qg_X9_48 hx hb hts i_X9 hown hK hP247 0 rfl k_5 (q_sa efs247 (OKX9_l ho_fz_p0) (by decide)) dX9_behindUnit_69 (q_ild hx hb hK hP247 4 3 rfl rfl (q_in (by omega) (by omega)) dX9_behindUnit_72 (fun v_248 ev_248 => ?_)))))
            have kv_248 := q_ix (n := (piv.toInt - 1).toNat) ev_248 (by omega) (by omega)
            have uv_248 : v_248.toInt = (b_p0_eWhat (piv.toInt - 1).toNat).toInt := by rw [kv_248]
            have htopv_248 := (q_EI.cast hq23_0 (p' := (piv.toInt - 1).toNat + 1) (by omega) rfl rfl rfl).top kv_248
            refine lv_iconst (v := 3) hx hb dX9_behindUnit_73 (by decide) ?_
            refine lv_icmp_ne (tgt := 87) hx hb dX9_behindUnit_74 (by decide) (fun c_249 => ?_) (fun c_249 => ?_)
            · have tc_249 := q_ne c_249
              refine lv_aload_n hx hb dX9_behindUnit_87 rfl (lv_at hl 1 rfl) (lv_aload_n hx hb dX9_behindUnit_88 rfl (lv_at hl 1 rfl) (qg_X9_41 hx hb hts i_X9 hown hK hP247 0 rfl k_23 (q_sn efs247 (by decide) fr_fz_p0_41) dX9_behindUnit_89 (lv_aload_n hx hb dX9_behindUnit_92 rfl (lv_at hl 1 rfl) (qg_X9_48 hx hb hts i_X9 hown hK hP247 0 rfl k_5 (q_sa efs247 (OKX9_l ho_fz_p0) (by decide)) dX9_behindUnit_93 (q_ild hx hb hK hP247 3 2 rfl rfl (q_in (by omega) (by omega)) dX9_behindUnit_96 (fun v_250 ev_250 => ?_))))))
              have kv_250 := q_ix (n := (piv.toInt - 1).toNat) ev_250 (by omega) (by omega)
              have uv_250 : v_250.toInt = (b_p0_eSign (piv.toInt - 1).toNat).toInt := by rw [kv_250]
              refine lv_iconst (v := 0) hx hb dX9_behindUnit_97 (by decide) ?_
              refine q_cVv (As := [.int v_250, .int 0]) (rest := []) q_w0 trivial hK hP247 hDa za_r_behindUnit hS247 hA [0, 1, 2] [0, 1] (by decide +kernel) ⟨hx, hb, hml, hown, hts⟩ (r_emit l dC dI H247.size p0 fs247 p0_code c_p0_code bz_p0_code p0_codeNumber c_p0_codeNumber bz_p0_codeNumber v_250 0 cov ho247 ((q_sn efs247 (by decide) fr_fz_p0_38)) ((q_sn efs247 (by decide) fr_fz_p0_39)) ((q_sn efs247 (by decide) fv_fz_p0_45)) ((by omega))) rfl rfl (cwV 2 hts (p1_gV m_24 m_25 m_26 m_3 g_r_emit gz_r_emit) rfl rfl rfl (by decide +kernel) ⟨by decide, by decide⟩) (va_recv hK hP247 (ci := 8) (q0 := 0) rfl rfl) zm_r_emit rfl hl.1 rfl (Nat.le_of_ble_eq_true rfl) dX9_behindUnit_98 ⟨by decide, by decide⟩ (fun H252 lo252 hG252 hS252 => ?_)
              obtain ⟨o_253, o_254, o_255, o_256, ho_257, hf_258, z_259, z_260, z_261, hQ252⟩ := hG252
              have hP252 : va_P (dC, dI) vwCl (zW_r_behindUnit p0 o_253 p0_code c_p0_code o_254 p0_codeNumber c_p0_codeNumber o_255 p0_eSign c_p0_eSign b_p0_eSign p0_eWhat c_p0_eWhat b_p0_eWhat p0_text c_p0_text b_p0_text) H252 := hQ252
              clear hQ252 hP247 hS247
              refine lv_goto (tgt := 23) hx hb dX9_behindUnit_101 (by decide) ?_
              have hEn := q_EI.cast (q_EI.pop (p := (piv.toInt - 1).toNat) (wi' := wiv.toInt) (q_EI.cast hq23_0 (by omega) rfl rfl rfl) kv_248 kv_250 (by omega) z_261 (by rw [if_neg (by omega)])) (p' := v_246.toInt.toNat) (co' := o_256.toInt) (by omega) (by omega) rfl rfl
              have hbn := hEn.bd
              exact ih23 (fu23 - 1) (by omega) o_253 o_256 wiv v_246 o_254 o_255 _ _ _ (by omega) ho_257 ((hf_fz_p0.st efs247 (by decide)).tr hf_258 (by decide)) (hf_258.u (by decide) (q_sn efs247 (by decide) fr_fz_p0_1)) (hf_258.u (by decide) (q_sn efs247 (by decide) fh_fz_p0_3)) (hf_258.u (by decide) (q_sn efs247 (by decide) fh_fz_p0_4)) (hf_258.u (by decide) (q_sn efs247 (by decide) fh_fz_p0_6)) (hf_258.u (by decide) (q_sn efs247 (by decide) fh_fz_p0_7)) (hf_258.u (by decide) (q_sn efs247 (by decide) fh_fz_p0_8)) (hf_258.u (by decide) (q_sn efs247 (by decide) fr_fz_p0_38)) (hf_258.u (by decide) (q_sn efs247 (by decide) fr_fz_p0_39)) (hf_258.u (by decide) (q_sn efs247 (by decide) fr_fz_p0_40)) (hf_258.u (by decide) (q_sn efs247 (by decide) fr_fz_p0_41)) (hf_258.u (by decide) (q_sn efs247 (by decide) fh_fz_p0_44)) z_259 (by omega) (hf_258.u (by decide) (q_sn efs247 (by decide) fh_fz_p0_46)) (hf_258.u (by decide) (q_sn efs247 (by decide) fv_fz_p0_47)) (by omega) (hf_258.u (by decide) (q_sa efs247 (OKX9_l ho_fz_p0) (by decide))) (by omega) hEn (hq23_1.up z_261 (by omega) (by omega)) (by omega) hP252 hS252 (lv_sub hl [0, 1] rfl)
            · have tc_249 := q_eqN c_249
              refine lv_aload_n hx hb dX9_behindUnit_77 rfl (lv_at hl 1 rfl) (lv_dup hx hb dX9_behindUnit_78 rfl (qg_X9_47 hx hb hts i_X9 hown hK hP247 0 rfl k_6 (q_sn efs247 (by decide) fv_fz_p0_47) dX9_behindUnit_79 (lv_iconst (v := 1) hx hb dX9_behindUnit_82 (by decide) (lv_isub hx hb dX9_behindUnit_83 (lv_topi fun v_262 ev_262 => ?_)))))
              have tv_262 := q_sub ev_262 (by omega) (by omega)
              refine qp_X9_47 hx hb hts i_X9 hown hK hP247 hDa za_r_behindUnit hS247 0 rfl k_6 (OKX9_l ho247) dX9_behindUnit_84 (fun H263 lo263 fs263 efs263 (hP263 : va_P (dC, dI) vwCl (zW_r_behindUnit p0 fs263 p0_code c_p0_code bz_p0_code p0_codeNumber c_p0_codeNumber bz_p0_codeNumber p0_eSign c_p0_eSign b_p0_eSign p0_eWhat c_p0_eWhat b_p0_eWhat p0_text c_p0_text b_p0_text) H263) hS263 => ?_)
              have ho263 := OKX9_p47 ho247 efs263
              clear hP247 hS247
              refine lv_aload_n hx hb dX9_behindUnit_87 rfl (lv_at hl 1 rfl) (lv_aload_n hx hb dX9_behindUnit_88 rfl (lv_at hl 1 rfl) (qg_X9_41 hx hb hts i_X9 hown hK hP263 0 rfl k_23 (q_sn efs263 (by decide) (q_sn efs247 (by decide) fr_fz_p0_41)) dX9_behindUnit_89 (lv_aload_n hx hb dX9_behindUnit_92 rfl (lv_at hl 1 rfl) (qg_X9_48 hx hb hts i_X9 hown hK hP263 0 rfl k_5 (q_sn efs263 (by decide) (q_sa efs247 (OKX9_l ho_fz_p0) (by decide))) dX9_behindUnit_93 (q_ild hx hb hK hP263 3 2 rfl rfl (q_in (by omega) (by omega)) dX9_behindUnit_96 (fun v_264 ev_264 => ?_))))))
              have kv_264 := q_ix (n := (piv.toInt - 1).toNat) ev_264 (by omega) (by omega)
              have uv_264 : v_264.toInt = (b_p0_eSign (piv.toInt - 1).toNat).toInt := by rw [kv_264]
              refine lv_iconst (v := 0) hx hb dX9_behindUnit_97 (by decide) ?_
              refine q_cVv (As := [.int v_264, .int 0]) (rest := []) q_w0 trivial hK hP263 hDa za_r_behindUnit hS263 hA [0, 1, 2] [0, 1] (by decide +kernel) ⟨hx, hb, hml, hown, hts⟩ (r_emit l dC dI H263.size p0 fs263 p0_code c_p0_code bz_p0_code p0_codeNumber c_p0_codeNumber bz_p0_codeNumber v_264 0 cov ho263 ((q_sn efs263 (by decide) (q_sn efs247 (by decide) fr_fz_p0_38))) ((q_sn efs263 (by decide) (q_sn efs247 (by decide) fr_fz_p0_39))) ((q_sn efs263 (by decide) (q_sn efs247 (by decide) fv_fz_p0_45))) ((by omega))) rfl rfl (cwV 2 hts (p1_gV m_24 m_25 m_26 m_3 g_r_emit gz_r_emit) rfl rfl rfl (by decide +kernel) ⟨by decide, by decide⟩) (va_recv hK hP263 (ci := 8) (q0 := 0) rfl rfl) zm_r_emit rfl hl.1 rfl (Nat.le_of_ble_eq_true rfl) dX9_behindUnit_98 ⟨by decide, by decide⟩ (fun H266 lo266 hG266 hS266 => ?_)
              obtain ⟨o_267, o_268, o_269, o_270, ho_271, hf_272, z_273, z_274, z_275, hQ266⟩ := hG266
              have hP266 : va_P (dC, dI) vwCl (zW_r_behindUnit p0 o_267 p0_code c_p0_code o_268 p0_codeNumber c_p0_codeNumber o_269 p0_eSign c_p0_eSign b_p0_eSign p0_eWhat c_p0_eWhat b_p0_eWhat p0_text c_p0_text b_p0_text) H266 := hQ266
              clear hQ266 hP263 hS263
              refine lv_goto (tgt := 23) hx hb dX9_behindUnit_101 (by decide) ?_
              have hEn := q_EI.cast (q_EI.pop (p := (piv.toInt - 1).toNat) (wi' := v_262.toInt) (q_EI.cast hq23_0 (by omega) rfl rfl rfl) kv_248 kv_264 (by omega) z_275 (by rw [if_pos (by omega)]; omega)) (p' := v_246.toInt.toNat) (co' := o_270.toInt) (by omega) (by omega) rfl rfl
              have hbn := hEn.bd
              exact ih23 (fu23 - 1) (by omega) o_267 o_270 v_262 v_246 o_268 o_269 _ _ _ (by omega) ho_271 (((hf_fz_p0.st efs247 (by decide)).st efs263 (by decide)).tr hf_272 (by decide)) (hf_272.u (by decide) (q_sn efs263 (by decide) (q_sn efs247 (by decide) fr_fz_p0_1))) (hf_272.u (by decide) (q_sn efs263 (by decide) (q_sn efs247 (by decide) fh_fz_p0_3))) (hf_272.u (by decide) (q_sn efs263 (by decide) (q_sn efs247 (by decide) fh_fz_p0_4))) (hf_272.u (by decide) (q_sn efs263 (by decide) (q_sn efs247 (by decide) fh_fz_p0_6))) (hf_272.u (by decide) (q_sn efs263 (by decide) (q_sn efs247 (by decide) fh_fz_p0_7))) (hf_272.u (by decide) (q_sn efs263 (by decide) (q_sn efs247 (by decide) fh_fz_p0_8))) (hf_272.u (by decide) (q_sn efs263 (by decide) (q_sn efs247 (by decide) fr_fz_p0_38))) (hf_272.u (by decide) (q_sn efs263 (by decide) (q_sn efs247 (by decide) fr_fz_p0_39))) (hf_272.u (by decide) (q_sn efs263 (by decide) (q_sn efs247 (by decide) fr_fz_p0_40))) (hf_272.u (by decide) (q_sn efs263 (by decide) (q_sn efs247 (by decide) fr_fz_p0_41))) (hf_272.u (by decide) (q_sn efs263 (by decide) (q_sn efs247 (by decide) fh_fz_p0_44))) z_273 (by omega) (hf_272.u (by decide) (q_sn efs263 (by decide) (q_sn efs247 (by decide) fh_fz_p0_46))) (hf_272.u (by decide) (q_sa efs263 (OKX9_l ho247) (by decide))) (by omega) (hf_272.u (by decide) (q_sn efs263 (by decide) (q_sa efs247 (OKX9_l ho_fz_p0) (by decide)))) (by omega) hEn (hq23_1.up z_275 (by omega) (by omega)) (by omega) hP266 hS266 (lv_sub hl [0, 1] rfl)
    exact key23 119 f_p0 co wi pi b_p0_code b_p0_codeNumber _ _ _ (by omega) ho_p0 q_fr.rf fr_p0_1 pf_sz pf_fk pf_at0 pf_en pf_tk fr_p0_38 fr_p0_39 fr_p0_40 fr_p0_41 pf_rb pf_co (by omega) pf_un pf_wi (by omega) pf_pi (by omega) hEI q_offc.rf (by omega) hP2 hS2 (lv_sub hl [0, 1] rfl)
  · have tc_4 := q_eqN c_4
    refine lv_aload_n hx hb dX9_behindUnit_10 rfl (lv_at hl 1 rfl) ?_
    refine q_cVi (As := []) (rest := []) q_w0 trivial hK hP2 hDa za_r_behindUnit hS2 hA [0, 4] [3] (by decide +kernel) ⟨hx, hb, hml, hown, hts⟩ (r_isCompared l dC dI H2.size p0 f_p0 p0_eWhat c_p0_eWhat b_p0_eWhat pi ho_p0 fr_p0_40 pf_pi ((by omega)) hEI.h8) rfl rfl (cwV 0 hts (p1_gV m_27 m_28 m_29 m_3 g_r_isCompared gz_r_isCompared) rfl rfl rfl (by decide +kernel) ⟨by decide, by decide⟩) (va_recv hK hP2 (ci := 8) (q0 := 0) rfl rfl) zm_r_isCompared rfl hl.1 rfl (Nat.le_of_ble_eq_true rfl) dX9_behindUnit_11 ⟨by decide, by decide⟩ (fun r_276 H277 lo277 hG277 hS277 => ?_)
    obtain ⟨z_278, hQ277⟩ := hG277
    have hP277 : va_P (dC, dI) vwCl (zW_r_behindUnit p0 f_p0 p0_code c_p0_code b_p0_code p0_codeNumber c_p0_codeNumber b_p0_codeNumber p0_eSign c_p0_eSign b_p0_eSign p0_eWhat c_p0_eWhat b_p0_eWhat p0_text c_p0_text b_p0_text) H277 := hQ277
    clear hQ277 hP2 hS2
    rcases z_278 with ⟨rfl, z_278⟩ | ⟨rfl, z_278⟩
    · refine lv_if_eq (tgt := 23) hx hb dX9_behindUnit_14 (by decide) (fun c_279 => absurd c_279 (by decide)) (fun c_279 => ?_)
      refine lv_aload_n hx hb dX9_behindUnit_17 rfl (lv_at hl 1 rfl) ?_
      refine q_cVv (As := []) (rest := []) q_w0 trivial hK hP277 hDa za_r_behindUnit hS277 hA [0] [] (by decide +kernel) ⟨hx, hb, hml, hown, hts⟩ (r_misplaced l dC dI H277.size p0 f_p0 ho_p0) rfl rfl (cwV 0 hts (p1_gV m_30 m_31 m_32 m_3 g_r_misplaced gz_r_misplaced) rfl rfl rfl (by decide +kernel) ⟨by decide, by decide⟩) (va_recv hK hP277 (ci := 8) (q0 := 0) rfl rfl) zm_r_misplaced rfl hl.1 rfl (Nat.le_of_ble_eq_true rfl) dX9_behindUnit_18 ⟨by decide, by decide⟩ (fun H281 lo281 hG281 hS281 => ?_)
      obtain ⟨o_282, o_283, ho_284, hf_285, z_286, z_287, hQ281⟩ := hG281
      have to_283 := (OKX9_g4 ho_284).use z_286
      have hP281 : va_P (dC, dI) vwCl (zW_r_behindUnit p0 o_282 p0_code c_p0_code b_p0_code p0_codeNumber c_p0_codeNumber b_p0_codeNumber p0_eSign c_p0_eSign b_p0_eSign p0_eWhat c_p0_eWhat b_p0_eWhat p0_text c_p0_text b_p0_text) H281 := hQ281
      clear hQ281 hP277 hS277
      refine lv_iconst (v := 1) hx hb dX9_behindUnit_21 (by decide) ?_
      exact q_zret hx hb hr hlocks (by decide) hS281 dX9_behindUnit_22 ⟨o_282, b_p0_code, b_p0_codeNumber, b_p0_eSign, b_p0_eWhat, at0, en, tk, o_283, co, un, wi, pi, (Or.inl ⟨rfl, Or.inl (by omega)⟩), ho_284, (q_fr.rf.tr hf_285 (by decide)), (hf_285.u (by decide) pf_at0), (hf_285.u (by decide) pf_en), (hf_285.u (by decide) pf_tk), z_286, (hf_285.u (by decide) pf_co), (hf_285.u (by decide) pf_un), (hf_285.u (by decide) pf_wi), (hf_285.u (by decide) pf_pi), (by omega), (by omega), (by omega), q_offc.rf, (by omega), (by omega), hP281, za_r_behindUnit⟩
    · refine lv_if_eq (tgt := 23) hx hb dX9_behindUnit_14 (by decide) (fun c_288 => ?_) (fun c_288 => absurd c_288 (by decide))
      have key23 : ∀ (fu23 : Nat) (fz_p0 : List Value) (cov : Int32) (wiv : Int32) (piv : Int32) (bz_p0_code : Nat → Int32) (bz_p0_codeNumber : Nat → Int32) (H : Heap) (locs : List Loc) (ls : Array Slot) (hfu23 : piv.toInt ≤ (fu23 : Int)) (ho_fz_p0 : OKX9 fz_p0) (hf_fz_p0 : q_fr [4, 5, 6, 7, 8, 9, 10, 45, 47, 48] f_p0 fz_p0) (fr_fz_p0_1 : fz_p0[1]? = some (.ref p0_text)) (fh_fz_p0_3 : fz_p0[3]? = some (.int sz)) (fh_fz_p0_4 : fz_p0[4]? = some (.int fk)) (fh_fz_p0_6 : fz_p0[6]? = some (.int at0)) (fh_fz_p0_7 : fz_p0[7]? = some (.int en)) (fh_fz_p0_8 : fz_p0[8]? = some (.int tk)) (fr_fz_p0_38 : fz_p0[38]? = some (.ref p0_code)) (fr_fz_p0_39 : fz_p0[39]? = some (.ref p0_codeNumber)) (fr_fz_p0_40 : fz_p0[40]? = some (.ref p0_eWhat)) (fr_fz_p0_41 : fz_p0[41]? = some (.ref p0_eSign)) (fh_fz_p0_44 : fz_p0[44]? = some (.int rb)) (fv_fz_p0_45 : fz_p0[45]? = some (.int cov)) (tcov : (0) ≤ cov.toInt ∧ cov.toInt ≤ 1800) (fh_fz_p0_46 : fz_p0[46]? = some (.int un)) (fv_fz_p0_47 : fz_p0[47]? = some (.int wiv)) (twiv : (0) ≤ wiv.toInt ∧ wiv.toInt ≤ 7) (fv_fz_p0_48 : fz_p0[48]? = some (.int piv)) (tpiv : (0) ≤ piv.toInt ∧ piv.toInt ≤ 119) (hq23_0 : q_EI 1 piv.toInt.toNat rb.toInt cov.toInt un.toInt wiv.toInt lo9 b_p0_eWhat b_p0_eSign bz_p0_code) (hq23_1 : q_offc lo9 rb b_p0_code bz_p0_code) (hq23_2 : 1 ≤ piv.toInt ∧ piv.toInt ≤ pi.toInt), va_P (dC, dI) vwCl (zW_r_behindUnit p0 fz_p0 p0_code c_p0_code bz_p0_code p0_codeNumber c_p0_codeNumber bz_p0_codeNumber p0_eSign c_p0_eSign b_p0_eSign p0_eWhat c_p0_eWhat b_p0_eWhat p0_text c_p0_text b_p0_text) H → va_S A s.heap H locs → lv_has ls 2 [(1, .int r_1), (0, .ref p0)] → W p l e (headSpec zw_r_behindUnit { frames := 3, cells := 0, slots := 0, locals := 65 }).room s m ([.ref p0] : List Value).toArray below meth c H locs 0 0 (MQ below (q_Qi (dC, dI) (zG_r_behindUnit p0 f_p0 p0_code c_p0_code b_p0_code p0_codeNumber c_p0_codeNumber b_p0_codeNumber p0_eSign c_p0_eSign b_p0_eSign p0_eWhat c_p0_eWhat b_p0_eWhat p0_text c_p0_text b_p0_text at0 en tk sz fk co un wi pi rb lo9) (zA_r_behindUnit p0 p0_code p0_codeNumber p0_eSign p0_eWhat p0_text) A) ([.ref p0] : List Value).toArray s 0 0 A) (F0 m 23 ls []) := by
        intro fu23
        induction fu23 using Nat.strongRecOn with
        | ind fu23 ih23 =>
          intro fz_p0 cov wiv piv bz_p0_code bz_p0_codeNumber H289 lo289 ls hfu23 ho_fz_p0 hf_fz_p0 fr_fz_p0_1 fh_fz_p0_3 fh_fz_p0_4 fh_fz_p0_6 fh_fz_p0_7 fh_fz_p0_8 fr_fz_p0_38 fr_fz_p0_39 fr_fz_p0_40 fr_fz_p0_41 fh_fz_p0_44 fv_fz_p0_45 tcov fh_fz_p0_46 fv_fz_p0_47 twiv fv_fz_p0_48 tpiv hq23_0 hq23_1 hq23_2 hP289 hS289 hl
          have hbd23 := hq23_0.bd
          have hdone := hq23_0.2.2.2.2.2.2.2.2.2.2.2.2.2.1
          refine lv_aload_n hx hb dX9_behindUnit_23 rfl (lv_at hl 1 rfl) (qg_X9_40 hx hb hts i_X9 hown hK hP289 0 rfl k_4 fr_fz_p0_40 dX9_behindUnit_24 (lv_aload_n hx hb dX9_behindUnit_27 rfl (lv_at hl 1 rfl) (qg_X9_48 hx hb hts i_X9 hown hK hP289 0 rfl k_5 fv_fz_p0_48 dX9_behindUnit_28 (lv_iconst (v := 1) hx hb dX9_behindUnit_31 (by decide) (lv_isub hx hb dX9_behindUnit_32 (lv_topi fun v_290 ev_290 => ?_))))))
          have tv_290 := q_sub ev_290 (by omega) (by omega)
          refine q_ild hx hb hK hP289 4 3 rfl rfl (q_in (by omega) (by omega)) dX9_behindUnit_33 (fun v_291 ev_291 => ?_)
          have kv_291 := q_ix (n := (piv.toInt - 1).toNat) ev_291 (by omega) (by omega)
          have uv_291 : v_291.toInt = (b_p0_eWhat (piv.toInt - 1).toNat).toInt := by rw [kv_291]
          have htopv_291 := (q_EI.cast hq23_0 (p' := (piv.toInt - 1).toNat + 1) (by omega) rfl rfl rfl).top kv_291
          refine lv_bipush (v := 6) hx hb dX9_behindUnit_34 (by decide) ?_
          refine lv_icmp_gt (tgt := 104) hx hb dX9_behindUnit_36 (by decide) (fun c_292 => ?_) (fun c_292 => ?_)
          · have tc_292 := q_gt c_292
            refine lv_iload_n hx hb dX9_behindUnit_104 rfl (lv_at hl 0 rfl) (lv_if_le (tgt := 147) hx hb dX9_behindUnit_105 (by decide) (fun c_293 => by exfalso; have t9 := q_le c_293; omega) (fun c_293 => ?_))
            have tc_293 := q_gtN c_293
            refine lv_aload_n hx hb dX9_behindUnit_108 rfl (lv_at hl 1 rfl) (lv_iload_n hx hb dX9_behindUnit_109 rfl (lv_at hl 0 rfl) (lv_iload_n hx hb dX9_behindUnit_110 rfl (lv_at hl 0 rfl) (lv_iconst (v := 2) hx hb dX9_behindUnit_111 (by decide) (lv_icmp_ne (tgt := 120) hx hb dX9_behindUnit_112 (by decide) (fun c_294 => ?_) (fun c_294 => by exfalso; have t9 := q_eqN c_294; omega)))))
            have tc_294 := q_ne c_294
            refine lv_iload_n hx hb dX9_behindUnit_120 rfl (lv_at hl 0 rfl) (lv_iconst (v := 1) hx hb dX9_behindUnit_121 (by decide) (lv_icmp_ne (tgt := 130) hx hb dX9_behindUnit_122 (by decide) (fun c_295 => ?_) (fun c_295 => by exfalso; have t9 := q_eqN c_295; omega)))
            have tc_295 := q_ne c_295
            refine lv_aload_n hx hb dX9_behindUnit_130 rfl (lv_at hl 1 rfl) (lv_aload_n hx hb dX9_behindUnit_131 rfl (lv_at hl 1 rfl) (qg_X9_6 hx hb hts i_X9 hown hK hP289 0 rfl k_13 fh_fz_p0_6 dX9_behindUnit_132 ?_))
            refine q_cVi (As := [.int at0]) (rest := [.int r_1, .ref p0]) q_w0 trivial hK hP289 hDa za_r_behindUnit hS289 hA [0, 5] [4] (by decide +kernel) ⟨hx, hb, hml, hown, hts⟩ (r_sign l dC dI H289.size p0 fz_p0 p0_text c_p0_text b_p0_text at0 sz ho_fz_p0 fr_fz_p0_1 fh_fz_p0_3 ((by omega))) rfl rfl (cwV 1 hts (p1_gV m_14 m_15 m_16 m_3 g_r_sign gz_r_sign) rfl rfl rfl (by decide +kernel) ⟨by decide, by decide⟩) (va_recv hK hP289 (ci := 8) (q0 := 0) rfl rfl) zm_r_sign rfl hl.1 rfl (Nat.le_of_ble_eq_true rfl) dX9_behindUnit_135 ⟨by decide, by decide⟩ (fun r_296 H297 lo297 hG297 hS297 => ?_)
            obtain ⟨z_298, hQ297⟩ := hG297
            have hP297 : va_P (dC, dI) vwCl (zW_r_behindUnit p0 fz_p0 p0_code c_p0_code bz_p0_code p0_codeNumber c_p0_codeNumber bz_p0_codeNumber p0_eSign c_p0_eSign b_p0_eSign p0_eWhat c_p0_eWhat b_p0_eWhat p0_text c_p0_text b_p0_text) H297 := hQ297
            clear hQ297 hP289 hS289
            refine q_cVv (As := [.int r_1, .int r_296]) (rest := []) q_w0 trivial hK hP297 hDa za_r_behindUnit hS297 hA [0, 3, 4] [2, 3] (by decide +kernel) ⟨hx, hb, hml, hown, hts⟩ (r_pushE l dC dI H297.size p0 fz_p0 p0_eSign c_p0_eSign b_p0_eSign p0_eWhat c_p0_eWhat b_p0_eWhat r_1 r_296 piv ho_fz_p0 fr_fz_p0_40 fr_fz_p0_41 fv_fz_p0_48 ((by omega))) rfl rfl (cwV 2 hts (p1_gV m_17 m_18 m_19 m_3 g_r_pushE gz_r_pushE) rfl rfl rfl (by decide +kernel) ⟨by decide, by decide⟩) (va_recv hK hP297 (ci := 8) (q0 := 0) rfl rfl) zm_r_pushE rfl hl.1 rfl (Nat.le_of_ble_eq_true rfl) dX9_behindUnit_138 ⟨by decide, by decide⟩ (fun H300 lo300 hG300 hS300 => ?_)
            obtain ⟨o_301, o_302, o_303, o_304, ho_305, hf_306, z_307, z_308, z_309, z_310, hQ300⟩ := hG300
            have hP300 : va_P (dC, dI) vwCl (zW_r_behindUnit p0 o_301 p0_code c_p0_code bz_p0_code p0_codeNumber c_p0_codeNumber bz_p0_codeNumber p0_eSign c_p0_eSign o_302 p0_eWhat c_p0_eWhat o_303 p0_text c_p0_text b_p0_text) H300 := hQ300
            clear hQ300 hP297 hS297
            refine lv_aload_n hx hb dX9_behindUnit_141 rfl (lv_at hl 1 rfl) ?_
            refine q_cVv (As := []) (rest := []) q_w0 trivial hK hP300 hDa za_r_behindUnit hS300 hA [0, 5] [4] (by decide +kernel) ⟨hx, hb, hml, hown, hts⟩ (r_goOn l dC dI H300.size p0 o_301 p0_text c_p0_text b_p0_text at0 en tk sz ho_305 ((hf_306.u (by decide) fr_fz_p0_1)) ((hf_306.u (by decide) fh_fz_p0_6)) ((hf_306.u (by decide) fh_fz_p0_7)) ((hf_306.u (by decide) fh_fz_p0_8)) ((hf_306.u (by decide) fh_fz_p0_3)) ((by omega))) rfl rfl (cwV 0 hts (p1_gV m_20 m_21 m_22 m_3 g_r_goOn gz_r_goOn) rfl rfl rfl (by decide +kernel) ⟨by decide, by decide⟩) (va_recv hK hP300 (ci := 8) (q0 := 0) rfl rfl) zm_r_goOn rfl hl.1 rfl (Nat.le_of_ble_eq_true rfl) dX9_behindUnit_142 ⟨by decide, by decide⟩ (fun H312 lo312 hG312 hS312 => ?_)
            obtain ⟨o_313, o_314, o_315, o_316, ho_317, hf_318, z_319, z_320, z_321, z_322, hQ312⟩ := hG312
            have to_314 := (OKX9_g6 ho_317).use z_319
            have to_315 := (OKX9_g7 ho_317).use z_320
            have to_316 := (OKX9_g8 ho_317).use z_321
            have hP312 : va_P (dC, dI) vwCl (zW_r_behindUnit p0 o_313 p0_code c_p0_code bz_p0_code p0_codeNumber c_p0_codeNumber bz_p0_codeNumber p0_eSign c_p0_eSign o_302 p0_eWhat c_p0_eWhat o_303 p0_text c_p0_text b_p0_text) H312 := hQ312
            clear hQ312 hP300 hS300
            refine lv_iconst (v := 1) hx hb dX9_behindUnit_145 (by decide) ?_
            exact q_zret hx hb hr hlocks (by decide) hS312 dX9_behindUnit_146 ⟨o_313, bz_p0_code, bz_p0_codeNumber, o_302, o_303, o_314, o_315, o_316, fk, cov, un, wiv, o_304, (Or.inl ⟨rfl, Or.inr ⟨by omega, q_EI.cast (hq23_0.wait z_309 z_310 (by unfold q_op; omega) (by unfold q_ops; omega)) (by omega) (by omega) (by omega) (by omega)⟩⟩), ho_317, ((hf_fz_p0.tr hf_306 (by decide)).tr hf_318 (by decide)), z_319, z_320, z_321, (hf_318.u (by decide) (hf_306.u (by decide) fh_fz_p0_4)), (hf_318.u (by decide) (hf_306.u (by decide) fv_fz_p0_45)), (hf_318.u (by decide) (hf_306.u (by decide) fh_fz_p0_46)), (hf_318.u (by decide) (hf_306.u (by decide) fv_fz_p0_47)), (hf_318.u (by decide) z_307), (by omega), (by omega), (by omega), hq23_1, (by omega), (by omega), hP312, za_r_behindUnit⟩
          · have tc_292 := q_leN c_292
            refine lv_aload_n hx hb dX9_behindUnit_39 rfl (lv_at hl 1 rfl) (qg_X9_40 hx hb hts i_X9 hown hK hP289 0 rfl k_4 fr_fz_p0_40 dX9_behindUnit_40 (lv_aload_n hx hb dX9_behindUnit_43 rfl (lv_at hl 1 rfl) (qg_X9_48 hx hb hts i_X9 hown hK hP289 0 rfl k_5 fv_fz_p0_48 dX9_behindUnit_44 (lv_iconst (v := 1) hx hb dX9_behindUnit_47 (by decide) (lv_isub hx hb dX9_behindUnit_48 (lv_topi fun v_323 ev_323 => ?_))))))
            have tv_323 := q_sub ev_323 (by omega) (by omega)
            refine q_ild hx hb hK hP289 4 3 rfl rfl (q_in (by omega) (by omega)) dX9_behindUnit_49 (fun v_324 ev_324 => ?_)
            have kv_324 := q_ix (n := (piv.toInt - 1).toNat) ev_324 (by omega) (by omega)
            have uv_324 : v_324.toInt = (b_p0_eWhat (piv.toInt - 1).toNat).toInt := by rw [kv_324]
            have htopv_324 := (q_EI.cast hq23_0 (p' := (piv.toInt - 1).toNat + 1) (by omega) rfl rfl rfl).top kv_324
            refine lv_iload_n hx hb dX9_behindUnit_50 rfl (lv_at hl 0 rfl) ?_
            refine lv_icmp_lt (tgt := 104) hx hb dX9_behindUnit_51 (by decide) (fun c_325 => ?_) (fun c_325 => ?_)
            · have tc_325 := q_lt c_325
              refine lv_iload_n hx hb dX9_behindUnit_104 rfl (lv_at hl 0 rfl) (lv_if_le (tgt := 147) hx hb dX9_behindUnit_105 (by decide) (fun c_326 => by exfalso; have t9 := q_le c_326; omega) (fun c_326 => ?_))
              have tc_326 := q_gtN c_326
              refine lv_aload_n hx hb dX9_behindUnit_108 rfl (lv_at hl 1 rfl) (lv_iload_n hx hb dX9_behindUnit_109 rfl (lv_at hl 0 rfl) (lv_iload_n hx hb dX9_behindUnit_110 rfl (lv_at hl 0 rfl) (lv_iconst (v := 2) hx hb dX9_behindUnit_111 (by decide) (lv_icmp_ne (tgt := 120) hx hb dX9_behindUnit_112 (by decide) (fun c_327 => ?_) (fun c_327 => by exfalso; have t9 := q_eqN c_327; omega)))))
              have tc_327 := q_ne c_327
              refine lv_iload_n hx hb dX9_behindUnit_120 rfl (lv_at hl 0 rfl) (lv_iconst (v := 1) hx hb dX9_behindUnit_121 (by decide) (lv_icmp_ne (tgt := 130) hx hb dX9_behindUnit_122 (by decide) (fun c_328 => ?_) (fun c_328 => by exfalso; have t9 := q_eqN c_328; omega)))
              have tc_328 := q_ne c_328
              refine lv_aload_n hx hb dX9_behindUnit_130 rfl (lv_at hl 1 rfl) (lv_aload_n hx hb dX9_behindUnit_131 rfl (lv_at hl 1 rfl) (qg_X9_6 hx hb hts i_X9 hown hK hP289 0 rfl k_13 fh_fz_p0_6 dX9_behindUnit_132 ?_))
              refine q_cVi (As := [.int at0]) (rest := [.int r_1, .ref p0]) q_w0 trivial hK hP289 hDa za_r_behindUnit hS289 hA [0, 5] [4] (by decide +kernel) ⟨hx, hb, hml, hown, hts⟩ (r_sign l dC dI H289.size p0 fz_p0 p0_text c_p0_text b_p0_text at0 sz ho_fz_p0 fr_fz_p0_1 fh_fz_p0_3 ((by omega))) rfl rfl (cwV 1 hts (p1_gV m_14 m_15 m_16 m_3 g_r_sign gz_r_sign) rfl rfl rfl (by decide +kernel) ⟨by decide, by decide⟩) (va_recv hK hP289 (ci := 8) (q0 := 0) rfl rfl) zm_r_sign rfl hl.1 rfl (Nat.le_of_ble_eq_true rfl) dX9_behindUnit_135 ⟨by decide, by decide⟩ (fun r_329 H330 lo330 hG330 hS330 => ?_)
              obtain ⟨z_331, hQ330⟩ := hG330
              have hP330 : va_P (dC, dI) vwCl (zW_r_behindUnit p0 fz_p0 p0_code c_p0_code bz_p0_code p0_codeNumber c_p0_codeNumber bz_p0_codeNumber p0_eSign c_p0_eSign b_p0_eSign p0_eWhat c_p0_eWhat b_p0_eWhat p0_text c_p0_text b_p0_text) H330 := hQ330
              clear hQ330 hP289 hS289
              refine q_cVv (As := [.int r_1, .int r_329]) (rest := []) q_w0 trivial hK hP330 hDa za_r_behindUnit hS330 hA [0, 3, 4] [2, 3] (by decide +kernel) ⟨hx, hb, hml, hown, hts⟩ (r_pushE l dC dI H330.size p0 fz_p0 p0_eSign c_p0_eSign b_p0_eSign p0_eWhat c_p0_eWhat b_p0_eWhat r_1 r_329 piv ho_fz_p0 fr_fz_p0_40 fr_fz_p0_41 fv_fz_p0_48 ((by omega))) rfl rfl (cwV 2 hts (p1_gV m_17 m_18 m_19 m_3 g_r_pushE gz_r_pushE) rfl rfl rfl (by decide +kernel) ⟨by decide, by decide⟩) (va_recv hK hP330 (ci := 8) (q0 := 0) rfl rfl) zm_r_pushE rfl hl.1 rfl (Nat.le_of_ble_eq_true rfl) dX9_behindUnit_138 ⟨by decide, by decide⟩ (fun H333 lo333 hG333 hS333 => ?_)
              obtain ⟨o_334, o_335, o_336, o_337, ho_338, hf_339, z_340, z_341, z_342, z_343, hQ333⟩ := hG333
              have hP333 : va_P (dC, dI) vwCl (zW_r_behindUnit p0 o_334 p0_code c_p0_code bz_p0_code p0_codeNumber c_p0_codeNumber bz_p0_codeNumber p0_eSign c_p0_eSign o_335 p0_eWhat c_p0_eWhat o_336 p0_text c_p0_text b_p0_text) H333 := hQ333
              clear hQ333 hP330 hS330
              refine lv_aload_n hx hb dX9_behindUnit_141 rfl (lv_at hl 1 rfl) ?_
              refine q_cVv (As := []) (rest := []) q_w0 trivial hK hP333 hDa za_r_behindUnit hS333 hA [0, 5] [4] (by decide +kernel) ⟨hx, hb, hml, hown, hts⟩ (r_goOn l dC dI H333.size p0 o_334 p0_text c_p0_text b_p0_text at0 en tk sz ho_338 ((hf_339.u (by decide) fr_fz_p0_1)) ((hf_339.u (by decide) fh_fz_p0_6)) ((hf_339.u (by decide) fh_fz_p0_7)) ((hf_339.u (by decide) fh_fz_p0_8)) ((hf_339.u (by decide) fh_fz_p0_3)) ((by omega))) rfl rfl (cwV 0 hts (p1_gV m_20 m_21 m_22 m_3 g_r_goOn gz_r_goOn) rfl rfl rfl (by decide +kernel) ⟨by decide, by decide⟩) (va_recv hK hP333 (ci := 8) (q0 := 0) rfl rfl) zm_r_goOn rfl hl.1 rfl (Nat.le_of_ble_eq_true rfl) dX9_behindUnit_142 ⟨by decide, by decide⟩ (fun H345 lo345 hG345 hS345 => ?_)
              obtain ⟨o_346, o_347, o_348, o_349, ho_350, hf_351, z_352, z_353, z_354, z_355, hQ345⟩ := hG345
              have to_347 := (OKX9_g6 ho_350).use z_352
              have to_348 := (OKX9_g7 ho_350).use z_353
              have to_349 := (OKX9_g8 ho_350).use z_354
              have hP345 : va_P (dC, dI) vwCl (zW_r_behindUnit p0 o_346 p0_code c_p0_code bz_p0_code p0_codeNumber c_p0_codeNumber bz_p0_codeNumber p0_eSign c_p0_eSign o_335 p0_eWhat c_p0_eWhat o_336 p0_text c_p0_text b_p0_text) H345 := hQ345
              clear hQ345 hP333 hS333
              refine lv_iconst (v := 1) hx hb dX9_behindUnit_145 (by decide) ?_
              exact q_zret hx hb hr hlocks (by decide) hS345 dX9_behindUnit_146 ⟨o_346, bz_p0_code, bz_p0_codeNumber, o_335, o_336, o_347, o_348, o_349, fk, cov, un, wiv, o_337, (Or.inl ⟨rfl, Or.inr ⟨by omega, q_EI.cast (hq23_0.wait z_342 z_343 (by unfold q_op; omega) (by unfold q_ops; omega)) (by omega) (by omega) (by omega) (by omega)⟩⟩), ho_350, ((hf_fz_p0.tr hf_339 (by decide)).tr hf_351 (by decide)), z_352, z_353, z_354, (hf_351.u (by decide) (hf_339.u (by decide) fh_fz_p0_4)), (hf_351.u (by decide) (hf_339.u (by decide) fv_fz_p0_45)), (hf_351.u (by decide) (hf_339.u (by decide) fh_fz_p0_46)), (hf_351.u (by decide) (hf_339.u (by decide) fv_fz_p0_47)), (hf_351.u (by decide) z_340), (by omega), (by omega), (by omega), hq23_1, (by omega), (by omega), hP345, za_r_behindUnit⟩
            · have tc_325 := q_geN c_325
              refine lv_aload_n hx hb dX9_behindUnit_54 rfl (lv_at hl 1 rfl) (lv_dup hx hb dX9_behindUnit_55 rfl (qg_X9_48 hx hb hts i_X9 hown hK hP289 0 rfl k_5 fv_fz_p0_48 dX9_behindUnit_56 (lv_iconst (v := 1) hx hb dX9_behindUnit_59 (by decide) (lv_isub hx hb dX9_behindUnit_60 (lv_topi fun v_356 ev_356 => ?_)))))
              have tv_356 := q_sub ev_356 (by omega) (by omega)
              refine qp_X9_48 hx hb hts i_X9 hown hK hP289 hDa za_r_behindUnit hS289 0 rfl k_5 (OKX9_l ho_fz_p0) dX9_behindUnit_61 (fun H357 lo357 fs357 efs357 (hP357 : va_P (dC, dI) vwCl (zW_r_behindUnit p0 fs357 p0_code c_p0_code bz_p0_code p0_codeNumber c_p0_codeNumber bz_p0_codeNumber p0_eSign c_p0_eSign b_p0_eSign p0_eWhat c_p0_eWhat b_p0_eWhat p0_text c_p0_text b_p0_text) H357) hS357 => ?_)
              have ho357 := OKX9_p48 ho_fz_p0 efs357
              clear hP289 hS289
              refine lv_aload_n hx hb dX9_behindUnit_64 rfl (lv_at hl 1 rfl) (qg_X9_40 hx hb hts i_X9 hown hK hP357 0 rfl k_4 (q_sn efs357 (by decide) fr_fz_p0_40) dX9_behindUnit_65 (lv_aload_n hx hb dX9_behindUnit_68 rfl (lv_at hl 1 rfl) (qg_X9_48 hx hb hts i_X9 hown hK hP357 0 rfl k_5 (q_sa efs357 (OKX9_l ho_fz_p0) (by decide)) dX9_behindUnit_69 (q_ild hx hb hK hP357 4 3 rfl rfl (q_in (by omega) (by omega)) dX9_behindUnit_72 (fun v_358 ev_358 => ?_)))))
              have kv_358 := q_ix (n := (piv.toInt - 1).toNat) ev_358 (by omega) (by omega)
              have uv_358 : v_358.toInt = (b_p0_eWhat (piv.toInt - 1).toNat).toInt := by rw [kv_358]
              have htopv_358 := (q_EI.cast hq23_0 (p' := (piv.toInt - 1).toNat + 1) (by omega) rfl rfl rfl).top kv_358
              refine lv_iconst (v := 3) hx hb dX9_behindUnit_73 (by decide) ?_
              refine lv_icmp_ne (tgt := 87) hx hb dX9_behindUnit_74 (by decide) (fun c_359 => ?_) (fun c_359 => ?_)
              · have tc_359 := q_ne c_359
                refine lv_aload_n hx hb dX9_behindUnit_87 rfl (lv_at hl 1 rfl) (lv_aload_n hx hb dX9_behindUnit_88 rfl (lv_at hl 1 rfl) (qg_X9_41 hx hb hts i_X9 hown hK hP357 0 rfl k_23 (q_sn efs357 (by decide) fr_fz_p0_41) dX9_behindUnit_89 (lv_aload_n hx hb dX9_behindUnit_92 rfl (lv_at hl 1 rfl) (qg_X9_48 hx hb hts i_X9 hown hK hP357 0 rfl k_5 (q_sa efs357 (OKX9_l ho_fz_p0) (by decide)) dX9_behindUnit_93 (q_ild hx hb hK hP357 3 2 rfl rfl (q_in (by omega) (by omega)) dX9_behindUnit_96 (fun v_360 ev_360 => ?_))))))
                have kv_360 := q_ix (n := (piv.toInt - 1).toNat) ev_360 (by omega) (by omega)
                have uv_360 : v_360.toInt = (b_p0_eSign (piv.toInt - 1).toNat).toInt := by rw [kv_360]
                refine lv_iconst (v := 0) hx hb dX9_behindUnit_97 (by decide) ?_
                refine q_cVv (As := [.int v_360, .int 0]) (rest := []) q_w0 trivial hK hP357 hDa za_r_behindUnit hS357 hA [0, 1, 2] [0, 1] (by decide +kernel) ⟨hx, hb, hml, hown, hts⟩ (r_emit l dC dI H357.size p0 fs357 p0_code c_p0_code bz_p0_code p0_codeNumber c_p0_codeNumber bz_p0_codeNumber v_360 0 cov ho357 ((q_sn efs357 (by decide) fr_fz_p0_38)) ((q_sn efs357 (by decide) fr_fz_p0_39)) ((q_sn efs357 (by decide) fv_fz_p0_45)) ((by omega))) rfl rfl (cwV 2 hts (p1_gV m_24 m_25 m_26 m_3 g_r_emit gz_r_emit) rfl rfl rfl (by decide +kernel) ⟨by decide, by decide⟩) (va_recv hK hP357 (ci := 8) (q0 := 0) rfl rfl) zm_r_emit rfl hl.1 rfl (Nat.le_of_ble_eq_true rfl) dX9_behindUnit_98 ⟨by decide, by decide⟩ (fun H362 lo362 hG362 hS362 => ?_)
                obtain ⟨o_363, o_364, o_365, o_366, ho_367, hf_368, z_369, z_370, z_371, hQ362⟩ := hG362
                have hP362 : va_P (dC, dI) vwCl (zW_r_behindUnit p0 o_363 p0_code c_p0_code o_364 p0_codeNumber c_p0_codeNumber o_365 p0_eSign c_p0_eSign b_p0_eSign p0_eWhat c_p0_eWhat b_p0_eWhat p0_text c_p0_text b_p0_text) H362 := hQ362
                clear hQ362 hP357 hS357
                refine lv_goto (tgt := 23) hx hb dX9_behindUnit_101 (by decide) ?_
                have hEn := q_EI.cast (q_EI.pop (p := (piv.toInt - 1).toNat) (wi' := wiv.toInt) (q_EI.cast hq23_0 (by omega) rfl rfl rfl) kv_358 kv_360 (by omega) z_371 (by rw [if_neg (by omega)])) (p' := v_356.toInt.toNat) (co' := o_366.toInt) (by omega) (by omega) rfl rfl
                have hbn := hEn.bd
                exact ih23 (fu23 - 1) (by omega) o_363 o_366 wiv v_356 o_364 o_365 _ _ _ (by omega) ho_367 ((hf_fz_p0.st efs357 (by decide)).tr hf_368 (by decide)) (hf_368.u (by decide) (q_sn efs357 (by decide) fr_fz_p0_1)) (hf_368.u (by decide) (q_sn efs357 (by decide) fh_fz_p0_3)) (hf_368.u (by decide) (q_sn efs357 (by decide) fh_fz_p0_4)) (hf_368.u (by decide) (q_sn efs357 (by decide) fh_fz_p0_6)) (hf_368.u (by decide) (q_sn efs357 (by decide) fh_fz_p0_7)) (hf_368.u (by decide) (q_sn efs357 (by decide) fh_fz_p0_8)) (hf_368.u (by decide) (q_sn efs357 (by decide) fr_fz_p0_38)) (hf_368.u (by decide) (q_sn efs357 (by decide) fr_fz_p0_39)) (hf_368.u (by decide) (q_sn efs357 (by decide) fr_fz_p0_40)) (hf_368.u (by decide) (q_sn efs357 (by decide) fr_fz_p0_41)) (hf_368.u (by decide) (q_sn efs357 (by decide) fh_fz_p0_44)) z_369 (by omega) (hf_368.u (by decide) (q_sn efs357 (by decide) fh_fz_p0_46)) (hf_368.u (by decide) (q_sn efs357 (by decide) fv_fz_p0_47)) (by omega) (hf_368.u (by decide) (q_sa efs357 (OKX9_l ho_fz_p0) (by decide))) (by omega) hEn (hq23_1.up z_371 (by omega) (by omega)) (by omega) hP362 hS362 (lv_sub hl [0, 1] rfl)
              · have tc_359 := q_eqN c_359
                refine lv_aload_n hx hb dX9_behindUnit_77 rfl (lv_at hl 1 rfl) (lv_dup hx hb dX9_behindUnit_78 rfl (qg_X9_47 hx hb hts i_X9 hown hK hP357 0 rfl k_6 (q_sn efs357 (by decide) fv_fz_p0_47) dX9_behindUnit_79 (lv_iconst (v := 1) hx hb dX9_behindUnit_82 (by decide) (lv_isub hx hb dX9_behindUnit_83 (lv_topi fun v_372 ev_372 => ?_)))))
                have tv_372 := q_sub ev_372 (by omega) (by omega)
                refine qp_X9_47 hx hb hts i_X9 hown hK hP357 hDa za_r_behindUnit hS357 0 rfl k_6 (OKX9_l ho357) dX9_behindUnit_84 (fun H373 lo373 fs373 efs373 (hP373 : va_P (dC, dI) vwCl (zW_r_behindUnit p0 fs373 p0_code c_p0_code bz_p0_code p0_codeNumber c_p0_codeNumber bz_p0_codeNumber p0_eSign c_p0_eSign b_p0_eSign p0_eWhat c_p0_eWhat b_p0_eWhat p0_text c_p0_text b_p0_text) H373) hS373 => ?_)
                have ho373 := OKX9_p47 ho357 efs373
                clear hP357 hS357
                refine lv_aload_n hx hb dX9_behindUnit_87 rfl (lv_at hl 1 rfl) (lv_aload_n hx hb dX9_behindUnit_88 rfl (lv_at hl 1 rfl) (qg_X9_41 hx hb hts i_X9 hown hK hP373 0 rfl k_23 (q_sn efs373 (by decide) (q_sn efs357 (by decide) fr_fz_p0_41)) dX9_behindUnit_89 (lv_aload_n hx hb dX9_behindUnit_92 rfl (lv_at hl 1 rfl) (qg_X9_48 hx hb hts i_X9 hown hK hP373 0 rfl k_5 (q_sn efs373 (by decide) (q_sa efs357 (OKX9_l ho_fz_p0) (by decide))) dX9_behindUnit_93 (q_ild hx hb hK hP373 3 2 rfl rfl (q_in (by omega) (by omega)) dX9_behindUnit_96 (fun v_374 ev_374 => ?_))))))
                have kv_374 := q_ix (n := (piv.toInt - 1).toNat) ev_374 (by omega) (by omega)
                have uv_374 : v_374.toInt = (b_p0_eSign (piv.toInt - 1).toNat).toInt := by rw [kv_374]
                refine lv_iconst (v := 0) hx hb dX9_behindUnit_97 (by decide) ?_
                refine q_cVv (As := [.int v_374, .int 0]) (rest := []) q_w0 trivial hK hP373 hDa za_r_behindUnit hS373 hA [0, 1, 2] [0, 1] (by decide +kernel) ⟨hx, hb, hml, hown, hts⟩ (r_emit l dC dI H373.size p0 fs373 p0_code c_p0_code bz_p0_code p0_codeNumber c_p0_codeNumber bz_p0_codeNumber v_374 0 cov ho373 ((q_sn efs373 (by decide) (q_sn efs357 (by decide) fr_fz_p0_38))) ((q_sn efs373 (by decide) (q_sn efs357 (by decide) fr_fz_p0_39))) ((q_sn efs373 (by decide) (q_sn efs357 (by decide) fv_fz_p0_45))) ((by omega))) rfl rfl (cwV 2 hts (p1_gV m_24 m_25 m_26 m_3 g_r_emit gz_r_emit) rfl rfl rfl (by decide +kernel) ⟨by decide, by decide⟩) (va_recv hK hP373 (ci := 8) (q0 := 0) rfl rfl) zm_r_emit rfl hl.1 rfl (Nat.le_of_ble_eq_true rfl) dX9_behindUnit_98 ⟨by decide, by decide⟩ (fun H376 lo376 hG376 hS376 => ?_)
                obtain ⟨o_377, o_378, o_379, o_380, ho_381, hf_382, z_383, z_384, z_385, hQ376⟩ := hG376
                have hP376 : va_P (dC, dI) vwCl (zW_r_behindUnit p0 o_377 p0_code c_p0_code o_378 p0_codeNumber c_p0_codeNumber o_379 p0_eSign c_p0_eSign b_p0_eSign p0_eWhat c_p0_eWhat b_p0_eWhat p0_text c_p0_text b_p0_text) H376 := hQ376
                clear hQ376 hP373 hS373
                refine lv_goto (tgt := 23) hx hb dX9_behindUnit_101 (by decide) ?_
                have hEn := q_EI.cast (q_EI.pop (p := (piv.toInt - 1).toNat) (wi' := v_372.toInt) (q_EI.cast hq23_0 (by omega) rfl rfl rfl) kv_358 kv_374 (by omega) z_385 (by rw [if_pos (by omega)]; omega)) (p' := v_356.toInt.toNat) (co' := o_380.toInt) (by omega) (by omega) rfl rfl
                have hbn := hEn.bd
                exact ih23 (fu23 - 1) (by omega) o_377 o_380 v_372 v_356 o_378 o_379 _ _ _ (by omega) ho_381 (((hf_fz_p0.st efs357 (by decide)).st efs373 (by decide)).tr hf_382 (by decide)) (hf_382.u (by decide) (q_sn efs373 (by decide) (q_sn efs357 (by decide) fr_fz_p0_1))) (hf_382.u (by decide) (q_sn efs373 (by decide) (q_sn efs357 (by decide) fh_fz_p0_3))) (hf_382.u (by decide) (q_sn efs373 (by decide) (q_sn efs357 (by decide) fh_fz_p0_4))) (hf_382.u (by decide) (q_sn efs373 (by decide) (q_sn efs357 (by decide) fh_fz_p0_6))) (hf_382.u (by decide) (q_sn efs373 (by decide) (q_sn efs357 (by decide) fh_fz_p0_7))) (hf_382.u (by decide) (q_sn efs373 (by decide) (q_sn efs357 (by decide) fh_fz_p0_8))) (hf_382.u (by decide) (q_sn efs373 (by decide) (q_sn efs357 (by decide) fr_fz_p0_38))) (hf_382.u (by decide) (q_sn efs373 (by decide) (q_sn efs357 (by decide) fr_fz_p0_39))) (hf_382.u (by decide) (q_sn efs373 (by decide) (q_sn efs357 (by decide) fr_fz_p0_40))) (hf_382.u (by decide) (q_sn efs373 (by decide) (q_sn efs357 (by decide) fr_fz_p0_41))) (hf_382.u (by decide) (q_sn efs373 (by decide) (q_sn efs357 (by decide) fh_fz_p0_44))) z_383 (by omega) (hf_382.u (by decide) (q_sn efs373 (by decide) (q_sn efs357 (by decide) fh_fz_p0_46))) (hf_382.u (by decide) (q_sa efs373 (OKX9_l ho357) (by decide))) (by omega) (hf_382.u (by decide) (q_sn efs373 (by decide) (q_sa efs357 (OKX9_l ho_fz_p0) (by decide)))) (by omega) hEn (hq23_1.up z_385 (by omega) (by omega)) (by omega) hP376 hS376 (lv_sub hl [0, 1] rfl)
      exact key23 119 f_p0 co wi pi b_p0_code b_p0_codeNumber _ _ _ (by omega) ho_p0 q_fr.rf fr_p0_1 pf_sz pf_fk pf_at0 pf_en pf_tk fr_p0_38 fr_p0_39 fr_p0_40 fr_p0_41 pf_rb pf_co (by omega) pf_un pf_wi (by omega) pf_pi (by omega) hEI q_offc.rf (by omega) hP277 hS277 (lv_sub hl [0, 1] rfl)
