def zo_r_pushE : List Cond := [.code yX9_pushE cX9_pushE 3 none, .fieldLink RX9 110 "BowWalkModel" "eWhat" "[I", .fieldLink RX9 339 "BowWalkModel" "piled" "I", .fieldLink RX9 113 "BowWalkModel" "eSign" "[I"]
def zw_r_pushE : List Cond := zo_r_pushE ++ (wsX90 ++ [])
theorem gz_r_pushE : zw_r_pushE.all goodWord = true := p1_ga (by decide +kernel) (p1_ga gk_X9 p1_g0)
theorem iz_r_pushE : ∀ w ∈ zw_r_pushE, w ∈ lw_tbl := p1_ia (p1_all [1394, 1077, 1085, 1078] (by decide +kernel)) (p1_ia ik_X9 p1_i0)
def zW_r_pushE (p0 : Nat) (f_p0 : List Value) (p0_eSign : Nat) (c_p0_eSign : ClassId) (b_p0_eSign : Nat → Int32) (p0_eWhat : Nat) (c_p0_eWhat : ClassId) (b_p0_eWhat : Nat → Int32) : va_W := [(p0, .inr (8, f_p0)), (p0_eSign, .inl (c_p0_eSign, 120, .inl b_p0_eSign)), (p0_eWhat, .inl (c_p0_eWhat, 120, .inl b_p0_eWhat))]
def zT_r_pushE (c_p0_eSign : ClassId) (c_p0_eWhat : ClassId) : List (ClassId × FieldType) := [(c_p0_eSign, .int), (c_p0_eWhat, .int)]
def zA_r_pushE (p0 : Nat) (p0_eSign : Nat) (p0_eWhat : Nat) : List Nat := [p0, p0_eSign, p0_eWhat]
theorem za_r_pushE {p0 : Nat} {f_p0 : List Value} {p0_eSign : Nat} {c_p0_eSign : ClassId} {b_p0_eSign : Nat → Int32} {p0_eWhat : Nat} {c_p0_eWhat : ClassId} {b_p0_eWhat : Nat → Int32} : (zW_r_pushE p0 f_p0 p0_eSign c_p0_eSign b_p0_eSign p0_eWhat c_p0_eWhat b_p0_eWhat).map Prod.fst = (zA_r_pushE p0 p0_eSign p0_eWhat) := rfl
def zG_r_pushE (p0 : Nat) (f_p0 : List Value) (p0_eSign : Nat) (c_p0_eSign : ClassId) (b_p0_eSign : Nat → Int32) (p0_eWhat : Nat) (c_p0_eWhat : ClassId) (b_p0_eWhat : Nat → Int32) (a1 : Int32) (a2 : Int32) (pi : Int32) (X : va_W → Prop) : Prop := ∃ (y_p0 : List Value) (y_p0_eSign : Nat → Int32) (y_p0_eWhat : Nat → Int32) (pi1 : Int32), OKX9 y_p0 ∧ q_fr [48] f_p0 y_p0 ∧ q_if y_p0 48 pi1 ∧ (pi1.toInt = pi.toInt + 1) ∧ (y_p0_eWhat = upd b_p0_eWhat pi.toInt.toNat a1) ∧ (y_p0_eSign = upd b_p0_eSign pi.toInt.toNat a2) ∧ X (zW_r_pushE p0 y_p0 p0_eSign c_p0_eSign y_p0_eSign p0_eWhat c_p0_eWhat y_p0_eWhat)
theorem zm_r_pushE {p0 : Nat} {f_p0 : List Value} {p0_eSign : Nat} {c_p0_eSign : ClassId} {b_p0_eSign : Nat → Int32} {p0_eWhat : Nat} {c_p0_eWhat : ClassId} {b_p0_eWhat : Nat → Int32} {a1 : Int32} {a2 : Int32} {pi : Int32} : ∀ X Y : va_W → Prop, (∀ w, X w → Y w) → zG_r_pushE p0 f_p0 p0_eSign c_p0_eSign b_p0_eSign p0_eWhat c_p0_eWhat b_p0_eWhat a1 a2 pi X → zG_r_pushE p0 f_p0 p0_eSign c_p0_eSign b_p0_eSign p0_eWhat c_p0_eWhat b_p0_eWhat a1 a2 pi Y := fun X Y h h1 => by obtain ⟨x0, x1, x2, x3, x4, x5, x6, x7, x8, x9, hx⟩ := h1; exact ⟨x0, x1, x2, x3, x4, x5, x6, x7, x8, x9, h _ hx⟩
set_option maxHeartbeats 4000000 in
set_option maxRecDepth 100000 in
theorem r_pushE (l : Launch) (dC : Nat → ClassId) (dI : Nat → Nat → Nat) (sz : Nat) (p0 : Nat) (f_p0 : List Value) (p0_eSign : Nat) (c_p0_eSign : ClassId) (b_p0_eSign : Nat → Int32) (p0_eWhat : Nat) (c_p0_eWhat : ClassId) (b_p0_eWhat : Nat → Int32) (a1 : Int32) (a2 : Int32) (pi : Int32) (ho_p0 : OKX9 f_p0) (fr_p0_40 : q_rf f_p0 40 p0_eWhat) (fr_p0_41 : q_rf f_p0 41 p0_eSign) (pf_pi : q_if f_p0 48 pi) (hp : 0 ≤ pi.toInt ∧ pi.toInt ≤ 119) : Met l yX9_pushE zw_r_pushE ({ frames := 0, cells := 0, slots := 0, locals := 0 }) (va_Pc [.ref p0, .int a1, .int a2] (q_pre (dC, dI) (zW_r_pushE p0 f_p0 p0_eSign c_p0_eSign b_p0_eSign p0_eWhat c_p0_eWhat b_p0_eWhat) (zT_r_pushE c_p0_eSign c_p0_eWhat) q_E0 sz)) (q_Qv (dC, dI) (zG_r_pushE p0 f_p0 p0_eSign c_p0_eSign b_p0_eSign p0_eWhat c_p0_eWhat b_p0_eWhat a1 a2 pi) (zA_r_pushE p0 p0_eSign p0_eWhat) (va_A (zW_r_pushE p0 f_p0 p0_eSign c_p0_eSign b_p0_eSign p0_eWhat c_p0_eWhat b_p0_eWhat) sz)) 0 0 (va_A (zW_r_pushE p0 f_p0 p0_eSign c_p0_eSign b_p0_eSign p0_eWhat c_p0_eWhat b_p0_eWhat) sz) := by
  refine Met.ofW (cc := cX9_pushE) (maxL := 3) (ret := none) (by decide) rfl ?_
  intro p e s m args below meth c s₁ B hml hv
  obtain ⟨rfl, hsz, hP, hK, hD0, hE⟩ := hv
  have hx := B.exec
  have hb := B.bytes
  have hr := B.returns
  have hts := atoms_spec (ws := zw_r_pushE) B.pre
  have hown : s.vm.findClass RX9 = some m.cls := findClass_of_methodNamed B.named
  have hlocks := B.notSynchronized
  subst hsz
  have hD := hD0.self (sz := s.heap.size)
  generalize hAe : va_A (zW_r_pushE p0 f_p0 p0_eSign c_p0_eSign b_p0_eSign p0_eWhat c_p0_eWhat b_p0_eWhat) s.heap.size = A at hD hE ⊢
  have hA : ∀ q : Nat, s.heap.size ≤ q → A q := fun q h => by rw [← hAe]; exact Or.inr h
  have hDa : q_DA A (zA_r_pushE p0 p0_eSign p0_eWhat) := q_DA.mk hD za_r_pushE
  clear hAe hD0 hD
  have hS : va_S A s.heap s.heap [] := va_S.rf
  have m_0 : (.fieldLink RX9 110 "BowWalkModel" "eWhat" "[I" : Cond) ∈ zw_r_pushE := List.mem_append_left _ (List.mem_of_getElem? (i := 1) rfl)
  have k_0 := hts _ m_0
  have m_1 : (.fieldLink RX9 339 "BowWalkModel" "piled" "I" : Cond) ∈ zw_r_pushE := List.mem_append_left _ (List.mem_of_getElem? (i := 2) rfl)
  have k_1 := hts _ m_1
  have m_2 : (.fieldLink RX9 113 "BowWalkModel" "eSign" "[I" : Cond) ∈ zw_r_pushE := List.mem_append_left _ (List.mem_of_getElem? (i := 3) rfl)
  have k_2 := hts _ m_2
  have i_X9 : ∀ w ∈ u_ws RX9 TX9 81, w ∈ zw_r_pushE := fun w h => List.mem_append_right _ (List.mem_append_left _ h)
  have lt_1 : (1 : Int32).toInt = 1 := by decide
  have hl := lv_entry ([.ref p0, .int a1, .int a2]) (n := 3) (Nat.le_of_ble_eq_true rfl)
  rw [lg_entry_eq]
  generalize (lg_sl ([.ref p0, .int a1, .int a2]) ++ List.replicate (3 - (lg_sl ([.ref p0, .int a1, .int a2])).length) Slot.unset).toArray = ls at hl ⊢
  have hl : lv_has ls 3 [(0, .ref p0), (1, .int a1), (2, .int a2)] := hl
  refine lv_aload_n hx hb dX9_pushE_0 rfl (lv_at hl 0 rfl) (qg_X9_40 hx hb hts i_X9 hown hK hP 0 rfl k_0 fr_p0_40 dX9_pushE_1 (lv_aload_n hx hb dX9_pushE_4 rfl (lv_at hl 0 rfl) (qg_X9_48 hx hb hts i_X9 hown hK hP 0 rfl k_1 pf_pi dX9_pushE_5 (lv_iload_n hx hb dX9_pushE_8 rfl (lv_at hl 1 rfl) (q_ist hx hb hK hP hDa za_r_pushE hS 2 1 rfl rfl (q_in (by omega) (by omega)) dX9_pushE_9 (fun H1 lo1 g1 eg1 (hP1 : va_P (dC, dI) vwCl (zW_r_pushE p0 f_p0 p0_eSign c_p0_eSign b_p0_eSign p0_eWhat c_p0_eWhat g1) H1) hS1 => ?_))))))
  clear hP hS
  refine lv_aload_n hx hb dX9_pushE_10 rfl (lv_at hl 0 rfl) (qg_X9_41 hx hb hts i_X9 hown hK hP1 0 rfl k_2 fr_p0_41 dX9_pushE_11 (lv_aload_n hx hb dX9_pushE_14 rfl (lv_at hl 0 rfl) (qg_X9_48 hx hb hts i_X9 hown hK hP1 0 rfl k_1 pf_pi dX9_pushE_15 (lv_iload_n hx hb dX9_pushE_18 rfl (lv_at hl 2 rfl) (q_ist hx hb hK hP1 hDa za_r_pushE hS1 1 0 rfl rfl (q_in (by omega) (by omega)) dX9_pushE_19 (fun H2 lo2 g2 eg2 (hP2 : va_P (dC, dI) vwCl (zW_r_pushE p0 f_p0 p0_eSign c_p0_eSign g2 p0_eWhat c_p0_eWhat g1) H2) hS2 => ?_))))))
  clear hP1 hS1
  refine lv_aload_n hx hb dX9_pushE_20 rfl (lv_at hl 0 rfl) (lv_dup hx hb dX9_pushE_21 rfl (qg_X9_48 hx hb hts i_X9 hown hK hP2 0 rfl k_1 pf_pi dX9_pushE_22 (lv_iconst (v := 1) hx hb dX9_pushE_25 (by decide) (lv_iadd hx hb dX9_pushE_26 (lv_topi fun v_3 ev_3 => ?_)))))
  have tv_3 := q_add ev_3 (by omega) (by omega)
  refine qp_X9_48 hx hb hts i_X9 hown hK hP2 hDa za_r_pushE hS2 0 rfl k_1 (OKX9_l ho_p0) dX9_pushE_27 (fun H4 lo4 fs4 efs4 (hP4 : va_P (dC, dI) vwCl (zW_r_pushE p0 fs4 p0_eSign c_p0_eSign g2 p0_eWhat c_p0_eWhat g1) H4) hS4 => ?_)
  have ho4 := OKX9_p48 ho_p0 efs4
  clear hP2 hS2
  exact q_vret hx hb hr hlocks hS4 dX9_pushE_30 ⟨fs4, g2, g1, v_3, ho4, (q_fr.rf.st efs4 (by decide)), (q_sa efs4 (OKX9_l ho_p0) (by decide)), (by omega), eg1, eg2, hP4, za_r_pushE⟩
def zo_r_emit : List Cond := [.code yX9_emit cX9_emit 3 none, .fieldLink RX9 104 "BowWalkModel" "code" "[I", .fieldLink RX9 282 "BowWalkModel" "codes" "I", .fieldLink RX9 107 "BowWalkModel" "codeNumber" "[I"]
def zw_r_emit : List Cond := zo_r_emit ++ (wsX90 ++ [])
theorem gz_r_emit : zw_r_emit.all goodWord = true := p1_ga (by decide +kernel) (p1_ga gk_X9 p1_g0)
theorem iz_r_emit : ∀ w ∈ zw_r_emit, w ∈ lw_tbl := p1_ia (p1_all [1410, 1075, 1082, 1076] (by decide +kernel)) (p1_ia ik_X9 p1_i0)
def zW_r_emit (p0 : Nat) (f_p0 : List Value) (p0_code : Nat) (c_p0_code : ClassId) (b_p0_code : Nat → Int32) (p0_codeNumber : Nat) (c_p0_codeNumber : ClassId) (b_p0_codeNumber : Nat → Int32) : va_W := [(p0, .inr (8, f_p0)), (p0_code, .inl (c_p0_code, 1800, .inl b_p0_code)), (p0_codeNumber, .inl (c_p0_codeNumber, 1800, .inl b_p0_codeNumber))]
def zT_r_emit (c_p0_code : ClassId) (c_p0_codeNumber : ClassId) : List (ClassId × FieldType) := [(c_p0_code, .int), (c_p0_codeNumber, .int)]
def zA_r_emit (p0 : Nat) (p0_code : Nat) (p0_codeNumber : Nat) : List Nat := [p0, p0_code, p0_codeNumber]
theorem za_r_emit {p0 : Nat} {f_p0 : List Value} {p0_code : Nat} {c_p0_code : ClassId} {b_p0_code : Nat → Int32} {p0_codeNumber : Nat} {c_p0_codeNumber : ClassId} {b_p0_codeNumber : Nat → Int32} : (zW_r_emit p0 f_p0 p0_code c_p0_code b_p0_code p0_codeNumber c_p0_codeNumber b_p0_codeNumber).map Prod.fst = (zA_r_emit p0 p0_code p0_codeNumber) := rfl
def zG_r_emit (p0 : Nat) (f_p0 : List Value) (p0_code : Nat) (c_p0_code : ClassId) (b_p0_code : Nat → Int32) (p0_codeNumber : Nat) (c_p0_codeNumber : ClassId) (b_p0_codeNumber : Nat → Int32) (a1 : Int32) (a2 : Int32) (co : Int32) (X : va_W → Prop) : Prop := ∃ (y_p0 : List Value) (y_p0_code : Nat → Int32) (y_p0_codeNumber : Nat → Int32) (co1 : Int32), OKX9 y_p0 ∧ q_fr [45] f_p0 y_p0 ∧ q_if y_p0 45 co1 ∧ (co1.toInt = co.toInt + 1) ∧ (y_p0_code = upd b_p0_code co.toInt.toNat a1) ∧ X (zW_r_emit p0 y_p0 p0_code c_p0_code y_p0_code p0_codeNumber c_p0_codeNumber y_p0_codeNumber)
theorem zm_r_emit {p0 : Nat} {f_p0 : List Value} {p0_code : Nat} {c_p0_code : ClassId} {b_p0_code : Nat → Int32} {p0_codeNumber : Nat} {c_p0_codeNumber : ClassId} {b_p0_codeNumber : Nat → Int32} {a1 : Int32} {a2 : Int32} {co : Int32} : ∀ X Y : va_W → Prop, (∀ w, X w → Y w) → zG_r_emit p0 f_p0 p0_code c_p0_code b_p0_code p0_codeNumber c_p0_codeNumber b_p0_codeNumber a1 a2 co X → zG_r_emit p0 f_p0 p0_code c_p0_code b_p0_code p0_codeNumber c_p0_codeNumber b_p0_codeNumber a1 a2 co Y := fun X Y h h1 => by obtain ⟨x0, x1, x2, x3, x4, x5, x6, x7, x8, hx⟩ := h1; exact ⟨x0, x1, x2, x3, x4, x5, x6, x7, x8, h _ hx⟩
set_option maxHeartbeats 4000000 in
set_option maxRecDepth 100000 in
theorem r_emit (l : Launch) (dC : Nat → ClassId) (dI : Nat → Nat → Nat) (sz : Nat) (p0 : Nat) (f_p0 : List Value) (p0_code : Nat) (c_p0_code : ClassId) (b_p0_code : Nat → Int32) (p0_codeNumber : Nat) (c_p0_codeNumber : ClassId) (b_p0_codeNumber : Nat → Int32) (a1 : Int32) (a2 : Int32) (co : Int32) (ho_p0 : OKX9 f_p0) (fr_p0_38 : q_rf f_p0 38 p0_code) (fr_p0_39 : q_rf f_p0 39 p0_codeNumber) (pf_co : q_if f_p0 45 co) (hp : 0 ≤ co.toInt ∧ co.toInt ≤ 1799) : Met l yX9_emit zw_r_emit ({ frames := 0, cells := 0, slots := 0, locals := 0 }) (va_Pc [.ref p0, .int a1, .int a2] (q_pre (dC, dI) (zW_r_emit p0 f_p0 p0_code c_p0_code b_p0_code p0_codeNumber c_p0_codeNumber b_p0_codeNumber) (zT_r_emit c_p0_code c_p0_codeNumber) q_E0 sz)) (q_Qv (dC, dI) (zG_r_emit p0 f_p0 p0_code c_p0_code b_p0_code p0_codeNumber c_p0_codeNumber b_p0_codeNumber a1 a2 co) (zA_r_emit p0 p0_code p0_codeNumber) (va_A (zW_r_emit p0 f_p0 p0_code c_p0_code b_p0_code p0_codeNumber c_p0_codeNumber b_p0_codeNumber) sz)) 0 0 (va_A (zW_r_emit p0 f_p0 p0_code c_p0_code b_p0_code p0_codeNumber c_p0_codeNumber b_p0_codeNumber) sz) := by
  refine Met.ofW (cc := cX9_emit) (maxL := 3) (ret := none) (by decide) rfl ?_
  intro p e s m args below meth c s₁ B hml hv
  obtain ⟨rfl, hsz, hP, hK, hD0, hE⟩ := hv
  have hx := B.exec
  have hb := B.bytes
  have hr := B.returns
  have hts := atoms_spec (ws := zw_r_emit) B.pre
  have hown : s.vm.findClass RX9 = some m.cls := findClass_of_methodNamed B.named
  have hlocks := B.notSynchronized
  subst hsz
  have hD := hD0.self (sz := s.heap.size)
  generalize hAe : va_A (zW_r_emit p0 f_p0 p0_code c_p0_code b_p0_code p0_codeNumber c_p0_codeNumber b_p0_codeNumber) s.heap.size = A at hD hE ⊢
  have hA : ∀ q : Nat, s.heap.size ≤ q → A q := fun q h => by rw [← hAe]; exact Or.inr h
  have hDa : q_DA A (zA_r_emit p0 p0_code p0_codeNumber) := q_DA.mk hD za_r_emit
  clear hAe hD0 hD
  have hS : va_S A s.heap s.heap [] := va_S.rf
  have m_0 : (.fieldLink RX9 104 "BowWalkModel" "code" "[I" : Cond) ∈ zw_r_emit := List.mem_append_left _ (List.mem_of_getElem? (i := 1) rfl)
  have k_0 := hts _ m_0
  have m_1 : (.fieldLink RX9 282 "BowWalkModel" "codes" "I" : Cond) ∈ zw_r_emit := List.mem_append_left _ (List.mem_of_getElem? (i := 2) rfl)
  have k_1 := hts _ m_1
  have m_2 : (.fieldLink RX9 107 "BowWalkModel" "codeNumber" "[I" : Cond) ∈ zw_r_emit := List.mem_append_left _ (List.mem_of_getElem? (i := 3) rfl)
  have k_2 := hts _ m_2
  have i_X9 : ∀ w ∈ u_ws RX9 TX9 81, w ∈ zw_r_emit := fun w h => List.mem_append_right _ (List.mem_append_left _ h)
  have lt_1 : (1 : Int32).toInt = 1 := by decide
  have hl := lv_entry ([.ref p0, .int a1, .int a2]) (n := 3) (Nat.le_of_ble_eq_true rfl)
  rw [lg_entry_eq]
  generalize (lg_sl ([.ref p0, .int a1, .int a2]) ++ List.replicate (3 - (lg_sl ([.ref p0, .int a1, .int a2])).length) Slot.unset).toArray = ls at hl ⊢
  have hl : lv_has ls 3 [(0, .ref p0), (1, .int a1), (2, .int a2)] := hl
  refine lv_aload_n hx hb dX9_emit_0 rfl (lv_at hl 0 rfl) (qg_X9_38 hx hb hts i_X9 hown hK hP 0 rfl k_0 fr_p0_38 dX9_emit_1 (lv_aload_n hx hb dX9_emit_4 rfl (lv_at hl 0 rfl) (qg_X9_45 hx hb hts i_X9 hown hK hP 0 rfl k_1 pf_co dX9_emit_5 (lv_iload_n hx hb dX9_emit_8 rfl (lv_at hl 1 rfl) (q_ist hx hb hK hP hDa za_r_emit hS 1 0 rfl rfl (q_in (by omega) (by omega)) dX9_emit_9 (fun H1 lo1 g1 eg1 (hP1 : va_P (dC, dI) vwCl (zW_r_emit p0 f_p0 p0_code c_p0_code g1 p0_codeNumber c_p0_codeNumber b_p0_codeNumber) H1) hS1 => ?_))))))
  clear hP hS
  refine lv_aload_n hx hb dX9_emit_10 rfl (lv_at hl 0 rfl) (qg_X9_39 hx hb hts i_X9 hown hK hP1 0 rfl k_2 fr_p0_39 dX9_emit_11 (lv_aload_n hx hb dX9_emit_14 rfl (lv_at hl 0 rfl) (qg_X9_45 hx hb hts i_X9 hown hK hP1 0 rfl k_1 pf_co dX9_emit_15 (lv_iload_n hx hb dX9_emit_18 rfl (lv_at hl 2 rfl) (q_ist hx hb hK hP1 hDa za_r_emit hS1 2 1 rfl rfl (q_in (by omega) (by omega)) dX9_emit_19 (fun H2 lo2 g2 eg2 (hP2 : va_P (dC, dI) vwCl (zW_r_emit p0 f_p0 p0_code c_p0_code g1 p0_codeNumber c_p0_codeNumber g2) H2) hS2 => ?_))))))
  clear hP1 hS1
  refine lv_aload_n hx hb dX9_emit_20 rfl (lv_at hl 0 rfl) (lv_dup hx hb dX9_emit_21 rfl (qg_X9_45 hx hb hts i_X9 hown hK hP2 0 rfl k_1 pf_co dX9_emit_22 (lv_iconst (v := 1) hx hb dX9_emit_25 (by decide) (lv_iadd hx hb dX9_emit_26 (lv_topi fun v_3 ev_3 => ?_)))))
  have tv_3 := q_add ev_3 (by omega) (by omega)
  refine qp_X9_45 hx hb hts i_X9 hown hK hP2 hDa za_r_emit hS2 0 rfl k_1 (OKX9_l ho_p0) dX9_emit_27 (fun H4 lo4 fs4 efs4 (hP4 : va_P (dC, dI) vwCl (zW_r_emit p0 fs4 p0_code c_p0_code g1 p0_codeNumber c_p0_codeNumber g2) H4) hS4 => ?_)
  have ho4 := OKX9_p45 ho_p0 efs4
  clear hP2 hS2
  exact q_vret hx hb hr hlocks hS4 dX9_emit_30 ⟨fs4, g1, g2, v_3, ho4, (q_fr.rf.st efs4 (by decide)), (q_sa efs4 (OKX9_l ho_p0) (by decide)), (by omega), eg1, hP4, za_r_emit⟩
def zo_r_wordHere : List Cond := [.code yX9_wordHere cX9_wordHere 1 (some .int), .constantLong RX9 192 (499984590964), .methodLink RX9 268 yX9_isWord, .instanceMethod yX9_isWord, .selects RX9 yX9_isWord yX9_isWord, .initialized RX9, .constantLong RX9 212 (1818848101), .constantLong RX9 214 (482854658917), .constantLong RX9 184 (126913858204776), .constantLong RX9 186 (131277443786868), .constantLong RX9 188 (1819242087), .constantLong RX9 216 (126943972911973), .constantLong RX9 218 (495924637287)]
def zw_r_wordHere : List Cond := zo_r_wordHere ++ (zw_r_isWord ++ [])
theorem gz_r_wordHere : zw_r_wordHere.all goodWord = true := p1_ga (by decide +kernel) (p1_ga gz_r_isWord p1_g0)
theorem iz_r_wordHere : ∀ w ∈ zw_r_wordHere, w ∈ lw_tbl := p1_ia (p1_all [1406, 1307, 1339, 1341, 49, 116, 1317, 1318, 1303, 1304, 1305, 1319, 1320] (by decide +kernel)) (p1_ia iz_r_isWord p1_i0)
def zW_r_wordHere (p0 : Nat) (f_p0 : List Value) : va_W := [(p0, .inr (8, f_p0))]
def zT_r_wordHere : List (ClassId × FieldType) := []
def zA_r_wordHere (p0 : Nat) : List Nat := [p0]
theorem za_r_wordHere {p0 : Nat} {f_p0 : List Value} : (zW_r_wordHere p0 f_p0).map Prod.fst = (zA_r_wordHere p0) := rfl
def zG_r_wordHere (p0 : Nat) (f_p0 : List Value) (r : Int32) (X : va_W → Prop) : Prop := (r.toInt = 0 ∨ (97 ≤ r.toInt ∧ r.toInt ≤ 104)) ∧ X (zW_r_wordHere p0 f_p0)
theorem zm_r_wordHere {p0 : Nat} {f_p0 : List Value} : ∀ (r : Int32), ∀ X Y : va_W → Prop, (∀ w, X w → Y w) → zG_r_wordHere p0 f_p0 r X → zG_r_wordHere p0 f_p0 r Y := fun r X Y h h1 => by obtain ⟨x0, hx⟩ := h1; exact ⟨x0, h _ hx⟩
set_option maxHeartbeats 4000000 in
set_option maxRecDepth 100000 in
theorem r_wordHere (l : Launch) (dC : Nat → ClassId) (dI : Nat → Nat → Nat) (sz : Nat) (p0 : Nat) (f_p0 : List Value) (ho_p0 : OKX9 f_p0) : Met l yX9_wordHere zw_r_wordHere ({ frames := 1, cells := 0, slots := 0, locals := 22 }) (va_Pc [.ref p0] (q_pre (dC, dI) (zW_r_wordHere p0 f_p0) (zT_r_wordHere) q_E0 sz)) (q_Qi (dC, dI) (zG_r_wordHere p0 f_p0) (zA_r_wordHere p0) (va_A (zW_r_wordHere p0 f_p0) sz)) 0 0 (va_A (zW_r_wordHere p0 f_p0) sz) := by
  refine Met.ofW (cc := cX9_wordHere) (maxL := 1) (ret := (some .int)) (by decide) rfl ?_
  intro p e s m args below meth c s₁ B hml hv
  obtain ⟨rfl, hsz, hP, hK, hD0, hE⟩ := hv
  have hx := B.exec
  have hb := B.bytes
  have hr := B.returns
  have hts := atoms_spec (ws := zw_r_wordHere) B.pre
  have hown : s.vm.findClass RX9 = some m.cls := findClass_of_methodNamed B.named
  have hlocks := B.notSynchronized
  subst hsz
  have hD := hD0.self (sz := s.heap.size)
  generalize hAe : va_A (zW_r_wordHere p0 f_p0) s.heap.size = A at hD hE ⊢
  have hA : ∀ q : Nat, s.heap.size ≤ q → A q := fun q h => by rw [← hAe]; exact Or.inr h
  have hDa : q_DA A (zA_r_wordHere p0) := q_DA.mk hD za_r_wordHere
  clear hAe hD0 hD
  have hS : va_S A s.heap s.heap [] := va_S.rf
  have m_0 : (.constantLong RX9 192 (499984590964) : Cond) ∈ zw_r_wordHere := List.mem_append_left _ (List.mem_of_getElem? (i := 1) rfl)
  have k_0 := hts _ m_0
  have m_1 : (.methodLink RX9 268 yX9_isWord : Cond) ∈ zw_r_wordHere := List.mem_append_left _ (List.mem_of_getElem? (i := 2) rfl)
  have k_1 := hts _ m_1
  have m_2 : (.instanceMethod yX9_isWord : Cond) ∈ zw_r_wordHere := List.mem_append_left _ (List.mem_of_getElem? (i := 3) rfl)
  have k_2 := hts _ m_2
  have m_3 : (.selects RX9 yX9_isWord yX9_isWord : Cond) ∈ zw_r_wordHere := List.mem_append_left _ (List.mem_of_getElem? (i := 4) rfl)
  have k_3 := hts _ m_3
  have m_4 : (.initialized RX9 : Cond) ∈ zw_r_wordHere := List.mem_append_left _ (List.mem_of_getElem? (i := 5) rfl)
  have k_4 := hts _ m_4
  have m_5 : (.constantLong RX9 212 (1818848101) : Cond) ∈ zw_r_wordHere := List.mem_append_left _ (List.mem_of_getElem? (i := 6) rfl)
  have k_5 := hts _ m_5
  have m_6 : (.constantLong RX9 214 (482854658917) : Cond) ∈ zw_r_wordHere := List.mem_append_left _ (List.mem_of_getElem? (i := 7) rfl)
  have k_6 := hts _ m_6
  have m_7 : (.constantLong RX9 184 (126913858204776) : Cond) ∈ zw_r_wordHere := List.mem_append_left _ (List.mem_of_getElem? (i := 8) rfl)
  have k_7 := hts _ m_7
  have m_8 : (.constantLong RX9 186 (131277443786868) : Cond) ∈ zw_r_wordHere := List.mem_append_left _ (List.mem_of_getElem? (i := 9) rfl)
  have k_8 := hts _ m_8
  have m_9 : (.constantLong RX9 188 (1819242087) : Cond) ∈ zw_r_wordHere := List.mem_append_left _ (List.mem_of_getElem? (i := 10) rfl)
  have k_9 := hts _ m_9
  have m_10 : (.constantLong RX9 216 (126943972911973) : Cond) ∈ zw_r_wordHere := List.mem_append_left _ (List.mem_of_getElem? (i := 11) rfl)
  have k_10 := hts _ m_10
  have m_11 : (.constantLong RX9 218 (495924637287) : Cond) ∈ zw_r_wordHere := List.mem_append_left _ (List.mem_of_getElem? (i := 12) rfl)
  have k_11 := hts _ m_11
  have g_r_isWord : ∀ w ∈ zw_r_isWord, w ∈ zw_r_wordHere := fun w h => List.mem_append_right _ (List.mem_append_left _ h)
  have lt_0 : (0 : Int32).toInt = 0 := by decide
  have lt_1 : (1 : Int32).toInt = 1 := by decide
  have lt_97 : (97 : Int32).toInt = 97 := by decide
  have lt_98 : (98 : Int32).toInt = 98 := by decide
  have lt_99 : (99 : Int32).toInt = 99 := by decide
  have lt_100 : (100 : Int32).toInt = 100 := by decide
  have lt_101 : (101 : Int32).toInt = 101 := by decide
  have lt_102 : (102 : Int32).toInt = 102 := by decide
  have lt_103 : (103 : Int32).toInt = 103 := by decide
  have lt_104 : (104 : Int32).toInt = 104 := by decide
  have hl := lv_entry ([.ref p0]) (n := 1) (Nat.le_of_ble_eq_true rfl)
  rw [lg_entry_eq]
  generalize (lg_sl ([.ref p0]) ++ List.replicate (1 - (lg_sl ([.ref p0])).length) Slot.unset).toArray = ls at hl ⊢
  have hl : lv_has ls 1 [(0, .ref p0)] := hl
  refine lv_aload_n hx hb dX9_wordHere_0 rfl (lv_at hl 0 rfl) (lv_ldc2 (v := 499984590964) hx hb hown k_0 dX9_wordHere_1 ?_)
  obtain ⟨v_1, fv_1, tv_1⟩ := OKX9_g8 ho_p0
  obtain ⟨v_2, fv_2⟩ := OKX9_g10 ho_p0
  refine q_cVi (As := [.long 499984590964]) (rest := []) q_w0 trivial hK hP hDa za_r_wordHere hS hA [0] [] (by decide +kernel) ⟨hx, hb, hml, hown, hts⟩ (r_isWord l dC dI s.heap.size p0 f_p0 499984590964 v_1 v_2 ho_p0 fv_1 fv_2) rfl rfl (cwV 1 hts (p1_gV m_1 m_2 m_3 m_4 g_r_isWord gz_r_isWord) rfl rfl rfl (by decide +kernel) ⟨by decide, by decide⟩) (va_recv hK hP (ci := 8) (q0 := 0) rfl rfl) zm_r_isWord rfl hl.1 rfl (Nat.le_of_ble_eq_true rfl) dX9_wordHere_4 ⟨by decide, by decide⟩ (fun r_3 H4 lo4 hG4 hS4 => ?_)
  obtain ⟨z_5, hQ4⟩ := hG4
  have hP4 : va_P (dC, dI) vwCl (zW_r_wordHere p0 f_p0) H4 := hQ4
  clear hQ4 hP hS
  rcases z_5 with ⟨rfl, z_5⟩ | ⟨rfl, z_5⟩
  · refine lv_if_eq (tgt := 13) hx hb dX9_wordHere_7 (by decide) (fun c_6 => absurd c_6 (by decide)) (fun c_6 => ?_)
    refine lv_bipush (v := 97) hx hb dX9_wordHere_10 (by decide) ?_
    exact q_iret hx hb hr hlocks hS4 dX9_wordHere_12 ⟨(by omega), hP4, za_r_wordHere⟩
  · refine lv_if_eq (tgt := 13) hx hb dX9_wordHere_7 (by decide) (fun c_7 => ?_) (fun c_7 => absurd c_7 (by decide))
    refine lv_aload_n hx hb dX9_wordHere_13 rfl (lv_at hl 0 rfl) (lv_ldc2 (v := 1818848101) hx hb hown k_5 dX9_wordHere_14 ?_)
    refine q_cVi (As := [.long 1818848101]) (rest := []) q_w0 trivial hK hP4 hDa za_r_wordHere hS4 hA [0] [] (by decide +kernel) ⟨hx, hb, hml, hown, hts⟩ (r_isWord l dC dI H4.size p0 f_p0 1818848101 v_1 v_2 ho_p0 fv_1 fv_2) rfl rfl (cwV 1 hts (p1_gV m_1 m_2 m_3 m_4 g_r_isWord gz_r_isWord) rfl rfl rfl (by decide +kernel) ⟨by decide, by decide⟩) (va_recv hK hP4 (ci := 8) (q0 := 0) rfl rfl) zm_r_isWord rfl hl.1 rfl (Nat.le_of_ble_eq_true rfl) dX9_wordHere_17 ⟨by decide, by decide⟩ (fun r_8 H9 lo9 hG9 hS9 => ?_)
    obtain ⟨z_10, hQ9⟩ := hG9
    have hP9 : va_P (dC, dI) vwCl (zW_r_wordHere p0 f_p0) H9 := hQ9
    clear hQ9 hP4 hS4
    rcases z_10 with ⟨rfl, z_10⟩ | ⟨rfl, z_10⟩
    · refine lv_if_eq (tgt := 26) hx hb dX9_wordHere_20 (by decide) (fun c_11 => absurd c_11 (by decide)) (fun c_11 => ?_)
      refine lv_bipush (v := 98) hx hb dX9_wordHere_23 (by decide) ?_
      exact q_iret hx hb hr hlocks hS9 dX9_wordHere_25 ⟨(by omega), hP9, za_r_wordHere⟩
    · refine lv_if_eq (tgt := 26) hx hb dX9_wordHere_20 (by decide) (fun c_12 => ?_) (fun c_12 => absurd c_12 (by decide))
      refine lv_aload_n hx hb dX9_wordHere_26 rfl (lv_at hl 0 rfl) (lv_ldc2 (v := 482854658917) hx hb hown k_6 dX9_wordHere_27 ?_)
      refine q_cVi (As := [.long 482854658917]) (rest := []) q_w0 trivial hK hP9 hDa za_r_wordHere hS9 hA [0] [] (by decide +kernel) ⟨hx, hb, hml, hown, hts⟩ (r_isWord l dC dI H9.size p0 f_p0 482854658917 v_1 v_2 ho_p0 fv_1 fv_2) rfl rfl (cwV 1 hts (p1_gV m_1 m_2 m_3 m_4 g_r_isWord gz_r_isWord) rfl rfl rfl (by decide +kernel) ⟨by decide, by decide⟩) (va_recv hK hP9 (ci := 8) (q0 := 0) rfl rfl) zm_r_isWord rfl hl.1 rfl (Nat.le_of_ble_eq_true rfl) dX9_wordHere_30 ⟨by decide, by decide⟩ (fun r_13 H14 lo14 hG14 hS14 => ?_)
      obtain ⟨z_15, hQ14⟩ := hG14
      have hP14 : va_P (dC, dI) vwCl (zW_r_wordHere p0 f_p0) H14 := hQ14
      clear hQ14 hP9 hS9
      rcases z_15 with ⟨rfl, z_15⟩ | ⟨rfl, z_15⟩
      · refine lv_if_eq (tgt := 39) hx hb dX9_wordHere_33 (by decide) (fun c_16 => absurd c_16 (by decide)) (fun c_16 => ?_)
        refine lv_bipush (v := 99) hx hb dX9_wordHere_36 (by decide) ?_
        exact q_iret hx hb hr hlocks hS14 dX9_wordHere_38 ⟨(by omega), hP14, za_r_wordHere⟩
      · refine lv_if_eq (tgt := 39) hx hb dX9_wordHere_33 (by decide) (fun c_17 => ?_) (fun c_17 => absurd c_17 (by decide))
        refine lv_aload_n hx hb dX9_wordHere_39 rfl (lv_at hl 0 rfl) (lv_ldc2 (v := 126913858204776) hx hb hown k_7 dX9_wordHere_40 ?_)
        refine q_cVi (As := [.long 126913858204776]) (rest := []) q_w0 trivial hK hP14 hDa za_r_wordHere hS14 hA [0] [] (by decide +kernel) ⟨hx, hb, hml, hown, hts⟩ (r_isWord l dC dI H14.size p0 f_p0 126913858204776 v_1 v_2 ho_p0 fv_1 fv_2) rfl rfl (cwV 1 hts (p1_gV m_1 m_2 m_3 m_4 g_r_isWord gz_r_isWord) rfl rfl rfl (by decide +kernel) ⟨by decide, by decide⟩) (va_recv hK hP14 (ci := 8) (q0 := 0) rfl rfl) zm_r_isWord rfl hl.1 rfl (Nat.le_of_ble_eq_true rfl) dX9_wordHere_43 ⟨by decide, by decide⟩ (fun r_18 H19 lo19 hG19 hS19 => ?_)
        obtain ⟨z_20, hQ19⟩ := hG19
        have hP19 : va_P (dC, dI) vwCl (zW_r_wordHere p0 f_p0) H19 := hQ19
        clear hQ19 hP14 hS14
        rcases z_20 with ⟨rfl, z_20⟩ | ⟨rfl, z_20⟩
        · refine lv_if_eq (tgt := 52) hx hb dX9_wordHere_46 (by decide) (fun c_21 => absurd c_21 (by decide)) (fun c_21 => ?_)
          refine lv_bipush (v := 100) hx hb dX9_wordHere_49 (by decide) ?_
          exact q_iret hx hb hr hlocks hS19 dX9_wordHere_51 ⟨(by omega), hP19, za_r_wordHere⟩
        · refine lv_if_eq (tgt := 52) hx hb dX9_wordHere_46 (by decide) (fun c_22 => ?_) (fun c_22 => absurd c_22 (by decide))
          refine lv_aload_n hx hb dX9_wordHere_52 rfl (lv_at hl 0 rfl) (lv_ldc2 (v := 131277443786868) hx hb hown k_8 dX9_wordHere_53 ?_)
          refine q_cVi (As := [.long 131277443786868]) (rest := []) q_w0 trivial hK hP19 hDa za_r_wordHere hS19 hA [0] [] (by decide +kernel) ⟨hx, hb, hml, hown, hts⟩ (r_isWord l dC dI H19.size p0 f_p0 131277443786868 v_1 v_2 ho_p0 fv_1 fv_2) rfl rfl (cwV 1 hts (p1_gV m_1 m_2 m_3 m_4 g_r_isWord gz_r_isWord) rfl rfl rfl (by decide +kernel) ⟨by decide, by decide⟩) (va_recv hK hP19 (ci := 8) (q0 := 0) rfl rfl) zm_r_isWord rfl hl.1 rfl (Nat.le_of_ble_eq_true rfl) dX9_wordHere_56 ⟨by decide, by decide⟩ (fun r_23 H24 lo24 hG24 hS24 => ?_)
          obtain ⟨z_25, hQ24⟩ := hG24
          have hP24 : va_P (dC, dI) vwCl (zW_r_wordHere p0 f_p0) H24 := hQ24
          clear hQ24 hP19 hS19
          rcases z_25 with ⟨rfl, z_25⟩ | ⟨rfl, z_25⟩
          · refine lv_if_eq (tgt := 65) hx hb dX9_wordHere_59 (by decide) (fun c_26 => absurd c_26 (by decide)) (fun c_26 => ?_)
            refine lv_bipush (v := 101) hx hb dX9_wordHere_62 (by decide) ?_
            exact q_iret hx hb hr hlocks hS24 dX9_wordHere_64 ⟨(by omega), hP24, za_r_wordHere⟩
          · refine lv_if_eq (tgt := 65) hx hb dX9_wordHere_59 (by decide) (fun c_27 => ?_) (fun c_27 => absurd c_27 (by decide))
            refine lv_aload_n hx hb dX9_wordHere_65 rfl (lv_at hl 0 rfl) (lv_ldc2 (v := 1819242087) hx hb hown k_9 dX9_wordHere_66 ?_)
            refine q_cVi (As := [.long 1819242087]) (rest := []) q_w0 trivial hK hP24 hDa za_r_wordHere hS24 hA [0] [] (by decide +kernel) ⟨hx, hb, hml, hown, hts⟩ (r_isWord l dC dI H24.size p0 f_p0 1819242087 v_1 v_2 ho_p0 fv_1 fv_2) rfl rfl (cwV 1 hts (p1_gV m_1 m_2 m_3 m_4 g_r_isWord gz_r_isWord) rfl rfl rfl (by decide +kernel) ⟨by decide, by decide⟩) (va_recv hK hP24 (ci := 8) (q0 := 0) rfl rfl) zm_r_isWord rfl hl.1 rfl (Nat.le_of_ble_eq_true rfl) dX9_wordHere_69 ⟨by decide, by decide⟩ (fun r_28 H29 lo29 hG29 hS29 => ?_)
            obtain ⟨z_30, hQ29⟩ := hG29
            have hP29 : va_P (dC, dI) vwCl (zW_r_wordHere p0 f_p0) H29 := hQ29
            clear hQ29 hP24 hS24
            rcases z_30 with ⟨rfl, z_30⟩ | ⟨rfl, z_30⟩
            · refine lv_if_eq (tgt := 78) hx hb dX9_wordHere_72 (by decide) (fun c_31 => absurd c_31 (by decide)) (fun c_31 => ?_)
              refine lv_bipush (v := 102) hx hb dX9_wordHere_75 (by decide) ?_
              exact q_iret hx hb hr hlocks hS29 dX9_wordHere_77 ⟨(by omega), hP29, za_r_wordHere⟩
            · refine lv_if_eq (tgt := 78) hx hb dX9_wordHere_72 (by decide) (fun c_32 => ?_) (fun c_32 => absurd c_32 (by decide))
              refine lv_aload_n hx hb dX9_wordHere_78 rfl (lv_at hl 0 rfl) (lv_ldc2 (v := 126943972911973) hx hb hown k_10 dX9_wordHere_79 ?_)
              refine q_cVi (As := [.long 126943972911973]) (rest := []) q_w0 trivial hK hP29 hDa za_r_wordHere hS29 hA [0] [] (by decide +kernel) ⟨hx, hb, hml, hown, hts⟩ (r_isWord l dC dI H29.size p0 f_p0 126943972911973 v_1 v_2 ho_p0 fv_1 fv_2) rfl rfl (cwV 1 hts (p1_gV m_1 m_2 m_3 m_4 g_r_isWord gz_r_isWord) rfl rfl rfl (by decide +kernel) ⟨by decide, by decide⟩) (va_recv hK hP29 (ci := 8) (q0 := 0) rfl rfl) zm_r_isWord rfl hl.1 rfl (Nat.le_of_ble_eq_true rfl) dX9_wordHere_82 ⟨by decide, by decide⟩ (fun r_33 H34 lo34 hG34 hS34 => ?_)
              obtain ⟨z_35, hQ34⟩ := hG34
              have hP34 : va_P (dC, dI) vwCl (zW_r_wordHere p0 f_p0) H34 := hQ34
              clear hQ34 hP29 hS29
              rcases z_35 with ⟨rfl, z_35⟩ | ⟨rfl, z_35⟩
              · refine lv_if_eq (tgt := 91) hx hb dX9_wordHere_85 (by decide) (fun c_36 => absurd c_36 (by decide)) (fun c_36 => ?_)
                refine lv_bipush (v := 103) hx hb dX9_wordHere_88 (by decide) ?_
                exact q_iret hx hb hr hlocks hS34 dX9_wordHere_90 ⟨(by omega), hP34, za_r_wordHere⟩
              · refine lv_if_eq (tgt := 91) hx hb dX9_wordHere_85 (by decide) (fun c_37 => ?_) (fun c_37 => absurd c_37 (by decide))
                refine lv_aload_n hx hb dX9_wordHere_91 rfl (lv_at hl 0 rfl) (lv_ldc2 (v := 495924637287) hx hb hown k_11 dX9_wordHere_92 ?_)
                refine q_cVi (As := [.long 495924637287]) (rest := []) q_w0 trivial hK hP34 hDa za_r_wordHere hS34 hA [0] [] (by decide +kernel) ⟨hx, hb, hml, hown, hts⟩ (r_isWord l dC dI H34.size p0 f_p0 495924637287 v_1 v_2 ho_p0 fv_1 fv_2) rfl rfl (cwV 1 hts (p1_gV m_1 m_2 m_3 m_4 g_r_isWord gz_r_isWord) rfl rfl rfl (by decide +kernel) ⟨by decide, by decide⟩) (va_recv hK hP34 (ci := 8) (q0 := 0) rfl rfl) zm_r_isWord rfl hl.1 rfl (Nat.le_of_ble_eq_true rfl) dX9_wordHere_95 ⟨by decide, by decide⟩ (fun r_38 H39 lo39 hG39 hS39 => ?_)
                obtain ⟨z_40, hQ39⟩ := hG39
                have hP39 : va_P (dC, dI) vwCl (zW_r_wordHere p0 f_p0) H39 := hQ39
                clear hQ39 hP34 hS34
                rcases z_40 with ⟨rfl, z_40⟩ | ⟨rfl, z_40⟩
                · refine lv_if_eq (tgt := 106) hx hb dX9_wordHere_98 (by decide) (fun c_41 => absurd c_41 (by decide)) (fun c_41 => ?_)
                  refine lv_bipush (v := 104) hx hb dX9_wordHere_101 (by decide) (lv_goto (tgt := 107) hx hb dX9_wordHere_103 (by decide) ?_)
                  exact q_iret hx hb hr hlocks hS39 dX9_wordHere_107 ⟨(by omega), hP39, za_r_wordHere⟩
                · refine lv_if_eq (tgt := 106) hx hb dX9_wordHere_98 (by decide) (fun c_42 => ?_) (fun c_42 => absurd c_42 (by decide))
                  refine lv_iconst (v := 0) hx hb dX9_wordHere_106 (by decide) ?_
                  exact q_iret hx hb hr hlocks hS39 dX9_wordHere_107 ⟨(by omega), hP39, za_r_wordHere⟩
