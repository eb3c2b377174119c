def zo_r_behindUnit : List Cond := [.code yX9_behindUnit cX9_behindUnit 2 (some .boolean), .methodLink RX9 361 yX9_rankHere, .instanceMethod yX9_rankHere, .selects RX9 yX9_rankHere yX9_rankHere, .initialized RX9, .fieldLink RX9 110 "BowWalkModel" "eWhat" "[I", .fieldLink RX9 339 "BowWalkModel" "piled" "I", .fieldLink RX9 342 "BowWalkModel" "within" "I", .methodLink RX9 322 yX9_is, .instanceMethod yX9_is, .selects RX9 yX9_is yX9_is, .methodLink RX9 271 yX9_must, .instanceMethod yX9_must, .selects RX9 yX9_must yX9_must, .fieldLink RX9 223 "BowWalkModel" "at" "I", .methodLink RX9 226 yX9_sign, .instanceMethod yX9_sign, .selects RX9 yX9_sign yX9_sign, .methodLink RX9 345 yX9_pushE, .instanceMethod yX9_pushE, .selects RX9 yX9_pushE yX9_pushE, .methodLink RX9 262 yX9_goOn, .instanceMethod yX9_goOn, .selects RX9 yX9_goOn yX9_goOn, .fieldLink RX9 113 "BowWalkModel" "eSign" "[I", .methodLink RX9 358 yX9_emit, .instanceMethod yX9_emit, .selects RX9 yX9_emit yX9_emit, .methodLink RX9 364 yX9_isCompared, .instanceMethod yX9_isCompared, .selects RX9 yX9_isCompared yX9_isCompared, .methodLink RX9 265 yX9_misplaced, .instanceMethod yX9_misplaced, .selects RX9 yX9_misplaced yX9_misplaced]
def zw_r_behindUnit : List Cond := zo_r_behindUnit ++ (zw_r_rankHere ++ (zw_r_is ++ (zw_r_must ++ (zw_r_sign ++ (zw_r_pushE ++ (zw_r_goOn ++ (zw_r_emit ++ (zw_r_isCompared ++ (zw_r_misplaced ++ (wsX90 ++ []))))))))))
theorem gz_r_behindUnit : zw_r_behindUnit.all goodWord = true := p1_ga (by decide +kernel) (p1_ga gz_r_rankHere (p1_ga gz_r_is (p1_ga gz_r_must (p1_ga gz_r_sign (p1_ga gz_r_pushE (p1_ga gz_r_goOn (p1_ga gz_r_emit (p1_ga gz_r_isCompared (p1_ga gz_r_misplaced (p1_ga gk_X9 p1_g0))))))))))
theorem iz_r_behindUnit : ∀ w ∈ zw_r_behindUnit, w ∈ lw_tbl := p1_ia (p1_all [1414, 1415, 1417, 68, 116, 1077, 1085, 1084, 1399, 1401, 64, 1371, 1373, 57, 1043, 1289, 1291, 45, 1391, 1393, 62, 1285, 1287, 44, 1078, 1407, 1409, 66, 1419, 1421, 69, 1343, 1345, 50] (by decide +kernel)) (p1_ia iz_r_rankHere (p1_ia iz_r_is (p1_ia iz_r_must (p1_ia iz_r_sign (p1_ia iz_r_pushE (p1_ia iz_r_goOn (p1_ia iz_r_emit (p1_ia iz_r_isCompared (p1_ia iz_r_misplaced (p1_ia ik_X9 p1_i0))))))))))
def zW_r_behindUnit (p0 : Nat) (f_p0 : List Value) (p0_code : Nat) (c_p0_code : ClassId) (b_p0_code : Nat → Int32) (p0_codeNumber : Nat) (c_p0_codeNumber : ClassId) (b_p0_codeNumber : Nat → Int32) (p0_eSign : Nat) (c_p0_eSign : ClassId) (b_p0_eSign : Nat → Int32) (p0_eWhat : Nat) (c_p0_eWhat : ClassId) (b_p0_eWhat : Nat → Int32) (p0_text : Nat) (c_p0_text : ClassId) (b_p0_text : Nat → Int32) : va_W := [(p0, .inr (8, f_p0)), (p0_code, .inl (c_p0_code, 1800, .inl b_p0_code)), (p0_codeNumber, .inl (c_p0_codeNumber, 1800, .inl b_p0_codeNumber)), (p0_eSign, .inl (c_p0_eSign, 120, .inl b_p0_eSign)), (p0_eWhat, .inl (c_p0_eWhat, 120, .inl b_p0_eWhat)), (p0_text, .inl (c_p0_text, 1600, .inl b_p0_text))]
def zT_r_behindUnit (c_p0_code : ClassId) (c_p0_codeNumber : ClassId) (c_p0_eSign : ClassId) (c_p0_eWhat : ClassId) (c_p0_text : ClassId) : List (ClassId × FieldType) := [(c_p0_code, .int), (c_p0_codeNumber, .int), (c_p0_eSign, .int), (c_p0_eWhat, .int), (c_p0_text, .byte)]
def zA_r_behindUnit (p0 : Nat) (p0_code : Nat) (p0_codeNumber : Nat) (p0_eSign : Nat) (p0_eWhat : Nat) (p0_text : Nat) : List Nat := [p0, p0_code, p0_codeNumber, p0_eSign, p0_eWhat, p0_text]
theorem za_r_behindUnit {p0 : Nat} {f_p0 : List Value} {p0_code : Nat} {c_p0_code : ClassId} {b_p0_code : Nat → Int32} {p0_codeNumber : Nat} {c_p0_codeNumber : ClassId} {b_p0_codeNumber : Nat → Int32} {p0_eSign : Nat} {c_p0_eSign : ClassId} {b_p0_eSign : Nat → Int32} {p0_eWhat : Nat} {c_p0_eWhat : ClassId} {b_p0_eWhat : Nat → Int32} {p0_text : Nat} {c_p0_text : ClassId} {b_p0_text : Nat → Int32} : (zW_r_behindUnit p0 f_p0 p0_code c_p0_code b_p0_code p0_codeNumber c_p0_codeNumber b_p0_codeNumber p0_eSign c_p0_eSign b_p0_eSign p0_eWhat c_p0_eWhat b_p0_eWhat p0_text c_p0_text b_p0_text).map Prod.fst = (zA_r_behindUnit p0 p0_code p0_codeNumber p0_eSign p0_eWhat p0_text) := rfl
def zG_r_behindUnit (p0 : Nat) (f_p0 : List Value) (p0_code : Nat) (c_p0_code : ClassId) (b_p0_code : Nat → Int32) (p0_codeNumber : Nat) (c_p0_codeNumber : ClassId) (b_p0_codeNumber : Nat → Int32) (p0_eSign : Nat) (c_p0_eSign : ClassId) (b_p0_eSign : Nat → Int32) (p0_eWhat : Nat) (c_p0_eWhat : ClassId) (b_p0_eWhat : Nat → Int32) (p0_text : Nat) (c_p0_text : ClassId) (b_p0_text : Nat → Int32) (at0 : Int32) (en : Int32) (tk : Int32) (siz : Int32) (fk : Int32) (co : Int32) (un : Int32) (wi : Int32) (pi : Int32) (rb : Int32) (bas : Int) (r : Int32) (X : va_W → Prop) : Prop := ∃ (y_p0 : List Value) (y_p0_code : Nat → Int32) (y_p0_codeNumber : Nat → Int32) (y_p0_eSign : Nat → Int32) (y_p0_eWhat : Nat → Int32) (at1 : Int32) (en1 : Int32) (tk1 : Int32) (fk1 : Int32) (co1 : Int32) (un1 : Int32) (wi1 : Int32) (pi1 : Int32), ((r = 1 ∧ (1 ≤ fk1.toInt ∨ (1 ≤ pi1.toInt ∧ q_EI 0 pi1.toInt.toNat rb.toInt co1.toInt un1.toInt wi1.toInt bas y_p0_eWhat y_p0_eSign y_p0_code))) ∨ (r = 0 ∧ (pi1.toInt < pi.toInt ∧ ((1 ≤ pi1.toInt ∧ q_EI 1 pi1.toInt.toNat rb.toInt co1.toInt un1.toInt wi1.toInt bas y_p0_eWhat y_p0_eSign y_p0_code) ∨ (pi1.toInt = 0 ∧ q_run y_p0_code bas.toNat (co1.toInt - bas).toNat ≠ none ∧ co1.toInt - 900 * rb.toInt ≤ 9 * un1.toInt ∧ bas ≤ co1.toInt))))) ∧ OKX9 y_p0 ∧ q_fr [4, 5, 6, 7, 8, 9, 10, 45, 47, 48] f_p0 y_p0 ∧ y_p0[6]? = some (.int at1) ∧ y_p0[7]? = some (.int en1) ∧ y_p0[8]? = some (.int tk1) ∧ y_p0[4]? = some (.int fk1) ∧ y_p0[45]? = some (.int co1) ∧ y_p0[46]? = some (.int un1) ∧ y_p0[47]? = some (.int wi1) ∧ y_p0[48]? = some (.int pi1) ∧ (en1.toInt ≤ siz.toInt ∧ at0.toInt ≤ at1.toInt ∧ at1.toInt ≤ en1.toInt ∧ (tk1.toInt ≠ 3 ∨ at1.toInt < en1.toInt)) ∧ (fk.toInt = 0 ∨ 1 ≤ fk1.toInt) ∧ (900 * rb.toInt ≤ co1.toInt ∧ co1.toInt ≤ 900 * rb.toInt + 900 ∧ 0 ≤ un1.toInt ∧ un1.toInt ≤ 60) ∧ (q_offc bas rb b_p0_code y_p0_code) ∧ (0 ≤ wi1.toInt ∧ wi1.toInt ≤ 7 ∧ 0 ≤ pi1.toInt ∧ pi1.toInt ≤ 69) ∧ (un1.toInt = un.toInt) ∧ X (zW_r_behindUnit p0 y_p0 p0_code c_p0_code y_p0_code p0_codeNumber c_p0_codeNumber y_p0_codeNumber p0_eSign c_p0_eSign y_p0_eSign p0_eWhat c_p0_eWhat y_p0_eWhat p0_text c_p0_text b_p0_text)
theorem zm_r_behindUnit {p0 : Nat} {f_p0 : List Value} {p0_code : Nat} {c_p0_code : ClassId} {b_p0_code : Nat → Int32} {p0_codeNumber : Nat} {c_p0_codeNumber : ClassId} {b_p0_codeNumber : Nat → Int32} {p0_eSign : Nat} {c_p0_eSign : ClassId} {b_p0_eSign : Nat → Int32} {p0_eWhat : Nat} {c_p0_eWhat : ClassId} {b_p0_eWhat : Nat → Int32} {p0_text : Nat} {c_p0_text : ClassId} {b_p0_text : Nat → Int32} {at0 : Int32} {en : Int32} {tk : Int32} {siz : Int32} {fk : Int32} {co : Int32} {un : Int32} {wi : Int32} {pi : Int32} {rb : Int32} {bas : Int} : ∀ (r : Int32), ∀ X Y : va_W → Prop, (∀ w, X w → Y w) → zG_r_behindUnit p0 f_p0 p0_code c_p0_code b_p0_code p0_codeNumber c_p0_codeNumber b_p0_codeNumber p0_eSign c_p0_eSign b_p0_eSign p0_eWhat c_p0_eWhat b_p0_eWhat p0_text c_p0_text b_p0_text at0 en tk siz fk co un wi pi rb bas r X → zG_r_behindUnit p0 f_p0 p0_code c_p0_code b_p0_code p0_codeNumber c_p0_codeNumber b_p0_codeNumber p0_eSign c_p0_eSign b_p0_eSign p0_eWhat c_p0_eWhat b_p0_eWhat p0_text c_p0_text b_p0_text at0 en tk siz fk co un wi pi rb bas r Y := fun r X Y h h1 => by obtain ⟨x0, x1, x2, x3, x4, x5, x6, x7, x8, x9, x10, x11, x12, x13, x14, x15, x16, x17, x18, x19, x20, x21, x22, x23, x24, x25, x26, x27, x28, x29, hx⟩ := h1; exact ⟨x0, x1, x2, x3, x4, x5, x6, x7, x8, x9, x10, x11, x12, x13, x14, x15, x16, x17, x18, x19, x20, x21, x22, x23, x24, x25, x26, x27, x28, x29, h _ hx⟩
set_option maxHeartbeats 4000000 in
set_option maxRecDepth 100000 in
theorem r_behindUnit (l : Launch) (dC : Nat → ClassId) (dI : Nat → Nat → Nat) (sz : Nat) (p0 : Nat) (f_p0 : List Value) (p0_code : Nat) (c_p0_code : ClassId) (b_p0_code : Nat → Int32) (p0_codeNumber : Nat) (c_p0_codeNumber : ClassId) (b_p0_codeNumber : Nat → Int32) (p0_eSign : Nat) (c_p0_eSign : ClassId) (b_p0_eSign : Nat → Int32) (p0_eWhat : Nat) (c_p0_eWhat : ClassId) (b_p0_eWhat : Nat → Int32) (p0_text : Nat) (c_p0_text : ClassId) (b_p0_text : Nat → Int32) (at0 : Int32) (en : Int32) (tk : Int32) (siz : Int32) (fk : Int32) (co : Int32) (un : Int32) (wi : Int32) (pi : Int32) (rb : Int32) (bas : Int) (ho_p0 : OKX9 f_p0) (fr_p0_1 : f_p0[1]? = some (.ref p0_text)) (fr_p0_38 : f_p0[38]? = some (.ref p0_code)) (fr_p0_39 : f_p0[39]? = some (.ref p0_codeNumber)) (fr_p0_40 : f_p0[40]? = some (.ref p0_eWhat)) (fr_p0_41 : f_p0[41]? = some (.ref p0_eSign)) (pf_at0 : f_p0[6]? = some (.int at0)) (pf_en : f_p0[7]? = some (.int en)) (pf_tk : f_p0[8]? = some (.int tk)) (pf_siz : f_p0[3]? = some (.int siz)) (pf_fk : f_p0[4]? = some (.int fk)) (pf_co : f_p0[45]? = some (.int co)) (pf_un : f_p0[46]? = some (.int un)) (pf_wi : f_p0[47]? = some (.int wi)) (pf_pi : f_p0[48]? = some (.int pi)) (pf_rb : f_p0[44]? = some (.int rb)) (hR : en.toInt ≤ siz.toInt ∧ at0.toInt ≤ en.toInt ∧ (tk.toInt ≠ 3 ∨ at0.toInt < en.toInt)) (hpi : 1 ≤ pi.toInt) (hEI : q_EI 1 pi.toInt.toNat rb.toInt co.toInt un.toInt wi.toInt bas b_p0_eWhat b_p0_eSign b_p0_code) : Met l yX9_behindUnit zw_r_behindUnit ({ frames := 3, cells := 0, slots := 0, locals := 65 }) (va_Pc [.ref p0] (q_pre (dC, dI) (zW_r_behindUnit p0 f_p0 p0_code c_p0_code b_p0_code p0_codeNumber c_p0_codeNumber b_p0_codeNumber p0_eSign c_p0_eSign b_p0_eSign p0_eWhat c_p0_eWhat b_p0_eWhat p0_text c_p0_text b_p0_text) (zT_r_behindUnit c_p0_code c_p0_codeNumber c_p0_eSign c_p0_eWhat c_p0_text) q_E0 sz)) (q_Qi (dC, dI) (zG_r_behindUnit p0 f_p0 p0_code c_p0_code b_p0_code p0_codeNumber c_p0_codeNumber b_p0_codeNumber p0_eSign c_p0_eSign b_p0_eSign p0_eWhat c_p0_eWhat b_p0_eWhat p0_text c_p0_text b_p0_text at0 en tk siz fk co un wi pi rb bas) (zA_r_behindUnit p0 p0_code p0_codeNumber p0_eSign p0_eWhat p0_text) (va_A (zW_r_behindUnit p0 f_p0 p0_code c_p0_code b_p0_code p0_codeNumber c_p0_codeNumber b_p0_codeNumber p0_eSign c_p0_eSign b_p0_eSign p0_eWhat c_p0_eWhat b_p0_eWhat p0_text c_p0_text b_p0_text) sz)) 0 0 (va_A (zW_r_behindUnit p0 f_p0 p0_code c_p0_code b_p0_code p0_codeNumber c_p0_codeNumber b_p0_codeNumber p0_eSign c_p0_eSign b_p0_eSign p0_eWhat c_p0_eWhat b_p0_eWhat p0_text c_p0_text b_p0_text) sz) := by
  refine Met.ofW (cc := cX9_behindUnit) (maxL := 2) (ret := (some .boolean)) (by decide) rfl ?_
  intro p e s m args below meth c s₁ B hml hv
  obtain ⟨rfl, hsz, hP, hK, hD0, hE⟩ := hv
  have hx := B.exec
  have hb := B.bytes
  have hr := B.returns
  have hts := atoms_spec (ws := zw_r_behindUnit) B.pre
  have hown : s.vm.findClass RX9 = some m.cls := findClass_of_methodNamed B.named
  have hlocks := B.notSynchronized
  subst hsz
  have hD := hD0.self (sz := s.heap.size)
  generalize hAe : va_A (zW_r_behindUnit p0 f_p0 p0_code c_p0_code b_p0_code p0_codeNumber c_p0_codeNumber b_p0_codeNumber p0_eSign c_p0_eSign b_p0_eSign p0_eWhat c_p0_eWhat b_p0_eWhat p0_text c_p0_text b_p0_text) s.heap.size = A at hD hE ⊢
  have hA : ∀ q : Nat, s.heap.size ≤ q → A q := fun q h => by rw [← hAe]; exact Or.inr h
  have hDa : q_DA A (zA_r_behindUnit p0 p0_code p0_codeNumber p0_eSign p0_eWhat p0_text) := q_DA.mk hD za_r_behindUnit
  clear hAe hD0 hD
  have hS : va_S A s.heap s.heap [] := va_S.rf
  have m_0 : (.methodLink RX9 361 yX9_rankHere : Cond) ∈ zw_r_behindUnit := List.mem_append_left _ (List.mem_of_getElem? (i := 1) rfl)
  have k_0 := hts _ m_0
  have m_1 : (.instanceMethod yX9_rankHere : Cond) ∈ zw_r_behindUnit := List.mem_append_left _ (List.mem_of_getElem? (i := 2) rfl)
  have k_1 := hts _ m_1
  have m_2 : (.selects RX9 yX9_rankHere yX9_rankHere : Cond) ∈ zw_r_behindUnit := List.mem_append_left _ (List.mem_of_getElem? (i := 3) rfl)
  have k_2 := hts _ m_2
  have m_3 : (.initialized RX9 : Cond) ∈ zw_r_behindUnit := List.mem_append_left _ (List.mem_of_getElem? (i := 4) rfl)
  have k_3 := hts _ m_3
  have m_4 : (.fieldLink RX9 110 "BowWalkModel" "eWhat" "[I" : Cond) ∈ zw_r_behindUnit := List.mem_append_left _ (List.mem_of_getElem? (i := 5) rfl)
  have k_4 := hts _ m_4
  have m_5 : (.fieldLink RX9 339 "BowWalkModel" "piled" "I" : Cond) ∈ zw_r_behindUnit := List.mem_append_left _ (List.mem_of_getElem? (i := 6) rfl)
  have k_5 := hts _ m_5
  have m_6 : (.fieldLink RX9 342 "BowWalkModel" "within" "I" : Cond) ∈ zw_r_behindUnit := List.mem_append_left _ (List.mem_of_getElem? (i := 7) rfl)
  have k_6 := hts _ m_6
  have m_7 : (.methodLink RX9 322 yX9_is : Cond) ∈ zw_r_behindUnit := List.mem_append_left _ (List.mem_of_getElem? (i := 8) rfl)
  have k_7 := hts _ m_7
  have m_8 : (.instanceMethod yX9_is : Cond) ∈ zw_r_behindUnit := List.mem_append_left _ (List.mem_of_getElem? (i := 9) rfl)
  have k_8 := hts _ m_8
  have m_9 : (.selects RX9 yX9_is yX9_is : Cond) ∈ zw_r_behindUnit := List.mem_append_left _ (List.mem_of_getElem? (i := 10) rfl)
  have k_9 := hts _ m_9
  have m_10 : (.methodLink RX9 271 yX9_must : Cond) ∈ zw_r_behindUnit := List.mem_append_left _ (List.mem_of_getElem? (i := 11) rfl)
  have k_10 := hts _ m_10
  have m_11 : (.instanceMethod yX9_must : Cond) ∈ zw_r_behindUnit := List.mem_append_left _ (List.mem_of_getElem? (i := 12) rfl)
  have k_11 := hts _ m_11
  have m_12 : (.selects RX9 yX9_must yX9_must : Cond) ∈ zw_r_behindUnit := List.mem_append_left _ (List.mem_of_getElem? (i := 13) rfl)
  have k_12 := hts _ m_12
  have m_13 : (.fieldLink RX9 223 "BowWalkModel" "at" "I" : Cond) ∈ zw_r_behindUnit := List.mem_append_left _ (List.mem_of_getElem? (i := 14) rfl)
  have k_13 := hts _ m_13
  have m_14 : (.methodLink RX9 226 yX9_sign : Cond) ∈ zw_r_behindUnit := List.mem_append_left _ (List.mem_of_getElem? (i := 15) rfl)
  have k_14 := hts _ m_14
  have m_15 : (.instanceMethod yX9_sign : Cond) ∈ zw_r_behindUnit := List.mem_append_left _ (List.mem_of_getElem? (i := 16) rfl)
  have k_15 := hts _ m_15
  have m_16 : (.selects RX9 yX9_sign yX9_sign : Cond) ∈ zw_r_behindUnit := List.mem_append_left _ (List.mem_of_getElem? (i := 17) rfl)
  have k_16 := hts _ m_16
  have m_17 : (.methodLink RX9 345 yX9_pushE : Cond) ∈ zw_r_behindUnit := List.mem_append_left _ (List.mem_of_getElem? (i := 18) rfl)
  have k_17 := hts _ m_17
  have m_18 : (.instanceMethod yX9_pushE : Cond) ∈ zw_r_behindUnit := List.mem_append_left _ (List.mem_of_getElem? (i := 19) rfl)
  have k_18 := hts _ m_18
  have m_19 : (.selects RX9 yX9_pushE yX9_pushE : Cond) ∈ zw_r_behindUnit := List.mem_append_left _ (List.mem_of_getElem? (i := 20) rfl)
  have k_19 := hts _ m_19
  have m_20 : (.methodLink RX9 262 yX9_goOn : Cond) ∈ zw_r_behindUnit := List.mem_append_left _ (List.mem_of_getElem? (i := 21) rfl)
  have k_20 := hts _ m_20
  have m_21 : (.instanceMethod yX9_goOn : Cond) ∈ zw_r_behindUnit := List.mem_append_left _ (List.mem_of_getElem? (i := 22) rfl)
  have k_21 := hts _ m_21
  have m_22 : (.selects RX9 yX9_goOn yX9_goOn : Cond) ∈ zw_r_behindUnit := List.mem_append_left _ (List.mem_of_getElem? (i := 23) rfl)
  have k_22 := hts _ m_22
  have m_23 : (.fieldLink RX9 113 "BowWalkModel" "eSign" "[I" : Cond) ∈ zw_r_behindUnit := List.mem_append_left _ (List.mem_of_getElem? (i := 24) rfl)
  have k_23 := hts _ m_23
  have m_24 : (.methodLink RX9 358 yX9_emit : Cond) ∈ zw_r_behindUnit := List.mem_append_left _ (List.mem_of_getElem? (i := 25) rfl)
  have k_24 := hts _ m_24
  have m_25 : (.instanceMethod yX9_emit : Cond) ∈ zw_r_behindUnit := List.mem_append_left _ (List.mem_of_getElem? (i := 26) rfl)
  have k_25 := hts _ m_25
  have m_26 : (.selects RX9 yX9_emit yX9_emit : Cond) ∈ zw_r_behindUnit := List.mem_append_left _ (List.mem_of_getElem? (i := 27) rfl)
  have k_26 := hts _ m_26
  have m_27 : (.methodLink RX9 364 yX9_isCompared : Cond) ∈ zw_r_behindUnit := List.mem_append_left _ (List.mem_of_getElem? (i := 28) rfl)
  have k_27 := hts _ m_27
  have m_28 : (.instanceMethod yX9_isCompared : Cond) ∈ zw_r_behindUnit := List.mem_append_left _ (List.mem_of_getElem? (i := 29) rfl)
  have k_28 := hts _ m_28
  have m_29 : (.selects RX9 yX9_isCompared yX9_isCompared : Cond) ∈ zw_r_behindUnit := List.mem_append_left _ (List.mem_of_getElem? (i := 30) rfl)
  have k_29 := hts _ m_29
  have m_30 : (.methodLink RX9 265 yX9_misplaced : Cond) ∈ zw_r_behindUnit := List.mem_append_left _ (List.mem_of_getElem? (i := 31) rfl)
  have k_30 := hts _ m_30
  have m_31 : (.instanceMethod yX9_misplaced : Cond) ∈ zw_r_behindUnit := List.mem_append_left _ (List.mem_of_getElem? (i := 32) rfl)
  have k_31 := hts _ m_31
  have m_32 : (.selects RX9 yX9_misplaced yX9_misplaced : Cond) ∈ zw_r_behindUnit := List.mem_append_left _ (List.mem_of_getElem? (i := 33) rfl)
  have k_32 := hts _ m_32
  have g_r_rankHere : ∀ w ∈ zw_r_rankHere, w ∈ zw_r_behindUnit := fun w h => List.mem_append_right _ (List.mem_append_left _ h)
  have g_r_is : ∀ w ∈ zw_r_is, w ∈ zw_r_behindUnit := fun w h => List.mem_append_right _ (List.mem_append_right _ (List.mem_append_left _ h))
  have g_r_must : ∀ w ∈ zw_r_must, w ∈ zw_r_behindUnit := fun w h => List.mem_append_right _ (List.mem_append_right _ (List.mem_append_right _ (List.mem_append_left _ h)))
  have g_r_sign : ∀ w ∈ zw_r_sign, w ∈ zw_r_behindUnit := fun w h => List.mem_append_right _ (List.mem_append_right _ (List.mem_append_right _ (List.mem_append_right _ (List.mem_append_left _ h))))
  have g_r_pushE : ∀ w ∈ zw_r_pushE, w ∈ zw_r_behindUnit := fun w h => List.mem_append_right _ (List.mem_append_right _ (List.mem_append_right _ (List.mem_append_right _ (List.mem_append_right _ (List.mem_append_left _ h)))))
  have g_r_goOn : ∀ w ∈ zw_r_goOn, w ∈ zw_r_behindUnit := fun w h => List.mem_append_right _ (List.mem_append_right _ (List.mem_append_right _ (List.mem_append_right _ (List.mem_append_right _ (List.mem_append_right _ (List.mem_append_left _ h))))))
  have g_r_emit : ∀ w ∈ zw_r_emit, w ∈ zw_r_behindUnit := fun w h => List.mem_append_right _ (List.mem_append_right _ (List.mem_append_right _ (List.mem_append_right _ (List.mem_append_right _ (List.mem_append_right _ (List.mem_append_right _ (List.mem_append_left _ h)))))))
  have g_r_isCompared : ∀ w ∈ zw_r_isCompared, w ∈ zw_r_behindUnit := fun w h => List.mem_append_right _ (List.mem_append_right _ (List.mem_append_right _ (List.mem_append_right _ (List.mem_append_right _ (List.mem_append_right _ (List.mem_append_right _ (List.mem_append_right _ (List.mem_append_left _ h))))))))
  have g_r_misplaced : ∀ w ∈ zw_r_misplaced, w ∈ zw_r_behindUnit := fun w h => List.mem_append_right _ (List.mem_append_right _ (List.mem_append_right _ (List.mem_append_right _ (List.mem_append_right _ (List.mem_append_right _ (List.mem_append_right _ (List.mem_append_right _ (List.mem_append_right _ (List.mem_append_left _ h)))))))))
  have i_X9 : ∀ w ∈ u_ws RX9 TX9 81, w ∈ zw_r_behindUnit := fun w h => List.mem_append_right _ (List.mem_append_right _ (List.mem_append_right _ (List.mem_append_right _ (List.mem_append_right _ (List.mem_append_right _ (List.mem_append_right _ (List.mem_append_right _ (List.mem_append_right _ (List.mem_append_right _ (List.mem_append_left _ h))))))))))
  have lt_0 : (0 : Int32).toInt = 0 := by decide
  have lt_1 : (1 : Int32).toInt = 1 := by decide
  have lt_2 : (2 : Int32).toInt = 2 := by decide
  have lt_3 : (3 : Int32).toInt = 3 := by decide
  have lt_4 : (4 : Int32).toInt = 4 := by decide
  have lt_6 : (6 : Int32).toInt = 6 := by decide
  have lt_7 : (7 : Int32).toInt = 7 := by decide
  have lt_38 : (38 : Int32).toInt = 38 := by decide
  have lt_41 : (41 : Int32).toInt = 41 := by decide
  have lt_124 : (124 : Int32).toInt = 124 := by decide
  have hl := lv_entry ([.ref p0]) (n := 2) (Nat.le_of_ble_eq_true rfl)
  rw [lg_entry_eq]
  generalize (lg_sl ([.ref p0]) ++ List.replicate (2 - (lg_sl ([.ref p0])).length) Slot.unset).toArray = ls at hl ⊢
  have hl : lv_has ls 2 [(0, .ref p0)] := hl
  have tat0 := (OKX9_g6 ho_p0).use pf_at0
  have ten := (OKX9_g7 ho_p0).use pf_en
  have ttk := (OKX9_g8 ho_p0).use pf_tk
  have tsiz := (OKX9_g3 ho_p0).use pf_siz
  have tfk := (OKX9_g4 ho_p0).use pf_fk
  have trb := (OKX9_g44 ho_p0).use pf_rb
  have hbd := hEI.bd
  refine lv_aload_n hx hb dX9_behindUnit_0 rfl (lv_at hl 0 rfl) ?_
  refine q_cVi (As := []) (rest := []) q_w0 trivial hK hP hDa za_r_behindUnit hS hA [0, 5] [4] (by decide +kernel) ⟨hx, hb, hml, hown, hts⟩ (r_rankHere l dC dI s.heap.size p0 f_p0 p0_text c_p0_text b_p0_text tk at0 siz ho_p0 fr_p0_1 pf_tk pf_at0 pf_siz) rfl rfl (cwV 0 hts (p1_gV m_0 m_1 m_2 m_3 g_r_rankHere gz_r_rankHere) rfl rfl rfl (by decide +kernel) ⟨by decide, by decide⟩) (va_recv hK hP (ci := 8) (q0 := 0) rfl rfl) zm_r_rankHere rfl hl.1 rfl (Nat.le_of_ble_eq_true rfl) dX9_behindUnit_1 ⟨by decide, by decide⟩ (fun r_1 H2 lo2 hG2 hS2 => ?_)
  obtain ⟨z_3, hQ2⟩ := hG2
  have hP2 : va_P (dC, dI) vwCl (zW_r_behindUnit p0 f_p0 p0_code c_p0_code b_p0_code p0_codeNumber c_p0_codeNumber b_p0_codeNumber p0_eSign c_p0_eSign b_p0_eSign p0_eWhat c_p0_eWhat b_p0_eWhat p0_text c_p0_text b_p0_text) H2 := hQ2
  clear hQ2 hP hS
  refine lv_istore_n (lv' := [(1, .int r_1), (0, .ref p0)]) hx hb dX9_behindUnit_4 rfl hl (by decide) rfl (fun ls hl => ?_)
  refine lv_iload_n hx hb dX9_behindUnit_5 rfl (lv_at hl 0 rfl) (lv_iconst (v := 4) hx hb dX9_behindUnit_6 (by decide) ?_)
  refine lv_icmp_ne (tgt := 23) hx hb dX9_behindUnit_7 (by decide) (fun c_4 => ?_) (fun c_4 => ?_)
  · have tc_4 := q_ne c_4
    have key23 : ∀ (fu23 : Nat) (fz_p0 : List Value) (cov : Int32) (wiv : Int32) (piv : Int32) (bz_p0_code : Nat → Int32) (bz_p0_codeNumber : Nat → Int32) (H : Heap) (locs : List Loc) (ls : Array Slot) (hfu23 : piv.toInt ≤ (fu23 : Int)) (ho_fz_p0 : OKX9 fz_p0) (hf_fz_p0 : q_fr [4, 5, 6, 7, 8, 9, 10, 45, 47, 48] f_p0 fz_p0) (fr_fz_p0_1 : fz_p0[1]? = some (.ref p0_text)) (fh_fz_p0_3 : fz_p0[3]? = some (.int siz)) (fh_fz_p0_4 : fz_p0[4]? = some (.int fk)) (fh_fz_p0_6 : fz_p0[6]? = some (.int at0)) (fh_fz_p0_7 : fz_p0[7]? = some (.int en)) (fh_fz_p0_8 : fz_p0[8]? = some (.int tk)) (fr_fz_p0_38 : fz_p0[38]? = some (.ref p0_code)) (fr_fz_p0_39 : fz_p0[39]? = some (.ref p0_codeNumber)) (fr_fz_p0_40 : fz_p0[40]? = some (.ref p0_eWhat)) (fr_fz_p0_41 : fz_p0[41]? = some (.ref p0_eSign)) (fh_fz_p0_44 : fz_p0[44]? = some (.int rb)) (fv_fz_p0_45 : fz_p0[45]? = some (.int cov)) (tcov : (0) ≤ cov.toInt ∧ cov.toInt ≤ 1800) (fh_fz_p0_46 : fz_p0[46]? = some (.int un)) (fv_fz_p0_47 : fz_p0[47]? = some (.int wiv)) (twiv : (0) ≤ wiv.toInt ∧ wiv.toInt ≤ 7) (fv_fz_p0_48 : fz_p0[48]? = some (.int piv)) (tpiv : (0) ≤ piv.toInt ∧ piv.toInt ≤ 119) (hq23_0 : q_EI 1 piv.toInt.toNat rb.toInt cov.toInt un.toInt wiv.toInt bas b_p0_eWhat b_p0_eSign bz_p0_code) (hq23_1 : q_offc bas rb b_p0_code bz_p0_code) (hq23_2 : 1 ≤ piv.toInt ∧ piv.toInt ≤ pi.toInt), va_P (dC, dI) vwCl (zW_r_behindUnit p0 fz_p0 p0_code c_p0_code bz_p0_code p0_codeNumber c_p0_codeNumber bz_p0_codeNumber p0_eSign c_p0_eSign b_p0_eSign p0_eWhat c_p0_eWhat b_p0_eWhat p0_text c_p0_text b_p0_text) H → va_S A s.heap H locs → lv_has ls 2 [(1, .int r_1), (0, .ref p0)] → W p l e (headSpec zw_r_behindUnit { frames := 3, cells := 0, slots := 0, locals := 65 }).room s m ([.ref p0] : List Value).toArray below meth c H locs 0 0 (MQ below (q_Qi (dC, dI) (zG_r_behindUnit p0 f_p0 p0_code c_p0_code b_p0_code p0_codeNumber c_p0_codeNumber b_p0_codeNumber p0_eSign c_p0_eSign b_p0_eSign p0_eWhat c_p0_eWhat b_p0_eWhat p0_text c_p0_text b_p0_text at0 en tk siz fk co un wi pi rb bas) (zA_r_behindUnit p0 p0_code p0_codeNumber p0_eSign p0_eWhat p0_text) A) ([.ref p0] : List Value).toArray s 0 0 A) (F0 m 23 ls []) := by
      intro fu23
      induction fu23 using Nat.strongRecOn with
      | ind fu23 ih23 =>
        intro fz_p0 cov wiv piv bz_p0_code bz_p0_codeNumber H5 lo5 ls hfu23 ho_fz_p0 hf_fz_p0 fr_fz_p0_1 fh_fz_p0_3 fh_fz_p0_4 fh_fz_p0_6 fh_fz_p0_7 fh_fz_p0_8 fr_fz_p0_38 fr_fz_p0_39 fr_fz_p0_40 fr_fz_p0_41 fh_fz_p0_44 fv_fz_p0_45 tcov fh_fz_p0_46 fv_fz_p0_47 twiv fv_fz_p0_48 tpiv hq23_0 hq23_1 hq23_2 hP5 hS5 hl
        have hbd23 := hq23_0.bd
        have hdone := hq23_0.2.2.2.2.2.2.2.2.2.2.2.2.2.1
        refine lv_aload_n hx hb dX9_behindUnit_23 rfl (lv_at hl 1 rfl) (qg_X9_40 hx hb hts i_X9 hown hK hP5 0 rfl k_4 fr_fz_p0_40 dX9_behindUnit_24 (lv_aload_n hx hb dX9_behindUnit_27 rfl (lv_at hl 1 rfl) (qg_X9_48 hx hb hts i_X9 hown hK hP5 0 rfl k_5 fv_fz_p0_48 dX9_behindUnit_28 (lv_iconst (v := 1) hx hb dX9_behindUnit_31 (by decide) (lv_isub hx hb dX9_behindUnit_32 (lv_topi fun v_6 ev_6 => ?_))))))
        have tv_6 := q_sub ev_6 (by omega) (by omega)
        refine q_ild hx hb hK hP5 4 3 rfl rfl (q_in (by omega) (by omega)) dX9_behindUnit_33 (fun v_7 ev_7 => ?_)
        have kv_7 := q_ix (n := (piv.toInt - 1).toNat) ev_7 (by omega) (by omega)
        have uv_7 : v_7.toInt = (b_p0_eWhat (piv.toInt - 1).toNat).toInt := by rw [kv_7]
        have htopv_7 := (q_EI.cast hq23_0 (p' := (piv.toInt - 1).toNat + 1) (by omega) rfl rfl rfl).top kv_7
        refine lv_bipush (v := 6) hx hb dX9_behindUnit_34 (by decide) ?_
        refine lv_icmp_gt (tgt := 104) hx hb dX9_behindUnit_36 (by decide) (fun c_8 => ?_) (fun c_8 => ?_)
        · have tc_8 := q_gt c_8
          refine lv_iload_n hx hb dX9_behindUnit_104 rfl (lv_at hl 0 rfl) ?_
          refine lv_if_le (tgt := 147) hx hb dX9_behindUnit_105 (by decide) (fun c_9 => ?_) (fun c_9 => ?_)
          · have tc_9 := q_le c_9
            refine lv_aload_n hx hb dX9_behindUnit_147 rfl (lv_at hl 1 rfl) (lv_dup hx hb dX9_behindUnit_148 rfl (qg_X9_48 hx hb hts i_X9 hown hK hP5 0 rfl k_5 fv_fz_p0_48 dX9_behindUnit_149 (lv_iconst (v := 1) hx hb dX9_behindUnit_152 (by decide) (lv_isub hx hb dX9_behindUnit_153 (lv_topi fun v_10 ev_10 => ?_)))))
            have tv_10 := q_sub ev_10 (by omega) (by omega)
            refine qp_X9_48 hx hb hts i_X9 hown hK hP5 hDa za_r_behindUnit hS5 0 rfl k_5 (OKX9_l ho_fz_p0) dX9_behindUnit_154 (fun H11 lo11 fs11 efs11 (hP11 : va_P (dC, dI) vwCl (zW_r_behindUnit p0 fs11 p0_code c_p0_code bz_p0_code p0_codeNumber c_p0_codeNumber bz_p0_codeNumber p0_eSign c_p0_eSign b_p0_eSign p0_eWhat c_p0_eWhat b_p0_eWhat p0_text c_p0_text b_p0_text) H11) hS11 => ?_)
            have ho11 := OKX9_p48 ho_fz_p0 efs11
            clear hP5 hS5
            refine lv_aload_n hx hb dX9_behindUnit_157 rfl (lv_at hl 1 rfl) (qg_X9_40 hx hb hts i_X9 hown hK hP11 0 rfl k_4 (q_sn efs11 (by decide) fr_fz_p0_40) dX9_behindUnit_158 (lv_aload_n hx hb dX9_behindUnit_161 rfl (lv_at hl 1 rfl) (qg_X9_48 hx hb hts i_X9 hown hK hP11 0 rfl k_5 (q_sa efs11 (OKX9_l ho_fz_p0) (by decide)) dX9_behindUnit_162 (q_ild hx hb hK hP11 4 3 rfl rfl (q_in (by omega) (by omega)) dX9_behindUnit_165 (fun v_12 ev_12 => ?_)))))
            have kv_12 := q_ix (n := (piv.toInt - 1).toNat) ev_12 (by omega) (by omega)
            have uv_12 : v_12.toInt = (b_p0_eWhat (piv.toInt - 1).toNat).toInt := by rw [kv_12]
            have htopv_12 := (q_EI.cast hq23_0 (p' := (piv.toInt - 1).toNat + 1) (by omega) rfl rfl rfl).top kv_12
            refine lv_bipush (v := 7) hx hb dX9_behindUnit_166 (by decide) ?_
            refine lv_icmp_ne (tgt := 191) hx hb dX9_behindUnit_168 (by decide) (fun c_13 => ?_) (fun c_13 => ?_)
            · have tc_13 := q_ne c_13
              refine lv_iconst (v := 0) hx hb dX9_behindUnit_191 (by decide) ?_
              exact q_zret hx hb hr hlocks (by decide) hS11 dX9_behindUnit_192 ⟨fs11, bz_p0_code, bz_p0_codeNumber, b_p0_eSign, b_p0_eWhat, at0, en, tk, fk, cov, un, wiv, v_10, (Or.inr ⟨rfl, by omega, Or.inr ⟨by omega, (q_EI.cast hq23_0 (p' := 1) (by omega) rfl rfl rfl).done.1, by omega, by omega⟩⟩), ho11, (hf_fz_p0.st efs11 (by decide)), (q_sn efs11 (by decide) fh_fz_p0_6), (q_sn efs11 (by decide) fh_fz_p0_7), (q_sn efs11 (by decide) fh_fz_p0_8), (q_sn efs11 (by decide) fh_fz_p0_4), (q_sn efs11 (by decide) fv_fz_p0_45), (q_sn efs11 (by decide) fh_fz_p0_46), (q_sn efs11 (by decide) fv_fz_p0_47), (q_sa efs11 (OKX9_l ho_fz_p0) (by decide)), (by omega), (by omega), (by omega), hq23_1, (by omega), (by omega), hP11, za_r_behindUnit⟩
            · have tc_13 := q_eqN c_13
              refine lv_aload_n hx hb dX9_behindUnit_171 rfl (lv_at hl 1 rfl) (lv_dup hx hb dX9_behindUnit_172 rfl (qg_X9_47 hx hb hts i_X9 hown hK hP11 0 rfl k_6 (q_sn efs11 (by decide) fv_fz_p0_47) dX9_behindUnit_173 (lv_iconst (v := 1) hx hb dX9_behindUnit_176 (by decide) (lv_isub hx hb dX9_behindUnit_177 (lv_topi fun v_14 ev_14 => ?_)))))
              have tv_14 := q_sub ev_14 (by omega) (by omega)
              refine qp_X9_47 hx hb hts i_X9 hown hK hP11 hDa za_r_behindUnit hS11 0 rfl k_6 (OKX9_l ho11) dX9_behindUnit_178 (fun H15 lo15 fs15 efs15 (hP15 : va_P (dC, dI) vwCl (zW_r_behindUnit p0 fs15 p0_code c_p0_code bz_p0_code p0_codeNumber c_p0_codeNumber bz_p0_codeNumber p0_eSign c_p0_eSign b_p0_eSign p0_eWhat c_p0_eWhat b_p0_eWhat p0_text c_p0_text b_p0_text) H15) hS15 => ?_)
              have ho15 := OKX9_p47 ho11 efs15
              clear hP11 hS11
              refine lv_aload_n hx hb dX9_behindUnit_181 rfl (lv_at hl 1 rfl) (lv_aload_n hx hb dX9_behindUnit_182 rfl (lv_at hl 1 rfl) (lv_bipush (v := 41) hx hb dX9_behindUnit_183 (by decide) ?_))
              refine q_cVi (As := [.int 41]) (rest := [.ref p0]) q_w0 trivial hK hP15 hDa za_r_behindUnit hS15 hA [0, 5] [4] (by decide +kernel) ⟨hx, hb, hml, hown, hts⟩ (r_is l dC dI H15.size p0 fs15 p0_text c_p0_text b_p0_text 41 tk at0 siz ho15 ((q_sn efs15 (by decide) (q_sn efs11 (by decide) fr_fz_p0_1))) ((q_sn efs15 (by decide) (q_sn efs11 (by decide) fh_fz_p0_8))) ((q_sn efs15 (by decide) (q_sn efs11 (by decide) fh_fz_p0_6))) ((q_sn efs15 (by decide) (q_sn efs11 (by decide) fh_fz_p0_3)))) rfl rfl (cwV 1 hts (p1_gV m_7 m_8 m_9 m_3 g_r_is gz_r_is) rfl rfl rfl (by decide +kernel) ⟨by decide, by decide⟩) (va_recv hK hP15 (ci := 8) (q0 := 0) rfl rfl) zm_r_is rfl hl.1 rfl (Nat.le_of_ble_eq_true rfl) dX9_behindUnit_185 ⟨by decide, by decide⟩ (fun r_16 H17 lo17 hG17 hS17 => ?_)
              obtain ⟨z_18, hQ17⟩ := hG17
              have hP17 : va_P (dC, dI) vwCl (zW_r_behindUnit p0 fs15 p0_code c_p0_code bz_p0_code p0_codeNumber c_p0_codeNumber bz_p0_codeNumber p0_eSign c_p0_eSign b_p0_eSign p0_eWhat c_p0_eWhat b_p0_eWhat p0_text c_p0_text b_p0_text) H17 := hQ17
              clear hQ17 hP15 hS15
              rcases z_18 with ⟨rfl, z_18⟩ | ⟨rfl, z_18⟩
              · refine q_cVv (As := [.int 1]) (rest := []) q_w0 trivial hK hP17 hDa za_r_behindUnit hS17 hA [0, 5] [4] (by decide +kernel) ⟨hx, hb, hml, hown, hts⟩ (r_must l dC dI H17.size p0 fs15 p0_text c_p0_text b_p0_text 1 at0 en tk siz fk ho15 ((q_sn efs15 (by decide) (q_sn efs11 (by decide) fr_fz_p0_1))) ((q_sn efs15 (by decide) (q_sn efs11 (by decide) fh_fz_p0_6))) ((q_sn efs15 (by decide) (q_sn efs11 (by decide) fh_fz_p0_7))) ((q_sn efs15 (by decide) (q_sn efs11 (by decide) fh_fz_p0_8))) ((q_sn efs15 (by decide) (q_sn efs11 (by decide) fh_fz_p0_3))) ((q_sn efs15 (by decide) (q_sn efs11 (by decide) fh_fz_p0_4))) ((by omega))) rfl rfl (cwV 1 hts (p1_gV m_10 m_11 m_12 m_3 g_r_must gz_r_must) rfl rfl rfl (by decide +kernel) ⟨by decide, by decide⟩) (va_recv hK hP17 (ci := 8) (q0 := 0) rfl rfl) zm_r_must rfl hl.1 rfl (Nat.le_of_ble_eq_true rfl) dX9_behindUnit_188 ⟨by decide, by decide⟩ (fun H20 lo20 hG20 hS20 => ?_)
                obtain ⟨o_21, o_22, o_23, o_24, o_25, ho_26, hf_27, z_28, z_29, z_30, z_31, z_32, z_33, hQ20⟩ := hG20
                have to_22 := (OKX9_g6 ho_26).use z_28
                have to_23 := (OKX9_g7 ho_26).use z_29
                have to_24 := (OKX9_g8 ho_26).use z_30
                have to_25 := (OKX9_g4 ho_26).use z_31
                have hP20 : va_P (dC, dI) vwCl (zW_r_behindUnit p0 o_21 p0_code c_p0_code bz_p0_code p0_codeNumber c_p0_codeNumber bz_p0_codeNumber p0_eSign c_p0_eSign b_p0_eSign p0_eWhat c_p0_eWhat b_p0_eWhat p0_text c_p0_text b_p0_text) H20 := hQ20
                clear hQ20 hP17 hS17
                refine lv_iconst (v := 0) hx hb dX9_behindUnit_191 (by decide) ?_
                have hEn := q_EI.drop (p := (piv.toInt - 1).toNat) (wi' := v_14.toInt) (q_EI.cast hq23_0 (by omega) rfl rfl rfl) (by omega) kv_12 (by omega) (by omega)
                have hbn := hEn.bd
                exact q_zret hx hb hr hlocks (by decide) hS20 dX9_behindUnit_192 ⟨o_21, bz_p0_code, bz_p0_codeNumber, b_p0_eSign, b_p0_eWhat, o_22, o_23, o_24, o_25, cov, un, v_14, v_10, (Or.inr ⟨rfl, by omega, Or.inl ⟨by omega, q_EI.cast hEn (by omega) (by omega) (by omega) rfl⟩⟩), ho_26, (((hf_fz_p0.st efs11 (by decide)).st efs15 (by decide)).tr hf_27 (by decide)), z_28, z_29, z_30, z_31, (hf_27.u (by decide) (q_sn efs15 (by decide) (q_sn efs11 (by decide) fv_fz_p0_45))), (hf_27.u (by decide) (q_sn efs15 (by decide) (q_sn efs11 (by decide) fh_fz_p0_46))), (hf_27.u (by decide) (q_sa efs15 (OKX9_l ho11) (by decide))), (hf_27.u (by decide) (q_sn efs15 (by decide) (q_sa efs11 (OKX9_l ho_fz_p0) (by decide)))), (by omega), (by omega), (by omega), hq23_1, (by omega), (by omega), hP20, za_r_behindUnit⟩
              · refine q_cVv (As := [.int 0]) (rest := []) q_w0 trivial hK hP17 hDa za_r_behindUnit hS17 hA [0, 5] [4] (by decide +kernel) ⟨hx, hb, hml, hown, hts⟩ (r_must l dC dI H17.size p0 fs15 p0_text c_p0_text b_p0_text 0 at0 en tk siz fk ho15 ((q_sn efs15 (by decide) (q_sn efs11 (by decide) fr_fz_p0_1))) ((q_sn efs15 (by decide) (q_sn efs11 (by decide) fh_fz_p0_6))) ((q_sn efs15 (by decide) (q_sn efs11 (by decide) fh_fz_p0_7))) ((q_sn efs15 (by decide) (q_sn efs11 (by decide) fh_fz_p0_8))) ((q_sn efs15 (by decide) (q_sn efs11 (by decide) fh_fz_p0_3))) ((q_sn efs15 (by decide) (q_sn efs11 (by decide) fh_fz_p0_4))) ((by omega))) rfl rfl (cwV 1 hts (p1_gV m_10 m_11 m_12 m_3 g_r_must gz_r_must) rfl rfl rfl (by decide +kernel) ⟨by decide, by decide⟩) (va_recv hK hP17 (ci := 8) (q0 := 0) rfl rfl) zm_r_must rfl hl.1 rfl (Nat.le_of_ble_eq_true rfl) dX9_behindUnit_188 ⟨by decide, by decide⟩ (fun H35 lo35 hG35 hS35 => ?_)
                obtain ⟨o_36, o_37, o_38, o_39, o_40, ho_41, hf_42, z_43, z_44, z_45, z_46, z_47, z_48, hQ35⟩ := hG35
                have to_37 := (OKX9_g6 ho_41).use z_43
                have to_38 := (OKX9_g7 ho_41).use z_44
                have to_39 := (OKX9_g8 ho_41).use z_45
                have to_40 := (OKX9_g4 ho_41).use z_46
                have hP35 : va_P (dC, dI) vwCl (zW_r_behindUnit p0 o_36 p0_code c_p0_code bz_p0_code p0_codeNumber c_p0_codeNumber bz_p0_codeNumber p0_eSign c_p0_eSign b_p0_eSign p0_eWhat c_p0_eWhat b_p0_eWhat p0_text c_p0_text b_p0_text) H35 := hQ35
                clear hQ35 hP17 hS17
                refine lv_iconst (v := 0) hx hb dX9_behindUnit_191 (by decide) ?_
                have hEn := q_EI.drop (p := (piv.toInt - 1).toNat) (wi' := v_14.toInt) (q_EI.cast hq23_0 (by omega) rfl rfl rfl) (by omega) kv_12 (by omega) (by omega)
                have hbn := hEn.bd
                exact q_zret hx hb hr hlocks (by decide) hS35 dX9_behindUnit_192 ⟨o_36, bz_p0_code, bz_p0_codeNumber, b_p0_eSign, b_p0_eWhat, o_37, o_38, o_39, o_40, cov, un, v_14, v_10, (Or.inr ⟨rfl, by omega, Or.inl ⟨by omega, q_EI.cast hEn (by omega) (by omega) (by omega) rfl⟩⟩), ho_41, (((hf_fz_p0.st efs11 (by decide)).st efs15 (by decide)).tr hf_42 (by decide)), z_43, z_44, z_45, z_46, (hf_42.u (by decide) (q_sn efs15 (by decide) (q_sn efs11 (by decide) fv_fz_p0_45))), (hf_42.u (by decide) (q_sn efs15 (by decide) (q_sn efs11 (by decide) fh_fz_p0_46))), (hf_42.u (by decide) (q_sa efs15 (OKX9_l ho11) (by decide))), (hf_42.u (by decide) (q_sn efs15 (by decide) (q_sa efs11 (OKX9_l ho_fz_p0) (by decide)))), (by omega), (by omega), (by omega), hq23_1, (by omega), (by omega), hP35, za_r_behindUnit⟩
          · have tc_9 := q_gtN c_9
            refine lv_aload_n hx hb dX9_behindUnit_108 rfl (lv_at hl 1 rfl) (lv_iload_n hx hb dX9_behindUnit_109 rfl (lv_at hl 0 rfl) (lv_iload_n hx hb dX9_behindUnit_110 rfl (lv_at hl 0 rfl) (lv_iconst (v := 2) hx hb dX9_behindUnit_111 (by decide) ?_)))
            refine lv_icmp_ne (tgt := 120) hx hb dX9_behindUnit_112 (by decide) (fun c_49 => ?_) (fun c_49 => ?_)
            · have tc_49 := q_ne c_49
              refine lv_iload_n hx hb dX9_behindUnit_120 rfl (lv_at hl 0 rfl) (lv_iconst (v := 1) hx hb dX9_behindUnit_121 (by decide) ?_)
              refine lv_icmp_ne (tgt := 130) hx hb dX9_behindUnit_122 (by decide) (fun c_50 => ?_) (fun c_50 => ?_)
              · have tc_50 := q_ne c_50
                refine lv_aload_n hx hb dX9_behindUnit_130 rfl (lv_at hl 1 rfl) (lv_aload_n hx hb dX9_behindUnit_131 rfl (lv_at hl 1 rfl) (qg_X9_6 hx hb hts i_X9 hown hK hP5 0 rfl k_13 fh_fz_p0_6 dX9_behindUnit_132 ?_))
                refine q_cVi (As := [.int at0]) (rest := [.int r_1, .ref p0]) q_w0 trivial hK hP5 hDa za_r_behindUnit hS5 hA [0, 5] [4] (by decide +kernel) ⟨hx, hb, hml, hown, hts⟩ (r_sign l dC dI H5.size p0 fz_p0 p0_text c_p0_text b_p0_text at0 siz ho_fz_p0 fr_fz_p0_1 fh_fz_p0_3 ((by omega))) rfl rfl (cwV 1 hts (p1_gV m_14 m_15 m_16 m_3 g_r_sign gz_r_sign) rfl rfl rfl (by decide +kernel) ⟨by decide, by decide⟩) (va_recv hK hP5 (ci := 8) (q0 := 0) rfl rfl) zm_r_sign rfl hl.1 rfl (Nat.le_of_ble_eq_true rfl) dX9_behindUnit_135 ⟨by decide, by decide⟩ (fun r_51 H52 lo52 hG52 hS52 => ?_)
                obtain ⟨z_53, hQ52⟩ := hG52
                have hP52 : va_P (dC, dI) vwCl (zW_r_behindUnit p0 fz_p0 p0_code c_p0_code bz_p0_code p0_codeNumber c_p0_codeNumber bz_p0_codeNumber p0_eSign c_p0_eSign b_p0_eSign p0_eWhat c_p0_eWhat b_p0_eWhat p0_text c_p0_text b_p0_text) H52 := hQ52
                clear hQ52 hP5 hS5
                refine q_cVv (As := [.int r_1, .int r_51]) (rest := []) q_w0 trivial hK hP52 hDa za_r_behindUnit hS52 hA [0, 3, 4] [2, 3] (by decide +kernel) ⟨hx, hb, hml, hown, hts⟩ (r_pushE l dC dI H52.size p0 fz_p0 p0_eSign c_p0_eSign b_p0_eSign p0_eWhat c_p0_eWhat b_p0_eWhat r_1 r_51 piv ho_fz_p0 fr_fz_p0_40 fr_fz_p0_41 fv_fz_p0_48 ((by omega))) rfl rfl (cwV 2 hts (p1_gV m_17 m_18 m_19 m_3 g_r_pushE gz_r_pushE) rfl rfl rfl (by decide +kernel) ⟨by decide, by decide⟩) (va_recv hK hP52 (ci := 8) (q0 := 0) rfl rfl) zm_r_pushE rfl hl.1 rfl (Nat.le_of_ble_eq_true rfl) dX9_behindUnit_138 ⟨by decide, by decide⟩ (fun H55 lo55 hG55 hS55 => ?_)
                obtain ⟨o_56, o_57, o_58, o_59, ho_60, hf_61, z_62, z_63, z_64, z_65, hQ55⟩ := hG55
                have hP55 : va_P (dC, dI) vwCl (zW_r_behindUnit p0 o_56 p0_code c_p0_code bz_p0_code p0_codeNumber c_p0_codeNumber bz_p0_codeNumber p0_eSign c_p0_eSign o_57 p0_eWhat c_p0_eWhat o_58 p0_text c_p0_text b_p0_text) H55 := hQ55
                clear hQ55 hP52 hS52
                refine lv_aload_n hx hb dX9_behindUnit_141 rfl (lv_at hl 1 rfl) ?_
                refine q_cVv (As := []) (rest := []) q_w0 trivial hK hP55 hDa za_r_behindUnit hS55 hA [0, 5] [4] (by decide +kernel) ⟨hx, hb, hml, hown, hts⟩ (r_goOn l dC dI H55.size p0 o_56 p0_text c_p0_text b_p0_text en siz ho_60 ((hf_61.u (by decide) fr_fz_p0_1)) ((hf_61.u (by decide) fh_fz_p0_7)) ((hf_61.u (by decide) fh_fz_p0_3)) ((by omega))) rfl rfl (cwV 0 hts (p1_gV m_20 m_21 m_22 m_3 g_r_goOn gz_r_goOn) rfl rfl rfl (by decide +kernel) ⟨by decide, by decide⟩) (va_recv hK hP55 (ci := 8) (q0 := 0) rfl rfl) zm_r_goOn rfl hl.1 rfl (Nat.le_of_ble_eq_true rfl) dX9_behindUnit_142 ⟨by decide, by decide⟩ (fun H67 lo67 hG67 hS67 => ?_)
                obtain ⟨o_68, o_69, o_70, o_71, ho_72, hf_73, z_74, z_75, z_76, z_77, hQ67⟩ := hG67
                have to_69 := (OKX9_g6 ho_72).use z_74
                have to_70 := (OKX9_g7 ho_72).use z_75
                have to_71 := (OKX9_g8 ho_72).use z_76
                have hP67 : va_P (dC, dI) vwCl (zW_r_behindUnit p0 o_68 p0_code c_p0_code bz_p0_code p0_codeNumber c_p0_codeNumber bz_p0_codeNumber p0_eSign c_p0_eSign o_57 p0_eWhat c_p0_eWhat o_58 p0_text c_p0_text b_p0_text) H67 := hQ67
                clear hQ67 hP55 hS55
                refine lv_iconst (v := 1) hx hb dX9_behindUnit_145 (by decide) ?_
                exact q_zret hx hb hr hlocks (by decide) hS67 dX9_behindUnit_146 ⟨o_68, bz_p0_code, bz_p0_codeNumber, o_57, o_58, o_69, o_70, o_71, fk, cov, un, wiv, o_59, (Or.inl ⟨rfl, Or.inr ⟨by omega, q_EI.cast (hq23_0.wait z_64 z_65 (z_3.2.2.op (by omega)) (z_3.2.2.ops (by omega) (by omega) (by omega) (by omega))) (by omega) (by omega) (by omega) (by omega)⟩⟩), ho_72, ((hf_fz_p0.tr hf_61 (by decide)).tr hf_73 (by decide)), z_74, z_75, z_76, (hf_73.u (by decide) (hf_61.u (by decide) fh_fz_p0_4)), (hf_73.u (by decide) (hf_61.u (by decide) fv_fz_p0_45)), (hf_73.u (by decide) (hf_61.u (by decide) fh_fz_p0_46)), (hf_73.u (by decide) (hf_61.u (by decide) fv_fz_p0_47)), (hf_73.u (by decide) z_62), (by omega), (by omega), (by omega), hq23_1, (by omega), (by omega), hP67, za_r_behindUnit⟩
              · have tc_50 := q_eqN c_50
                refine lv_bipush (v := 124) hx hb dX9_behindUnit_125 (by decide) (lv_goto (tgt := 138) hx hb dX9_behindUnit_127 (by decide) ?_)
                refine q_cVv (As := [.int r_1, .int 124]) (rest := []) q_w0 trivial hK hP5 hDa za_r_behindUnit hS5 hA [0, 3, 4] [2, 3] (by decide +kernel) ⟨hx, hb, hml, hown, hts⟩ (r_pushE l dC dI H5.size p0 fz_p0 p0_eSign c_p0_eSign b_p0_eSign p0_eWhat c_p0_eWhat b_p0_eWhat r_1 124 piv ho_fz_p0 fr_fz_p0_40 fr_fz_p0_41 fv_fz_p0_48 ((by omega))) rfl rfl (cwV 2 hts (p1_gV m_17 m_18 m_19 m_3 g_r_pushE gz_r_pushE) rfl rfl rfl (by decide +kernel) ⟨by decide, by decide⟩) (va_recv hK hP5 (ci := 8) (q0 := 0) rfl rfl) zm_r_pushE rfl hl.1 rfl (Nat.le_of_ble_eq_true rfl) dX9_behindUnit_138 ⟨by decide, by decide⟩ (fun H79 lo79 hG79 hS79 => ?_)
                obtain ⟨o_80, o_81, o_82, o_83, ho_84, hf_85, z_86, z_87, z_88, z_89, hQ79⟩ := hG79
                have hP79 : va_P (dC, dI) vwCl (zW_r_behindUnit p0 o_80 p0_code c_p0_code bz_p0_code p0_codeNumber c_p0_codeNumber bz_p0_codeNumber p0_eSign c_p0_eSign o_81 p0_eWhat c_p0_eWhat o_82 p0_text c_p0_text b_p0_text) H79 := hQ79
                clear hQ79 hP5 hS5
                refine lv_aload_n hx hb dX9_behindUnit_141 rfl (lv_at hl 1 rfl) ?_
                refine q_cVv (As := []) (rest := []) q_w0 trivial hK hP79 hDa za_r_behindUnit hS79 hA [0, 5] [4] (by decide +kernel) ⟨hx, hb, hml, hown, hts⟩ (r_goOn l dC dI H79.size p0 o_80 p0_text c_p0_text b_p0_text en siz ho_84 ((hf_85.u (by decide) fr_fz_p0_1)) ((hf_85.u (by decide) fh_fz_p0_7)) ((hf_85.u (by decide) fh_fz_p0_3)) ((by omega))) rfl rfl (cwV 0 hts (p1_gV m_20 m_21 m_22 m_3 g_r_goOn gz_r_goOn) rfl rfl rfl (by decide +kernel) ⟨by decide, by decide⟩) (va_recv hK hP79 (ci := 8) (q0 := 0) rfl rfl) zm_r_goOn rfl hl.1 rfl (Nat.le_of_ble_eq_true rfl) dX9_behindUnit_142 ⟨by decide, by decide⟩ (fun H91 lo91 hG91 hS91 => ?_)
                obtain ⟨o_92, o_93, o_94, o_95, ho_96, hf_97, z_98, z_99, z_100, z_101, hQ91⟩ := hG91
                have to_93 := (OKX9_g6 ho_96).use z_98
                have to_94 := (OKX9_g7 ho_96).use z_99
                have to_95 := (OKX9_g8 ho_96).use z_100
                have hP91 : va_P (dC, dI) vwCl (zW_r_behindUnit p0 o_92 p0_code c_p0_code bz_p0_code p0_codeNumber c_p0_codeNumber bz_p0_codeNumber p0_eSign c_p0_eSign o_81 p0_eWhat c_p0_eWhat o_82 p0_text c_p0_text b_p0_text) H91 := hQ91
                clear hQ91 hP79 hS79
                refine lv_iconst (v := 1) hx hb dX9_behindUnit_145 (by decide) ?_
                exact q_zret hx hb hr hlocks (by decide) hS91 dX9_behindUnit_146 ⟨o_92, bz_p0_code, bz_p0_codeNumber, o_81, o_82, o_93, o_94, o_95, fk, cov, un, wiv, o_83, (Or.inl ⟨rfl, Or.inr ⟨by omega, q_EI.cast (hq23_0.wait z_88 z_89 (z_3.2.2.op (by omega)) q_ops124) (by omega) (by omega) (by omega) (by omega)⟩⟩), ho_96, ((hf_fz_p0.tr hf_85 (by decide)).tr hf_97 (by decide)), z_98, z_99, z_100, (hf_97.u (by decide) (hf_85.u (by decide) fh_fz_p0_4)), (hf_97.u (by decide) (hf_85.u (by decide) fv_fz_p0_45)), (hf_97.u (by decide) (hf_85.u (by decide) fh_fz_p0_46)), (hf_97.u (by decide) (hf_85.u (by decide) fv_fz_p0_47)), (hf_97.u (by decide) z_86), (by omega), (by omega), (by omega), hq23_1, (by omega), (by omega), hP91, za_r_behindUnit⟩
            · have tc_49 := q_eqN c_49
              refine lv_bipush (v := 38) hx hb dX9_behindUnit_115 (by decide) (lv_goto (tgt := 138) hx hb dX9_behindUnit_117 (by decide) ?_)
              refine q_cVv (As := [.int r_1, .int 38]) (rest := []) q_w0 trivial hK hP5 hDa za_r_behindUnit hS5 hA [0, 3, 4] [2, 3] (by decide +kernel) ⟨hx, hb, hml, hown, hts⟩ (r_pushE l dC dI H5.size p0 fz_p0 p0_eSign c_p0_eSign b_p0_eSign p0_eWhat c_p0_eWhat b_p0_eWhat r_1 38 piv ho_fz_p0 fr_fz_p0_40 fr_fz_p0_41 fv_fz_p0_48 ((by omega))) rfl rfl (cwV 2 hts (p1_gV m_17 m_18 m_19 m_3 g_r_pushE gz_r_pushE) rfl rfl rfl (by decide +kernel) ⟨by decide, by decide⟩) (va_recv hK hP5 (ci := 8) (q0 := 0) rfl rfl) zm_r_pushE rfl hl.1 rfl (Nat.le_of_ble_eq_true rfl) dX9_behindUnit_138 ⟨by decide, by decide⟩ (fun H103 lo103 hG103 hS103 => ?_)
              obtain ⟨o_104, o_105, o_106, o_107, ho_108, hf_109, z_110, z_111, z_112, z_113, hQ103⟩ := hG103
              have hP103 : va_P (dC, dI) vwCl (zW_r_behindUnit p0 o_104 p0_code c_p0_code bz_p0_code p0_codeNumber c_p0_codeNumber bz_p0_codeNumber p0_eSign c_p0_eSign o_105 p0_eWhat c_p0_eWhat o_106 p0_text c_p0_text b_p0_text) H103 := hQ103
              clear hQ103 hP5 hS5
              refine lv_aload_n hx hb dX9_behindUnit_141 rfl (lv_at hl 1 rfl) ?_
              refine q_cVv (As := []) (rest := []) q_w0 trivial hK hP103 hDa za_r_behindUnit hS103 hA [0, 5] [4] (by decide +kernel) ⟨hx, hb, hml, hown, hts⟩ (r_goOn l dC dI H103.size p0 o_104 p0_text c_p0_text b_p0_text en siz ho_108 ((hf_109.u (by decide) fr_fz_p0_1)) ((hf_109.u (by decide) fh_fz_p0_7)) ((hf_109.u (by decide) fh_fz_p0_3)) ((by omega))) rfl rfl (cwV 0 hts (p1_gV m_20 m_21 m_22 m_3 g_r_goOn gz_r_goOn) rfl rfl rfl (by decide +kernel) ⟨by decide, by decide⟩) (va_recv hK hP103 (ci := 8) (q0 := 0) rfl rfl) zm_r_goOn rfl hl.1 rfl (Nat.le_of_ble_eq_true rfl) dX9_behindUnit_142 ⟨by decide, by decide⟩ (fun H115 lo115 hG115 hS115 => ?_)
              obtain ⟨o_116, o_117, o_118, o_119, ho_120, hf_121, z_122, z_123, z_124, z_125, hQ115⟩ := hG115
              have to_117 := (OKX9_g6 ho_120).use z_122
              have to_118 := (OKX9_g7 ho_120).use z_123
              have to_119 := (OKX9_g8 ho_120).use z_124
              have hP115 : va_P (dC, dI) vwCl (zW_r_behindUnit p0 o_116 p0_code c_p0_code bz_p0_code p0_codeNumber c_p0_codeNumber bz_p0_codeNumber p0_eSign c_p0_eSign o_105 p0_eWhat c_p0_eWhat o_106 p0_text c_p0_text b_p0_text) H115 := hQ115
              clear hQ115 hP103 hS103
              refine lv_iconst (v := 1) hx hb dX9_behindUnit_145 (by decide) ?_
              exact q_zret hx hb hr hlocks (by decide) hS115 dX9_behindUnit_146 ⟨o_116, bz_p0_code, bz_p0_codeNumber, o_105, o_106, o_117, o_118, o_119, fk, cov, un, wiv, o_107, (Or.inl ⟨rfl, Or.inr ⟨by omega, q_EI.cast (hq23_0.wait z_112 z_113 (z_3.2.2.op (by omega)) q_ops38) (by omega) (by omega) (by omega) (by omega)⟩⟩), ho_120, ((hf_fz_p0.tr hf_109 (by decide)).tr hf_121 (by decide)), z_122, z_123, z_124, (hf_121.u (by decide) (hf_109.u (by decide) fh_fz_p0_4)), (hf_121.u (by decide) (hf_109.u (by decide) fv_fz_p0_45)), (hf_121.u (by decide) (hf_109.u (by decide) fh_fz_p0_46)), (hf_121.u (by decide) (hf_109.u (by decide) fv_fz_p0_47)), (hf_121.u (by decide) z_110), (by omega), (by omega), (by omega), hq23_1, (by omega), (by omega), hP115, za_r_behindUnit⟩
        · have tc_8 := q_leN c_8
          refine lv_aload_n hx hb dX9_behindUnit_39 rfl (lv_at hl 1 rfl) (qg_X9_40 hx hb hts i_X9 hown hK hP5 0 rfl k_4 fr_fz_p0_40 dX9_behindUnit_40 (lv_aload_n hx hb dX9_behindUnit_43 rfl (lv_at hl 1 rfl) (qg_X9_48 hx hb hts i_X9 hown hK hP5 0 rfl k_5 fv_fz_p0_48 dX9_behindUnit_44 (lv_iconst (v := 1) hx hb dX9_behindUnit_47 (by decide) (lv_isub hx hb dX9_behindUnit_48 (lv_topi fun v_126 ev_126 => ?_))))))
          have tv_126 := q_sub ev_126 (by omega) (by omega)
          refine q_ild hx hb hK hP5 4 3 rfl rfl (q_in (by omega) (by omega)) dX9_behindUnit_49 (fun v_127 ev_127 => ?_)
          have kv_127 := q_ix (n := (piv.toInt - 1).toNat) ev_127 (by omega) (by omega)
          have uv_127 : v_127.toInt = (b_p0_eWhat (piv.toInt - 1).toNat).toInt := by rw [kv_127]
          have htopv_127 := (q_EI.cast hq23_0 (p' := (piv.toInt - 1).toNat + 1) (by omega) rfl rfl rfl).top kv_127
          refine lv_iload_n hx hb dX9_behindUnit_50 rfl (lv_at hl 0 rfl) ?_
          refine lv_icmp_lt (tgt := 104) hx hb dX9_behindUnit_51 (by decide) (fun c_128 => ?_) (fun c_128 => ?_)
          · have tc_128 := q_lt c_128
            refine lv_iload_n hx hb dX9_behindUnit_104 rfl (lv_at hl 0 rfl) ?_
            refine lv_if_le (tgt := 147) hx hb dX9_behindUnit_105 (by decide) (fun c_129 => ?_) (fun c_129 => ?_)
            · have tc_129 := q_le c_129
              refine lv_aload_n hx hb dX9_behindUnit_147 rfl (lv_at hl 1 rfl) (lv_dup hx hb dX9_behindUnit_148 rfl (qg_X9_48 hx hb hts i_X9 hown hK hP5 0 rfl k_5 fv_fz_p0_48 dX9_behindUnit_149 (lv_iconst (v := 1) hx hb dX9_behindUnit_152 (by decide) (lv_isub hx hb dX9_behindUnit_153 (lv_topi fun v_130 ev_130 => ?_)))))
              have tv_130 := q_sub ev_130 (by omega) (by omega)
              refine qp_X9_48 hx hb hts i_X9 hown hK hP5 hDa za_r_behindUnit hS5 0 rfl k_5 (OKX9_l ho_fz_p0) dX9_behindUnit_154 (fun H131 lo131 fs131 efs131 (hP131 : va_P (dC, dI) vwCl (zW_r_behindUnit p0 fs131 p0_code c_p0_code bz_p0_code p0_codeNumber c_p0_codeNumber bz_p0_codeNumber p0_eSign c_p0_eSign b_p0_eSign p0_eWhat c_p0_eWhat b_p0_eWhat p0_text c_p0_text b_p0_text) H131) hS131 => ?_)
              have ho131 := OKX9_p48 ho_fz_p0 efs131
              clear hP5 hS5
              refine lv_aload_n hx hb dX9_behindUnit_157 rfl (lv_at hl 1 rfl) (qg_X9_40 hx hb hts i_X9 hown hK hP131 0 rfl k_4 (q_sn efs131 (by decide) fr_fz_p0_40) dX9_behindUnit_158 (lv_aload_n hx hb dX9_behindUnit_161 rfl (lv_at hl 1 rfl) (qg_X9_48 hx hb hts i_X9 hown hK hP131 0 rfl k_5 (q_sa efs131 (OKX9_l ho_fz_p0) (by decide)) dX9_behindUnit_162 (q_ild hx hb hK hP131 4 3 rfl rfl (q_in (by omega) (by omega)) dX9_behindUnit_165 (fun v_132 ev_132 => ?_)))))
              have kv_132 := q_ix (n := (piv.toInt - 1).toNat) ev_132 (by omega) (by omega)
              have uv_132 : v_132.toInt = (b_p0_eWhat (piv.toInt - 1).toNat).toInt := by rw [kv_132]
              have htopv_132 := (q_EI.cast hq23_0 (p' := (piv.toInt - 1).toNat + 1) (by omega) rfl rfl rfl).top kv_132
              refine lv_bipush (v := 7) hx hb dX9_behindUnit_166 (by decide) ?_
              refine lv_icmp_ne (tgt := 191) hx hb dX9_behindUnit_168 (by decide) (fun c_133 => ?_) (fun c_133 => ?_)
              · have tc_133 := q_ne c_133
                refine lv_iconst (v := 0) hx hb dX9_behindUnit_191 (by decide) ?_
                exact q_zret hx hb hr hlocks (by decide) hS131 dX9_behindUnit_192 ⟨fs131, bz_p0_code, bz_p0_codeNumber, b_p0_eSign, b_p0_eWhat, at0, en, tk, fk, cov, un, wiv, v_130, (Or.inr ⟨rfl, by omega, Or.inr ⟨by omega, (q_EI.cast hq23_0 (p' := 1) (by omega) rfl rfl rfl).done.1, by omega, by omega⟩⟩), ho131, (hf_fz_p0.st efs131 (by decide)), (q_sn efs131 (by decide) fh_fz_p0_6), (q_sn efs131 (by decide) fh_fz_p0_7), (q_sn efs131 (by decide) fh_fz_p0_8), (q_sn efs131 (by decide) fh_fz_p0_4), (q_sn efs131 (by decide) fv_fz_p0_45), (q_sn efs131 (by decide) fh_fz_p0_46), (q_sn efs131 (by decide) fv_fz_p0_47), (q_sa efs131 (OKX9_l ho_fz_p0) (by decide)), (by omega), (by omega), (by omega), hq23_1, (by omega), (by omega), hP131, za_r_behindUnit⟩
              · have tc_133 := q_eqN c_133
                refine lv_aload_n hx hb dX9_behindUnit_171 rfl (lv_at hl 1 rfl) (lv_dup hx hb dX9_behindUnit_172 rfl (qg_X9_47 hx hb hts i_X9 hown hK hP131 0 rfl k_6 (q_sn efs131 (by decide) fv_fz_p0_47) dX9_behindUnit_173 (lv_iconst (v := 1) hx hb dX9_behindUnit_176 (by decide) (lv_isub hx hb dX9_behindUnit_177 (lv_topi fun v_134 ev_134 => ?_)))))
                have tv_134 := q_sub ev_134 (by omega) (by omega)
                refine qp_X9_47 hx hb hts i_X9 hown hK hP131 hDa za_r_behindUnit hS131 0 rfl k_6 (OKX9_l ho131) dX9_behindUnit_178 (fun H135 lo135 fs135 efs135 (hP135 : va_P (dC, dI) vwCl (zW_r_behindUnit p0 fs135 p0_code c_p0_code bz_p0_code p0_codeNumber c_p0_codeNumber bz_p0_codeNumber p0_eSign c_p0_eSign b_p0_eSign p0_eWhat c_p0_eWhat b_p0_eWhat p0_text c_p0_text b_p0_text) H135) hS135 => ?_)
                have ho135 := OKX9_p47 ho131 efs135
                clear hP131 hS131
                refine lv_aload_n hx hb dX9_behindUnit_181 rfl (lv_at hl 1 rfl) (lv_aload_n hx hb dX9_behindUnit_182 rfl (lv_at hl 1 rfl) (lv_bipush (v := 41) hx hb dX9_behindUnit_183 (by decide) ?_))
                refine q_cVi (As := [.int 41]) (rest := [.ref p0]) q_w0 trivial hK hP135 hDa za_r_behindUnit hS135 hA [0, 5] [4] (by decide +kernel) ⟨hx, hb, hml, hown, hts⟩ (r_is l dC dI H135.size p0 fs135 p0_text c_p0_text b_p0_text 41 tk at0 siz ho135 ((q_sn efs135 (by decide) (q_sn efs131 (by decide) fr_fz_p0_1))) ((q_sn efs135 (by decide) (q_sn efs131 (by decide) fh_fz_p0_8))) ((q_sn efs135 (by decide) (q_sn efs131 (by decide) fh_fz_p0_6))) ((q_sn efs135 (by decide) (q_sn efs131 (by decide) fh_fz_p0_3)))) rfl rfl (cwV 1 hts (p1_gV m_7 m_8 m_9 m_3 g_r_is gz_r_is) rfl rfl rfl (by decide +kernel) ⟨by decide, by decide⟩) (va_recv hK hP135 (ci := 8) (q0 := 0) rfl rfl) zm_r_is rfl hl.1 rfl (Nat.le_of_ble_eq_true rfl) dX9_behindUnit_185 ⟨by decide, by decide⟩ (fun r_136 H137 lo137 hG137 hS137 => ?_)
                obtain ⟨z_138, hQ137⟩ := hG137
                have hP137 : va_P (dC, dI) vwCl (zW_r_behindUnit p0 fs135 p0_code c_p0_code bz_p0_code p0_codeNumber c_p0_codeNumber bz_p0_codeNumber p0_eSign c_p0_eSign b_p0_eSign p0_eWhat c_p0_eWhat b_p0_eWhat p0_text c_p0_text b_p0_text) H137 := hQ137
                clear hQ137 hP135 hS135
                rcases z_138 with ⟨rfl, z_138⟩ | ⟨rfl, z_138⟩
                · refine q_cVv (As := [.int 1]) (rest := []) q_w0 trivial hK hP137 hDa za_r_behindUnit hS137 hA [0, 5] [4] (by decide +kernel) ⟨hx, hb, hml, hown, hts⟩ (r_must l dC dI H137.size p0 fs135 p0_text c_p0_text b_p0_text 1 at0 en tk siz fk ho135 ((q_sn efs135 (by decide) (q_sn efs131 (by decide) fr_fz_p0_1))) ((q_sn efs135 (by decide) (q_sn efs131 (by decide) fh_fz_p0_6))) ((q_sn efs135 (by decide) (q_sn efs131 (by decide) fh_fz_p0_7))) ((q_sn efs135 (by decide) (q_sn efs131 (by decide) fh_fz_p0_8))) ((q_sn efs135 (by decide) (q_sn efs131 (by decide) fh_fz_p0_3))) ((q_sn efs135 (by decide) (q_sn efs131 (by decide) fh_fz_p0_4))) ((by omega))) rfl rfl (cwV 1 hts (p1_gV m_10 m_11 m_12 m_3 g_r_must gz_r_must) rfl rfl rfl (by decide +kernel) ⟨by decide, by decide⟩) (va_recv hK hP137 (ci := 8) (q0 := 0) rfl rfl) zm_r_must rfl hl.1 rfl (Nat.le_of_ble_eq_true rfl) dX9_behindUnit_188 ⟨by decide, by decide⟩ (fun H140 lo140 hG140 hS140 => ?_)
                  obtain ⟨o_141, o_142, o_143, o_144, o_145, ho_146, hf_147, z_148, z_149, z_150, z_151, z_152, z_153, hQ140⟩ := hG140
                  have to_142 := (OKX9_g6 ho_146).use z_148
                  have to_143 := (OKX9_g7 ho_146).use z_149
                  have to_144 := (OKX9_g8 ho_146).use z_150
                  have to_145 := (OKX9_g4 ho_146).use z_151
                  have hP140 : va_P (dC, dI) vwCl (zW_r_behindUnit p0 o_141 p0_code c_p0_code bz_p0_code p0_codeNumber c_p0_codeNumber bz_p0_codeNumber p0_eSign c_p0_eSign b_p0_eSign p0_eWhat c_p0_eWhat b_p0_eWhat p0_text c_p0_text b_p0_text) H140 := hQ140
                  clear hQ140 hP137 hS137
                  refine lv_iconst (v := 0) hx hb dX9_behindUnit_191 (by decide) ?_
                  have hEn := q_EI.drop (p := (piv.toInt - 1).toNat) (wi' := v_134.toInt) (q_EI.cast hq23_0 (by omega) rfl rfl rfl) (by omega) kv_132 (by omega) (by omega)
                  have hbn := hEn.bd
                  exact q_zret hx hb hr hlocks (by decide) hS140 dX9_behindUnit_192 ⟨o_141, bz_p0_code, bz_p0_codeNumber, b_p0_eSign, b_p0_eWhat, o_142, o_143, o_144, o_145, cov, un, v_134, v_130, (Or.inr ⟨rfl, by omega, Or.inl ⟨by omega, q_EI.cast hEn (by omega) (by omega) (by omega) rfl⟩⟩), ho_146, (((hf_fz_p0.st efs131 (by decide)).st efs135 (by decide)).tr hf_147 (by decide)), z_148, z_149, z_150, z_151, (hf_147.u (by decide) (q_sn efs135 (by decide) (q_sn efs131 (by decide) fv_fz_p0_45))), (hf_147.u (by decide) (q_sn efs135 (by decide) (q_sn efs131 (by decide) fh_fz_p0_46))), (hf_147.u (by decide) (q_sa efs135 (OKX9_l ho131) (by decide))), (hf_147.u (by decide) (q_sn efs135 (by decide) (q_sa efs131 (OKX9_l ho_fz_p0) (by decide)))), (by omega), (by omega), (by omega), hq23_1, (by omega), (by omega), hP140, za_r_behindUnit⟩
                · refine q_cVv (As := [.int 0]) (rest := []) q_w0 trivial hK hP137 hDa za_r_behindUnit hS137 hA [0, 5] [4] (by decide +kernel) ⟨hx, hb, hml, hown, hts⟩ (r_must l dC dI H137.size p0 fs135 p0_text c_p0_text b_p0_text 0 at0 en tk siz fk ho135 ((q_sn efs135 (by decide) (q_sn efs131 (by decide) fr_fz_p0_1))) ((q_sn efs135 (by decide) (q_sn efs131 (by decide) fh_fz_p0_6))) ((q_sn efs135 (by decide) (q_sn efs131 (by decide) fh_fz_p0_7))) ((q_sn efs135 (by decide) (q_sn efs131 (by decide) fh_fz_p0_8))) ((q_sn efs135 (by decide) (q_sn efs131 (by decide) fh_fz_p0_3))) ((q_sn efs135 (by decide) (q_sn efs131 (by decide) fh_fz_p0_4))) ((by omega))) rfl rfl (cwV 1 hts (p1_gV m_10 m_11 m_12 m_3 g_r_must gz_r_must) rfl rfl rfl (by decide +kernel) ⟨by decide, by decide⟩) (va_recv hK hP137 (ci := 8) (q0 := 0) rfl rfl) zm_r_must rfl hl.1 rfl (Nat.le_of_ble_eq_true rfl) dX9_behindUnit_188 ⟨by decide, by decide⟩ (fun H155 lo155 hG155 hS155 => ?_)
                  obtain ⟨o_156, o_157, o_158, o_159, o_160, ho_161, hf_162, z_163, z_164, z_165, z_166, z_167, z_168, hQ155⟩ := hG155
                  have to_157 := (OKX9_g6 ho_161).use z_163
                  have to_158 := (OKX9_g7 ho_161).use z_164
                  have to_159 := (OKX9_g8 ho_161).use z_165
                  have to_160 := (OKX9_g4 ho_161).use z_166
                  have hP155 : va_P (dC, dI) vwCl (zW_r_behindUnit p0 o_156 p0_code c_p0_code bz_p0_code p0_codeNumber c_p0_codeNumber bz_p0_codeNumber p0_eSign c_p0_eSign b_p0_eSign p0_eWhat c_p0_eWhat b_p0_eWhat p0_text c_p0_text b_p0_text) H155 := hQ155
                  clear hQ155 hP137 hS137
                  refine lv_iconst (v := 0) hx hb dX9_behindUnit_191 (by decide) ?_
                  have hEn := q_EI.drop (p := (piv.toInt - 1).toNat) (wi' := v_134.toInt) (q_EI.cast hq23_0 (by omega) rfl rfl rfl) (by omega) kv_132 (by omega) (by omega)
                  have hbn := hEn.bd
                  exact q_zret hx hb hr hlocks (by decide) hS155 dX9_behindUnit_192 ⟨o_156, bz_p0_code, bz_p0_codeNumber, b_p0_eSign, b_p0_eWhat, o_157, o_158, o_159, o_160, cov, un, v_134, v_130, (Or.inr ⟨rfl, by omega, Or.inl ⟨by omega, q_EI.cast hEn (by omega) (by omega) (by omega) rfl⟩⟩), ho_161, (((hf_fz_p0.st efs131 (by decide)).st efs135 (by decide)).tr hf_162 (by decide)), z_163, z_164, z_165, z_166, (hf_162.u (by decide) (q_sn efs135 (by decide) (q_sn efs131 (by decide) fv_fz_p0_45))), (hf_162.u (by decide) (q_sn efs135 (by decide) (q_sn efs131 (by decide) fh_fz_p0_46))), (hf_162.u (by decide) (q_sa efs135 (OKX9_l ho131) (by decide))), (hf_162.u (by decide) (q_sn efs135 (by decide) (q_sa efs131 (OKX9_l ho_fz_p0) (by decide)))), (by omega), (by omega), (by omega), hq23_1, (by omega), (by omega), hP155, za_r_behindUnit⟩
            · have tc_129 := q_gtN c_129
              refine lv_aload_n hx hb dX9_behindUnit_108 rfl (lv_at hl 1 rfl) (lv_iload_n hx hb dX9_behindUnit_109 rfl (lv_at hl 0 rfl) (lv_iload_n hx hb dX9_behindUnit_110 rfl (lv_at hl 0 rfl) (lv_iconst (v := 2) hx hb dX9_behindUnit_111 (by decide) ?_)))
              refine lv_icmp_ne (tgt := 120) hx hb dX9_behindUnit_112 (by decide) (fun c_169 => ?_) (fun c_169 => ?_)
              · have tc_169 := q_ne c_169
                refine lv_iload_n hx hb dX9_behindUnit_120 rfl (lv_at hl 0 rfl) (lv_iconst (v := 1) hx hb dX9_behindUnit_121 (by decide) ?_)
                refine lv_icmp_ne (tgt := 130) hx hb dX9_behindUnit_122 (by decide) (fun c_170 => ?_) (fun c_170 => ?_)
                · have tc_170 := q_ne c_170
                  refine lv_aload_n hx hb dX9_behindUnit_130 rfl (lv_at hl 1 rfl) (lv_aload_n hx hb dX9_behindUnit_131 rfl (lv_at hl 1 rfl) (qg_X9_6 hx hb hts i_X9 hown hK hP5 0 rfl k_13 fh_fz_p0_6 dX9_behindUnit_132 ?_))
                  refine q_cVi (As := [.int at0]) (rest := [.int r_1, .ref p0]) q_w0 trivial hK hP5 hDa za_r_behindUnit hS5 hA [0, 5] [4] (by decide +kernel) ⟨hx, hb, hml, hown, hts⟩ (r_sign l dC dI H5.size p0 fz_p0 p0_text c_p0_text b_p0_text at0 siz ho_fz_p0 fr_fz_p0_1 fh_fz_p0_3 ((by omega))) rfl rfl (cwV 1 hts (p1_gV m_14 m_15 m_16 m_3 g_r_sign gz_r_sign) rfl rfl rfl (by decide +kernel) ⟨by decide, by decide⟩) (va_recv hK hP5 (ci := 8) (q0 := 0) rfl rfl) zm_r_sign rfl hl.1 rfl (Nat.le_of_ble_eq_true rfl) dX9_behindUnit_135 ⟨by decide, by decide⟩ (fun r_171 H172 lo172 hG172 hS172 => ?_)
                  obtain ⟨z_173, hQ172⟩ := hG172
                  have hP172 : va_P (dC, dI) vwCl (zW_r_behindUnit p0 fz_p0 p0_code c_p0_code bz_p0_code p0_codeNumber c_p0_codeNumber bz_p0_codeNumber p0_eSign c_p0_eSign b_p0_eSign p0_eWhat c_p0_eWhat b_p0_eWhat p0_text c_p0_text b_p0_text) H172 := hQ172
                  clear hQ172 hP5 hS5
                  refine q_cVv (As := [.int r_1, .int r_171]) (rest := []) q_w0 trivial hK hP172 hDa za_r_behindUnit hS172 hA [0, 3, 4] [2, 3] (by decide +kernel) ⟨hx, hb, hml, hown, hts⟩ (r_pushE l dC dI H172.size p0 fz_p0 p0_eSign c_p0_eSign b_p0_eSign p0_eWhat c_p0_eWhat b_p0_eWhat r_1 r_171 piv ho_fz_p0 fr_fz_p0_40 fr_fz_p0_41 fv_fz_p0_48 ((by omega))) rfl rfl (cwV 2 hts (p1_gV m_17 m_18 m_19 m_3 g_r_pushE gz_r_pushE) rfl rfl rfl (by decide +kernel) ⟨by decide, by decide⟩) (va_recv hK hP172 (ci := 8) (q0 := 0) rfl rfl) zm_r_pushE rfl hl.1 rfl (Nat.le_of_ble_eq_true rfl) dX9_behindUnit_138 ⟨by decide, by decide⟩ (fun H175 lo175 hG175 hS175 => ?_)
                  obtain ⟨o_176, o_177, o_178, o_179, ho_180, hf_181, z_182, z_183, z_184, z_185, hQ175⟩ := hG175
                  have hP175 : va_P (dC, dI) vwCl (zW_r_behindUnit p0 o_176 p0_code c_p0_code bz_p0_code p0_codeNumber c_p0_codeNumber bz_p0_codeNumber p0_eSign c_p0_eSign o_177 p0_eWhat c_p0_eWhat o_178 p0_text c_p0_text b_p0_text) H175 := hQ175
                  clear hQ175 hP172 hS172
                  refine lv_aload_n hx hb dX9_behindUnit_141 rfl (lv_at hl 1 rfl) ?_
                  refine q_cVv (As := []) (rest := []) q_w0 trivial hK hP175 hDa za_r_behindUnit hS175 hA [0, 5] [4] (by decide +kernel) ⟨hx, hb, hml, hown, hts⟩ (r_goOn l dC dI H175.size p0 o_176 p0_text c_p0_text b_p0_text en siz ho_180 ((hf_181.u (by decide) fr_fz_p0_1)) ((hf_181.u (by decide) fh_fz_p0_7)) ((hf_181.u (by decide) fh_fz_p0_3)) ((by omega))) rfl rfl (cwV 0 hts (p1_gV m_20 m_21 m_22 m_3 g_r_goOn gz_r_goOn) rfl rfl rfl (by decide +kernel) ⟨by decide, by decide⟩) (va_recv hK hP175 (ci := 8) (q0 := 0) rfl rfl) zm_r_goOn rfl hl.1 rfl (Nat.le_of_ble_eq_true rfl) dX9_behindUnit_142 ⟨by decide, by decide⟩ (fun H187 lo187 hG187 hS187 => ?_)
                  obtain ⟨o_188, o_189, o_190, o_191, ho_192, hf_193, z_194, z_195, z_196, z_197, hQ187⟩ := hG187
                  have to_189 := (OKX9_g6 ho_192).use z_194
                  have to_190 := (OKX9_g7 ho_192).use z_195
                  have to_191 := (OKX9_g8 ho_192).use z_196
                  have hP187 : va_P (dC, dI) vwCl (zW_r_behindUnit p0 o_188 p0_code c_p0_code bz_p0_code p0_codeNumber c_p0_codeNumber bz_p0_codeNumber p0_eSign c_p0_eSign o_177 p0_eWhat c_p0_eWhat o_178 p0_text c_p0_text b_p0_text) H187 := hQ187
                  clear hQ187 hP175 hS175
                  refine lv_iconst (v := 1) hx hb dX9_behindUnit_145 (by decide) ?_
                  exact q_zret hx hb hr hlocks (by decide) hS187 dX9_behindUnit_146 ⟨o_188, bz_p0_code, bz_p0_codeNumber, o_177, o_178, o_189, o_190, o_191, fk, cov, un, wiv, o_179, (Or.inl ⟨rfl, Or.inr ⟨by omega, q_EI.cast (hq23_0.wait z_184 z_185 (z_3.2.2.op (by omega)) (z_3.2.2.ops (by omega) (by omega) (by omega) (by omega))) (by omega) (by omega) (by omega) (by omega)⟩⟩), ho_192, ((hf_fz_p0.tr hf_181 (by decide)).tr hf_193 (by decide)), z_194, z_195, z_196, (hf_193.u (by decide) (hf_181.u (by decide) fh_fz_p0_4)), (hf_193.u (by decide) (hf_181.u (by decide) fv_fz_p0_45)), (hf_193.u (by decide) (hf_181.u (by decide) fh_fz_p0_46)), (hf_193.u (by decide) (hf_181.u (by decide) fv_fz_p0_47)), (hf_193.u (by decide) z_182), (by omega), (by omega), (by omega), hq23_1, (by omega), (by omega), hP187, za_r_behindUnit⟩
                · have tc_170 := q_eqN c_170
                  refine lv_bipush (v := 124) hx hb dX9_behindUnit_125 (by decide) (lv_goto (tgt := 138) hx hb dX9_behindUnit_127 (by decide) ?_)
                  refine q_cVv (As := [.int r_1, .int 124]) (rest := []) q_w0 trivial hK hP5 hDa za_r_behindUnit hS5 hA [0, 3, 4] [2, 3] (by decide +kernel) ⟨hx, hb, hml, hown, hts⟩ (r_pushE l dC dI H5.size p0 fz_p0 p0_eSign c_p0_eSign b_p0_eSign p0_eWhat c_p0_eWhat b_p0_eWhat r_1 124 piv ho_fz_p0 fr_fz_p0_40 fr_fz_p0_41 fv_fz_p0_48 ((by omega))) rfl rfl (cwV 2 hts (p1_gV m_17 m_18 m_19 m_3 g_r_pushE gz_r_pushE) rfl rfl rfl (by decide +kernel) ⟨by decide, by decide⟩) (va_recv hK hP5 (ci := 8) (q0 := 0) rfl rfl) zm_r_pushE rfl hl.1 rfl (Nat.le_of_ble_eq_true rfl) dX9_behindUnit_138 ⟨by decide, by decide⟩ (fun H199 lo199 hG199 hS199 => ?_)
                  obtain ⟨o_200, o_201, o_202, o_203, ho_204, hf_205, z_206, z_207, z_208, z_209, hQ199⟩ := hG199
                  have hP199 : va_P (dC, dI) vwCl (zW_r_behindUnit p0 o_200 p0_code c_p0_code bz_p0_code p0_codeNumber c_p0_codeNumber bz_p0_codeNumber p0_eSign c_p0_eSign o_201 p0_eWhat c_p0_eWhat o_202 p0_text c_p0_text b_p0_text) H199 := hQ199
                  clear hQ199 hP5 hS5
                  refine lv_aload_n hx hb dX9_behindUnit_141 rfl (lv_at hl 1 rfl) ?_
                  refine q_cVv (As := []) (rest := []) q_w0 trivial hK hP199 hDa za_r_behindUnit hS199 hA [0, 5] [4] (by decide +kernel) ⟨hx, hb, hml, hown, hts⟩ (r_goOn l dC dI H199.size p0 o_200 p0_text c_p0_text b_p0_text en siz ho_204 ((hf_205.u (by decide) fr_fz_p0_1)) ((hf_205.u (by decide) fh_fz_p0_7)) ((hf_205.u (by decide) fh_fz_p0_3)) ((by omega))) rfl rfl (cwV 0 hts (p1_gV m_20 m_21 m_22 m_3 g_r_goOn gz_r_goOn) rfl rfl rfl (by decide +kernel) ⟨by decide, by decide⟩) (va_recv hK hP199 (ci := 8) (q0 := 0) rfl rfl) zm_r_goOn rfl hl.1 rfl (Nat.le_of_ble_eq_true rfl) dX9_behindUnit_142 ⟨by decide, by decide⟩ (fun H211 lo211 hG211 hS211 => ?_)
                  obtain ⟨o_212, o_213, o_214, o_215, ho_216, hf_217, z_218, z_219, z_220, z_221, hQ211⟩ := hG211
                  have to_213 := (OKX9_g6 ho_216).use z_218
                  have to_214 := (OKX9_g7 ho_216).use z_219
                  have to_215 := (OKX9_g8 ho_216).use z_220
                  have hP211 : va_P (dC, dI) vwCl (zW_r_behindUnit p0 o_212 p0_code c_p0_code bz_p0_code p0_codeNumber c_p0_codeNumber bz_p0_codeNumber p0_eSign c_p0_eSign o_201 p0_eWhat c_p0_eWhat o_202 p0_text c_p0_text b_p0_text) H211 := hQ211
                  clear hQ211 hP199 hS199
                  refine lv_iconst (v := 1) hx hb dX9_behindUnit_145 (by decide) ?_
                  exact q_zret hx hb hr hlocks (by decide) hS211 dX9_behindUnit_146 ⟨o_212, bz_p0_code, bz_p0_codeNumber, o_201, o_202, o_213, o_214, o_215, fk, cov, un, wiv, o_203, (Or.inl ⟨rfl, Or.inr ⟨by omega, q_EI.cast (hq23_0.wait z_208 z_209 (z_3.2.2.op (by omega)) q_ops124) (by omega) (by omega) (by omega) (by omega)⟩⟩), ho_216, ((hf_fz_p0.tr hf_205 (by decide)).tr hf_217 (by decide)), z_218, z_219, z_220, (hf_217.u (by decide) (hf_205.u (by decide) fh_fz_p0_4)), (hf_217.u (by decide) (hf_205.u (by decide) fv_fz_p0_45)), (hf_217.u (by decide) (hf_205.u (by decide) fh_fz_p0_46)), (hf_217.u (by decide) (hf_205.u (by decide) fv_fz_p0_47)), (hf_217.u (by decide) z_206), (by omega), (by omega), (by omega), hq23_1, (by omega), (by omega), hP211, za_r_behindUnit⟩
              · have tc_169 := q_eqN c_169
                refine lv_bipush (v := 38) hx hb dX9_behindUnit_115 (by decide) (lv_goto (tgt := 138) hx hb dX9_behindUnit_117 (by decide) ?_)
                refine q_cVv (As := [.int r_1, .int 38]) (rest := []) q_w0 trivial hK hP5 hDa za_r_behindUnit hS5 hA [0, 3, 4] [2, 3] (by decide +kernel) ⟨hx, hb, hml, hown, hts⟩ (r_pushE l dC dI H5.size p0 fz_p0 p0_eSign c_p0_eSign b_p0_eSign p0_eWhat c_p0_eWhat b_p0_eWhat r_1 38 piv ho_fz_p0 fr_fz_p0_40 fr_fz_p0_41 fv_fz_p0_48 ((by omega))) rfl rfl (cwV 2 hts (p1_gV m_17 m_18 m_19 m_3 g_r_pushE gz_r_pushE) rfl rfl rfl (by decide +kernel) ⟨by decide, by decide⟩) (va_recv hK hP5 (ci := 8) (q0 := 0) rfl rfl) zm_r_pushE rfl hl.1 rfl (Nat.le_of_ble_eq_true rfl) dX9_behindUnit_138 ⟨by decide, by decide⟩ (fun H223 lo223 hG223 hS223 => ?_)
                obtain ⟨o_224, o_225, o_226, o_227, ho_228, hf_229, z_230, z_231, z_232, z_233, hQ223⟩ := hG223
                have hP223 : va_P (dC, dI) vwCl (zW_r_behindUnit p0 o_224 p0_code c_p0_code bz_p0_code p0_codeNumber c_p0_codeNumber bz_p0_codeNumber p0_eSign c_p0_eSign o_225 p0_eWhat c_p0_eWhat o_226 p0_text c_p0_text b_p0_text) H223 := hQ223
                clear hQ223 hP5 hS5
                refine lv_aload_n hx hb dX9_behindUnit_141 rfl (lv_at hl 1 rfl) ?_
                refine q_cVv (As := []) (rest := []) q_w0 trivial hK hP223 hDa za_r_behindUnit hS223 hA [0, 5] [4] (by decide +kernel) ⟨hx, hb, hml, hown, hts⟩ (r_goOn l dC dI H223.size p0 o_224 p0_text c_p0_text b_p0_text en siz ho_228 ((hf_229.u (by decide) fr_fz_p0_1)) ((hf_229.u (by decide) fh_fz_p0_7)) ((hf_229.u (by decide) fh_fz_p0_3)) ((by omega))) rfl rfl (cwV 0 hts (p1_gV m_20 m_21 m_22 m_3 g_r_goOn gz_r_goOn) rfl rfl rfl (by decide +kernel) ⟨by decide, by decide⟩) (va_recv hK hP223 (ci := 8) (q0 := 0) rfl rfl) zm_r_goOn rfl hl.1 rfl (Nat.le_of_ble_eq_true rfl) dX9_behindUnit_142 ⟨by decide, by decide⟩ (fun H235 lo235 hG235 hS235 => ?_)
                obtain ⟨o_236, o_237, o_238, o_239, ho_240, hf_241, z_242, z_243, z_244, z_245, hQ235⟩ := hG235
                have to_237 := (OKX9_g6 ho_240).use z_242
                have to_238 := (OKX9_g7 ho_240).use z_243
                have to_239 := (OKX9_g8 ho_240).use z_244
                have hP235 : va_P (dC, dI) vwCl (zW_r_behindUnit p0 o_236 p0_code c_p0_code bz_p0_code p0_codeNumber c_p0_codeNumber bz_p0_codeNumber p0_eSign c_p0_eSign o_225 p0_eWhat c_p0_eWhat o_226 p0_text c_p0_text b_p0_text) H235 := hQ235
                clear hQ235 hP223 hS223
                refine lv_iconst (v := 1) hx hb dX9_behindUnit_145 (by decide) ?_
                exact q_zret hx hb hr hlocks (by decide) hS235 dX9_behindUnit_146 ⟨o_236, bz_p0_code, bz_p0_codeNumber, o_225, o_226, o_237, o_238, o_239, fk, cov, un, wiv, o_227, (Or.inl ⟨rfl, Or.inr ⟨by omega, q_EI.cast (hq23_0.wait z_232 z_233 (z_3.2.2.op (by omega)) q_ops38) (by omega) (by omega) (by omega) (by omega)⟩⟩), ho_240, ((hf_fz_p0.tr hf_229 (by decide)).tr hf_241 (by decide)), z_242, z_243, z_244, (hf_241.u (by decide) (hf_229.u (by decide) fh_fz_p0_4)), (hf_241.u (by decide) (hf_229.u (by decide) fv_fz_p0_45)), (hf_241.u (by decide) (hf_229.u (by decide) fh_fz_p0_46)), (hf_241.u (by decide) (hf_229.u (by decide) fv_fz_p0_47)), (hf_241.u (by decide) z_230), (by omega), (by omega), (by omega), hq23_1, (by omega), (by omega), hP235, za_r_behindUnit⟩
          · have tc_128 := q_geN c_128
            refine lv_aload_n hx hb dX9_behindUnit_54 rfl (lv_at hl 1 rfl) (lv_dup hx hb dX9_behindUnit_55 rfl (qg_X9_48 hx hb hts i_X9 hown hK hP5 0 rfl k_5 fv_fz_p0_48 dX9_behindUnit_56 (lv_iconst (v := 1) hx hb dX9_behindUnit_59 (by decide) (lv_isub hx hb dX9_behindUnit_60 (lv_topi fun v_246 ev_246 => ?_)))))
            have tv_246 := q_sub ev_246 (by omega) (by omega)
            refine qp_X9_48 hx hb hts i_X9 hown hK hP5 hDa za_r_behindUnit hS5 0 rfl k_5 (OKX9_l ho_fz_p0) dX9_behindUnit_61 (fun H247 lo247 fs247 efs247 (hP247 : va_P (dC, dI) vwCl (zW_r_behindUnit p0 fs247 p0_code c_p0_code bz_p0_code p0_codeNumber c_p0_codeNumber bz_p0_codeNumber p0_eSign c_p0_eSign b_p0_eSign p0_eWhat c_p0_eWhat b_p0_eWhat p0_text c_p0_text b_p0_text) H247) hS247 => ?_)
            have ho247 := OKX9_p48 ho_fz_p0 efs247
            clear hP5 hS5
            refine lv_aload_n hx hb dX9_behindUnit_64 rfl (lv_at hl 1 rfl) (qg_X9_40 hx hb hts i_X9 hown hK hP247 0 rfl k_4 (q_sn efs247 (by decide) fr_fz_p0_40) dX9_behindUnit_65 (lv_aload_n hx hb dX9_behindUnit_68 rfl (lv_at hl 1 rfl) (qg_X9_48 hx hb hts i_X9 hown hK hP247 0 rfl k_5 (q_sa efs247 (OKX9_l ho_fz_p0) (by decide)) dX9_behindUnit_69 (q_ild hx hb hK hP247 4 3 rfl rfl (q_in (by omega) (by omega)) dX9_behindUnit_72 (fun v_248 ev_248 => ?_)))))
            have kv_248 := q_ix (n := (piv.toInt - 1).toNat) ev_248 (by omega) (by omega)
            have uv_248 : v_248.toInt = (b_p0_eWhat (piv.toInt - 1).toNat).toInt := by rw [kv_248]
            have htopv_248 := (q_EI.cast hq23_0 (p' := (piv.toInt - 1).toNat + 1) (by omega) rfl rfl rfl).top kv_248
            refine lv_iconst (v := 3) hx hb dX9_behindUnit_73 (by decide) ?_
            refine lv_icmp_ne (tgt := 87) hx hb dX9_behindUnit_74 (by decide) (fun c_249 => ?_) (fun c_249 => ?_)
            · have tc_249 := q_ne c_249
              refine lv_aload_n hx hb dX9_behindUnit_87 rfl (lv_at hl 1 rfl) (lv_aload_n hx hb dX9_behindUnit_88 rfl (lv_at hl 1 rfl) (qg_X9_41 hx hb hts i_X9 hown hK hP247 0 rfl k_23 (q_sn efs247 (by decide) fr_fz_p0_41) dX9_behindUnit_89 (lv_aload_n hx hb dX9_behindUnit_92 rfl (lv_at hl 1 rfl) (qg_X9_48 hx hb hts i_X9 hown hK hP247 0 rfl k_5 (q_sa efs247 (OKX9_l ho_fz_p0) (by decide)) dX9_behindUnit_93 (q_ild hx hb hK hP247 3 2 rfl rfl (q_in (by omega) (by omega)) dX9_behindUnit_96 (fun v_250 ev_250 => ?_))))))
              have kv_250 := q_ix (n := (piv.toInt - 1).toNat) ev_250 (by omega) (by omega)
              have uv_250 : v_250.toInt = (b_p0_eSign (piv.toInt - 1).toNat).toInt := by rw [kv_250]
              refine lv_iconst (v := 0) hx hb dX9_behindUnit_97 (by decide) ?_
              refine q_cVv (As := [.int v_250, .int 0]) (rest := []) q_w0 trivial hK hP247 hDa za_r_behindUnit hS247 hA [0, 1, 2] [0, 1] (by decide +kernel) ⟨hx, hb, hml, hown, hts⟩ (r_emit l dC dI H247.size p0 fs247 p0_code c_p0_code bz_p0_code p0_codeNumber c_p0_codeNumber bz_p0_codeNumber v_250 0 cov ho247 ((q_sn efs247 (by decide) fr_fz_p0_38)) ((q_sn efs247 (by decide) fr_fz_p0_39)) ((q_sn efs247 (by decide) fv_fz_p0_45)) ((by omega))) rfl rfl (cwV 2 hts (p1_gV m_24 m_25 m_26 m_3 g_r_emit gz_r_emit) rfl rfl rfl (by decide +kernel) ⟨by decide, by decide⟩) (va_recv hK hP247 (ci := 8) (q0 := 0) rfl rfl) zm_r_emit rfl hl.1 rfl (Nat.le_of_ble_eq_true rfl) dX9_behindUnit_98 ⟨by decide, by decide⟩ (fun H252 lo252 hG252 hS252 => ?_)
              obtain ⟨o_253, o_254, o_255, o_256, ho_257, hf_258, z_259, z_260, z_261, hQ252⟩ := hG252
              have hP252 : va_P (dC, dI) vwCl (zW_r_behindUnit p0 o_253 p0_code c_p0_code o_254 p0_codeNumber c_p0_codeNumber o_255 p0_eSign c_p0_eSign b_p0_eSign p0_eWhat c_p0_eWhat b_p0_eWhat p0_text c_p0_text b_p0_text) H252 := hQ252
              clear hQ252 hP247 hS247
              refine lv_goto (tgt := 23) hx hb dX9_behindUnit_101 (by decide) ?_
              have hEn := q_EI.cast (q_EI.pop (p := (piv.toInt - 1).toNat) (wi' := wiv.toInt) (q_EI.cast hq23_0 (by omega) rfl rfl rfl) kv_248 kv_250 (by omega) z_261 (by rw [if_neg (by omega)])) (p' := v_246.toInt.toNat) (co' := o_256.toInt) (by omega) (by omega) rfl rfl
              have hbn := hEn.bd
              exact ih23 (fu23 - 1) (by omega) o_253 o_256 wiv v_246 o_254 o_255 _ _ _ (by omega) ho_257 ((hf_fz_p0.st efs247 (by decide)).tr hf_258 (by decide)) (hf_258.u (by decide) (q_sn efs247 (by decide) fr_fz_p0_1)) (hf_258.u (by decide) (q_sn efs247 (by decide) fh_fz_p0_3)) (hf_258.u (by decide) (q_sn efs247 (by decide) fh_fz_p0_4)) (hf_258.u (by decide) (q_sn efs247 (by decide) fh_fz_p0_6)) (hf_258.u (by decide) (q_sn efs247 (by decide) fh_fz_p0_7)) (hf_258.u (by decide) (q_sn efs247 (by decide) fh_fz_p0_8)) (hf_258.u (by decide) (q_sn efs247 (by decide) fr_fz_p0_38)) (hf_258.u (by decide) (q_sn efs247 (by decide) fr_fz_p0_39)) (hf_258.u (by decide) (q_sn efs247 (by decide) fr_fz_p0_40)) (hf_258.u (by decide) (q_sn efs247 (by decide) fr_fz_p0_41)) (hf_258.u (by decide) (q_sn efs247 (by decide) fh_fz_p0_44)) z_259 (by omega) (hf_258.u (by decide) (q_sn efs247 (by decide) fh_fz_p0_46)) (hf_258.u (by decide) (q_sn efs247 (by decide) fv_fz_p0_47)) (by omega) (hf_258.u (by decide) (q_sa efs247 (OKX9_l ho_fz_p0) (by decide))) (by omega) hEn (hq23_1.up z_261 (by omega) (by omega)) (by omega) hP252 hS252 (lv_sub hl [0, 1] rfl)
            · have tc_249 := q_eqN c_249
              refine lv_aload_n hx hb dX9_behindUnit_77 rfl (lv_at hl 1 rfl) (lv_dup hx hb dX9_behindUnit_78 rfl (qg_X9_47 hx hb hts i_X9 hown hK hP247 0 rfl k_6 (q_sn efs247 (by decide) fv_fz_p0_47) dX9_behindUnit_79 (lv_iconst (v := 1) hx hb dX9_behindUnit_82 (by decide) (lv_isub hx hb dX9_behindUnit_83 (lv_topi fun v_262 ev_262 => ?_)))))
              have tv_262 := q_sub ev_262 (by omega) (by omega)
              refine qp_X9_47 hx hb hts i_X9 hown hK hP247 hDa za_r_behindUnit hS247 0 rfl k_6 (OKX9_l ho247) dX9_behindUnit_84 (fun H263 lo263 fs263 efs263 (hP263 : va_P (dC, dI) vwCl (zW_r_behindUnit p0 fs263 p0_code c_p0_code bz_p0_code p0_codeNumber c_p0_codeNumber bz_p0_codeNumber p0_eSign c_p0_eSign b_p0_eSign p0_eWhat c_p0_eWhat b_p0_eWhat p0_text c_p0_text b_p0_text) H263) hS263 => ?_)
              have ho263 := OKX9_p47 ho247 efs263
              clear hP247 hS247
              refine lv_aload_n hx hb dX9_behindUnit_87 rfl (lv_at hl 1 rfl) (lv_aload_n hx hb dX9_behindUnit_88 rfl (lv_at hl 1 rfl) (qg_X9_41 hx hb hts i_X9 hown hK hP263 0 rfl k_23 (q_sn efs263 (by decide) (q_sn efs247 (by decide) fr_fz_p0_41)) dX9_behindUnit_89 (lv_aload_n hx hb dX9_behindUnit_92 rfl (lv_at hl 1 rfl) (qg_X9_48 hx hb hts i_X9 hown hK hP263 0 rfl k_5 (q_sn efs263 (by decide) (q_sa efs247 (OKX9_l ho_fz_p0) (by decide))) dX9_behindUnit_93 (q_ild hx hb hK hP263 3 2 rfl rfl (q_in (by omega) (by omega)) dX9_behindUnit_96 (fun v_264 ev_264 => ?_))))))
              have kv_264 := q_ix (n := (piv.toInt - 1).toNat) ev_264 (by omega) (by omega)
              have uv_264 : v_264.toInt = (b_p0_eSign (piv.toInt - 1).toNat).toInt := by rw [kv_264]
              refine lv_iconst (v := 0) hx hb dX9_behindUnit_97 (by decide) ?_
              refine q_cVv (As := [.int v_264, .int 0]) (rest := []) q_w0 trivial hK hP263 hDa za_r_behindUnit hS263 hA [0, 1, 2] [0, 1] (by decide +kernel) ⟨hx, hb, hml, hown, hts⟩ (r_emit l dC dI H263.size p0 fs263 p0_code c_p0_code bz_p0_code p0_codeNumber c_p0_codeNumber bz_p0_codeNumber v_264 0 cov ho263 ((q_sn efs263 (by decide) (q_sn efs247 (by decide) fr_fz_p0_38))) ((q_sn efs263 (by decide) (q_sn efs247 (by decide) fr_fz_p0_39))) ((q_sn efs263 (by decide) (q_sn efs247 (by decide) fv_fz_p0_45))) ((by omega))) rfl rfl (cwV 2 hts (p1_gV m_24 m_25 m_26 m_3 g_r_emit gz_r_emit) rfl rfl rfl (by decide +kernel) ⟨by decide, by decide⟩) (va_recv hK hP263 (ci := 8) (q0 := 0) rfl rfl) zm_r_emit rfl hl.1 rfl (Nat.le_of_ble_eq_true rfl) dX9_behindUnit_98 ⟨by decide, by decide⟩ (fun H266 lo266 hG266 hS266 => ?_)
              obtain ⟨o_267, o_268, o_269, o_270, ho_271, hf_272, z_273, z_274, z_275, hQ266⟩ := hG266
              have hP266 : va_P (dC, dI) vwCl (zW_r_behindUnit p0 o_267 p0_code c_p0_code o_268 p0_codeNumber c_p0_codeNumber o_269 p0_eSign c_p0_eSign b_p0_eSign p0_eWhat c_p0_eWhat b_p0_eWhat p0_text c_p0_text b_p0_text) H266 := hQ266
              clear hQ266 hP263 hS263
              refine lv_goto (tgt := 23) hx hb dX9_behindUnit_101 (by decide) ?_
              have hEn := q_EI.cast (q_EI.pop (p := (piv.toInt - 1).toNat) (wi' := v_262.toInt) (q_EI.cast hq23_0 (by omega) rfl rfl rfl) kv_248 kv_264 (by omega) z_275 (by rw [if_pos (by omega)]; omega)) (p' := v_246.toInt.toNat) (co' := o_270.toInt) (by omega) (by omega) rfl rfl
              have hbn := hEn.bd
              exact ih23 (fu23 - 1) (by omega) o_267 o_270 v_262 v_246 o_268 o_269 _ _ _ (by omega) ho_271 (((hf_fz_p0.st efs247 (by decide)).st efs263 (by decide)).tr hf_272 (by decide)) (hf_272.u (by decide) (q_sn efs263 (by decide) (q_sn efs247 (by decide) fr_fz_p0_1))) (hf_272.u (by decide) (q_sn efs263 (by decide) (q_sn efs247 (by decide) fh_fz_p0_3))) (hf_272.u (by decide) (q_sn efs263 (by decide) (q_sn efs247 (by decide) fh_fz_p0_4))) (hf_272.u (by decide) (q_sn efs263 (by decide) (q_sn efs247 (by decide) fh_fz_p0_6))) (hf_272.u (by decide) (q_sn efs263 (by decide) (q_sn efs247 (by decide) fh_fz_p0_7))) (hf_272.u (by decide) (q_sn efs263 (by decide) (q_sn efs247 (by decide) fh_fz_p0_8))) (hf_272.u (by decide) (q_sn efs263 (by decide) (q_sn efs247 (by decide) fr_fz_p0_38))) (hf_272.u (by decide) (q_sn efs263 (by decide) (q_sn efs247 (by decide) fr_fz_p0_39))) (hf_272.u (by decide) (q_sn efs263 (by decide) (q_sn efs247 (by decide) fr_fz_p0_40))) (hf_272.u (by decide) (q_sn efs263 (by decide) (q_sn efs247 (by decide) fr_fz_p0_41))) (hf_272.u (by decide) (q_sn efs263 (by decide) (q_sn efs247 (by decide) fh_fz_p0_44))) z_273 (by omega) (hf_272.u (by decide) (q_sn efs263 (by decide) (q_sn efs247 (by decide) fh_fz_p0_46))) (hf_272.u (by decide) (q_sa efs263 (OKX9_l ho247) (by decide))) (by omega) (hf_272.u (by decide) (q_sn efs263 (by decide) (q_sa efs247 (OKX9_l ho_fz_p0) (by decide)))) (by omega) hEn (hq23_1.up z_275 (by omega) (by omega)) (by omega) hP266 hS266 (lv_sub hl [0, 1] rfl)
    exact key23 119 f_p0 co wi pi b_p0_code b_p0_codeNumber _ _ _ (by omega) ho_p0 q_fr.rf fr_p0_1 pf_siz pf_fk pf_at0 pf_en pf_tk fr_p0_38 fr_p0_39 fr_p0_40 fr_p0_41 pf_rb pf_co (by omega) pf_un pf_wi (by omega) pf_pi (by omega) hEI q_offc.rf (by omega) hP2 hS2 (lv_sub hl [0, 1] rfl)
  · have tc_4 := q_eqN c_4
    refine lv_aload_n hx hb dX9_behindUnit_10 rfl (lv_at hl 1 rfl) ?_
    refine q_cVi (As := []) (rest := []) q_w0 trivial hK hP2 hDa za_r_behindUnit hS2 hA [0, 4] [3] (by decide +kernel) ⟨hx, hb, hml, hown, hts⟩ (r_isCompared l dC dI H2.size p0 f_p0 p0_eWhat c_p0_eWhat b_p0_eWhat pi ho_p0 fr_p0_40 pf_pi ((by omega)) hEI.h8) rfl rfl (cwV 0 hts (p1_gV m_27 m_28 m_29 m_3 g_r_isCompared gz_r_isCompared) rfl rfl rfl (by decide +kernel) ⟨by decide, by decide⟩) (va_recv hK hP2 (ci := 8) (q0 := 0) rfl rfl) zm_r_isCompared rfl hl.1 rfl (Nat.le_of_ble_eq_true rfl) dX9_behindUnit_11 ⟨by decide, by decide⟩ (fun r_276 H277 lo277 hG277 hS277 => ?_)
    obtain ⟨z_278, hQ277⟩ := hG277
    have hP277 : va_P (dC, dI) vwCl (zW_r_behindUnit p0 f_p0 p0_code c_p0_code b_p0_code p0_codeNumber c_p0_codeNumber b_p0_codeNumber p0_eSign c_p0_eSign b_p0_eSign p0_eWhat c_p0_eWhat b_p0_eWhat p0_text c_p0_text b_p0_text) H277 := hQ277
    clear hQ277 hP2 hS2
    rcases z_278 with ⟨rfl, z_278⟩ | ⟨rfl, z_278⟩
    · refine lv_if_eq (tgt := 23) hx hb dX9_behindUnit_14 (by decide) (fun c_279 => absurd c_279 (by decide)) (fun c_279 => ?_)
      refine lv_aload_n hx hb dX9_behindUnit_17 rfl (lv_at hl 1 rfl) ?_
      refine q_cVv (As := []) (rest := []) q_w0 trivial hK hP277 hDa za_r_behindUnit hS277 hA [0] [] (by decide +kernel) ⟨hx, hb, hml, hown, hts⟩ (r_misplaced l dC dI H277.size p0 f_p0 ho_p0) rfl rfl (cwV 0 hts (p1_gV m_30 m_31 m_32 m_3 g_r_misplaced gz_r_misplaced) rfl rfl rfl (by decide +kernel) ⟨by decide, by decide⟩) (va_recv hK hP277 (ci := 8) (q0 := 0) rfl rfl) zm_r_misplaced rfl hl.1 rfl (Nat.le_of_ble_eq_true rfl) dX9_behindUnit_18 ⟨by decide, by decide⟩ (fun H281 lo281 hG281 hS281 => ?_)
      obtain ⟨o_282, o_283, ho_284, hf_285, z_286, z_287, hQ281⟩ := hG281
      have to_283 := (OKX9_g4 ho_284).use z_286
      have hP281 : va_P (dC, dI) vwCl (zW_r_behindUnit p0 o_282 p0_code c_p0_code b_p0_code p0_codeNumber c_p0_codeNumber b_p0_codeNumber p0_eSign c_p0_eSign b_p0_eSign p0_eWhat c_p0_eWhat b_p0_eWhat p0_text c_p0_text b_p0_text) H281 := hQ281
      clear hQ281 hP277 hS277
      refine lv_iconst (v := 1) hx hb dX9_behindUnit_21 (by decide) ?_
      exact q_zret hx hb hr hlocks (by decide) hS281 dX9_behindUnit_22 ⟨o_282, b_p0_code, b_p0_codeNumber, b_p0_eSign, b_p0_eWhat, at0, en, tk, o_283, co, un, wi, pi, (Or.inl ⟨rfl, Or.inl (by omega)⟩), ho_284, (q_fr.rf.tr hf_285 (by decide)), (hf_285.u (by decide) pf_at0), (hf_285.u (by decide) pf_en), (hf_285.u (by decide) pf_tk), z_286, (hf_285.u (by decide) pf_co), (hf_285.u (by decide) pf_un), (hf_285.u (by decide) pf_wi), (hf_285.u (by decide) pf_pi), (by omega), (by omega), (by omega), q_offc.rf, (by omega), (by omega), hP281, za_r_behindUnit⟩
    · refine lv_if_eq (tgt := 23) hx hb dX9_behindUnit_14 (by decide) (fun c_288 => ?_) (fun c_288 => absurd c_288 (by decide))
      have key23 : ∀ (fu23 : Nat) (fz_p0 : List Value) (cov : Int32) (wiv : Int32) (piv : Int32) (bz_p0_code : Nat → Int32) (bz_p0_codeNumber : Nat → Int32) (H : Heap) (locs : List Loc) (ls : Array Slot) (hfu23 : piv.toInt ≤ (fu23 : Int)) (ho_fz_p0 : OKX9 fz_p0) (hf_fz_p0 : q_fr [4, 5, 6, 7, 8, 9, 10, 45, 47, 48] f_p0 fz_p0) (fr_fz_p0_1 : fz_p0[1]? = some (.ref p0_text)) (fh_fz_p0_3 : fz_p0[3]? = some (.int siz)) (fh_fz_p0_4 : fz_p0[4]? = some (.int fk)) (fh_fz_p0_6 : fz_p0[6]? = some (.int at0)) (fh_fz_p0_7 : fz_p0[7]? = some (.int en)) (fh_fz_p0_8 : fz_p0[8]? = some (.int tk)) (fr_fz_p0_38 : fz_p0[38]? = some (.ref p0_code)) (fr_fz_p0_39 : fz_p0[39]? = some (.ref p0_codeNumber)) (fr_fz_p0_40 : fz_p0[40]? = some (.ref p0_eWhat)) (fr_fz_p0_41 : fz_p0[41]? = some (.ref p0_eSign)) (fh_fz_p0_44 : fz_p0[44]? = some (.int rb)) (fv_fz_p0_45 : fz_p0[45]? = some (.int cov)) (tcov : (0) ≤ cov.toInt ∧ cov.toInt ≤ 1800) (fh_fz_p0_46 : fz_p0[46]? = some (.int un)) (fv_fz_p0_47 : fz_p0[47]? = some (.int wiv)) (twiv : (0) ≤ wiv.toInt ∧ wiv.toInt ≤ 7) (fv_fz_p0_48 : fz_p0[48]? = some (.int piv)) (tpiv : (0) ≤ piv.toInt ∧ piv.toInt ≤ 119) (hq23_0 : q_EI 1 piv.toInt.toNat rb.toInt cov.toInt un.toInt wiv.toInt bas b_p0_eWhat b_p0_eSign bz_p0_code) (hq23_1 : q_offc bas rb b_p0_code bz_p0_code) (hq23_2 : 1 ≤ piv.toInt ∧ piv.toInt ≤ pi.toInt), va_P (dC, dI) vwCl (zW_r_behindUnit p0 fz_p0 p0_code c_p0_code bz_p0_code p0_codeNumber c_p0_codeNumber bz_p0_codeNumber p0_eSign c_p0_eSign b_p0_eSign p0_eWhat c_p0_eWhat b_p0_eWhat p0_text c_p0_text b_p0_text) H → va_S A s.heap H locs → lv_has ls 2 [(1, .int r_1), (0, .ref p0)] → W p l e (headSpec zw_r_behindUnit { frames := 3, cells := 0, slots := 0, locals := 65 }).room s m ([.ref p0] : List Value).toArray below meth c H locs 0 0 (MQ below (q_Qi (dC, dI) (zG_r_behindUnit p0 f_p0 p0_code c_p0_code b_p0_code p0_codeNumber c_p0_codeNumber b_p0_codeNumber p0_eSign c_p0_eSign b_p0_eSign p0_eWhat c_p0_eWhat b_p0_eWhat p0_text c_p0_text b_p0_text at0 en tk siz fk co un wi pi rb bas) (zA_r_behindUnit p0 p0_code p0_codeNumber p0_eSign p0_eWhat p0_text) A) ([.ref p0] : List Value).toArray s 0 0 A) (F0 m 23 ls []) := by
        intro fu23
        induction fu23 using Nat.strongRecOn with
        | ind fu23 ih23 =>
          intro fz_p0 cov wiv piv bz_p0_code bz_p0_codeNumber H289 lo289 ls hfu23 ho_fz_p0 hf_fz_p0 fr_fz_p0_1 fh_fz_p0_3 fh_fz_p0_4 fh_fz_p0_6 fh_fz_p0_7 fh_fz_p0_8 fr_fz_p0_38 fr_fz_p0_39 fr_fz_p0_40 fr_fz_p0_41 fh_fz_p0_44 fv_fz_p0_45 tcov fh_fz_p0_46 fv_fz_p0_47 twiv fv_fz_p0_48 tpiv hq23_0 hq23_1 hq23_2 hP289 hS289 hl
          have hbd23 := hq23_0.bd
          have hdone := hq23_0.2.2.2.2.2.2.2.2.2.2.2.2.2.1
          refine lv_aload_n hx hb dX9_behindUnit_23 rfl (lv_at hl 1 rfl) (qg_X9_40 hx hb hts i_X9 hown hK hP289 0 rfl k_4 fr_fz_p0_40 dX9_behindUnit_24 (lv_aload_n hx hb dX9_behindUnit_27 rfl (lv_at hl 1 rfl) (qg_X9_48 hx hb hts i_X9 hown hK hP289 0 rfl k_5 fv_fz_p0_48 dX9_behindUnit_28 (lv_iconst (v := 1) hx hb dX9_behindUnit_31 (by decide) (lv_isub hx hb dX9_behindUnit_32 (lv_topi fun v_290 ev_290 => ?_))))))
          have tv_290 := q_sub ev_290 (by omega) (by omega)
          refine q_ild hx hb hK hP289 4 3 rfl rfl (q_in (by omega) (by omega)) dX9_behindUnit_33 (fun v_291 ev_291 => ?_)
          have kv_291 := q_ix (n := (piv.toInt - 1).toNat) ev_291 (by omega) (by omega)
          have uv_291 : v_291.toInt = (b_p0_eWhat (piv.toInt - 1).toNat).toInt := by rw [kv_291]
          have htopv_291 := (q_EI.cast hq23_0 (p' := (piv.toInt - 1).toNat + 1) (by omega) rfl rfl rfl).top kv_291
          refine lv_bipush (v := 6) hx hb dX9_behindUnit_34 (by decide) ?_
          refine lv_icmp_gt (tgt := 104) hx hb dX9_behindUnit_36 (by decide) (fun c_292 => ?_) (fun c_292 => ?_)
          · have tc_292 := q_gt c_292
            refine lv_iload_n hx hb dX9_behindUnit_104 rfl (lv_at hl 0 rfl) (lv_if_le (tgt := 147) hx hb dX9_behindUnit_105 (by decide) (fun c_293 => by exfalso; have t9 := q_le c_293; omega) (fun c_293 => ?_))
            have tc_293 := q_gtN c_293
            refine lv_aload_n hx hb dX9_behindUnit_108 rfl (lv_at hl 1 rfl) (lv_iload_n hx hb dX9_behindUnit_109 rfl (lv_at hl 0 rfl) (lv_iload_n hx hb dX9_behindUnit_110 rfl (lv_at hl 0 rfl) (lv_iconst (v := 2) hx hb dX9_behindUnit_111 (by decide) (lv_icmp_ne (tgt := 120) hx hb dX9_behindUnit_112 (by decide) (fun c_294 => ?_) (fun c_294 => by exfalso; have t9 := q_eqN c_294; omega)))))
            have tc_294 := q_ne c_294
            refine lv_iload_n hx hb dX9_behindUnit_120 rfl (lv_at hl 0 rfl) (lv_iconst (v := 1) hx hb dX9_behindUnit_121 (by decide) (lv_icmp_ne (tgt := 130) hx hb dX9_behindUnit_122 (by decide) (fun c_295 => ?_) (fun c_295 => by exfalso; have t9 := q_eqN c_295; omega)))
            have tc_295 := q_ne c_295
            refine lv_aload_n hx hb dX9_behindUnit_130 rfl (lv_at hl 1 rfl) (lv_aload_n hx hb dX9_behindUnit_131 rfl (lv_at hl 1 rfl) (qg_X9_6 hx hb hts i_X9 hown hK hP289 0 rfl k_13 fh_fz_p0_6 dX9_behindUnit_132 ?_))
            refine q_cVi (As := [.int at0]) (rest := [.int r_1, .ref p0]) q_w0 trivial hK hP289 hDa za_r_behindUnit hS289 hA [0, 5] [4] (by decide +kernel) ⟨hx, hb, hml, hown, hts⟩ (r_sign l dC dI H289.size p0 fz_p0 p0_text c_p0_text b_p0_text at0 siz ho_fz_p0 fr_fz_p0_1 fh_fz_p0_3 ((by omega))) rfl rfl (cwV 1 hts (p1_gV m_14 m_15 m_16 m_3 g_r_sign gz_r_sign) rfl rfl rfl (by decide +kernel) ⟨by decide, by decide⟩) (va_recv hK hP289 (ci := 8) (q0 := 0) rfl rfl) zm_r_sign rfl hl.1 rfl (Nat.le_of_ble_eq_true rfl) dX9_behindUnit_135 ⟨by decide, by decide⟩ (fun r_296 H297 lo297 hG297 hS297 => ?_)
            obtain ⟨z_298, hQ297⟩ := hG297
            have hP297 : va_P (dC, dI) vwCl (zW_r_behindUnit p0 fz_p0 p0_code c_p0_code bz_p0_code p0_codeNumber c_p0_codeNumber bz_p0_codeNumber p0_eSign c_p0_eSign b_p0_eSign p0_eWhat c_p0_eWhat b_p0_eWhat p0_text c_p0_text b_p0_text) H297 := hQ297
            clear hQ297 hP289 hS289
            refine q_cVv (As := [.int r_1, .int r_296]) (rest := []) q_w0 trivial hK hP297 hDa za_r_behindUnit hS297 hA [0, 3, 4] [2, 3] (by decide +kernel) ⟨hx, hb, hml, hown, hts⟩ (r_pushE l dC dI H297.size p0 fz_p0 p0_eSign c_p0_eSign b_p0_eSign p0_eWhat c_p0_eWhat b_p0_eWhat r_1 r_296 piv ho_fz_p0 fr_fz_p0_40 fr_fz_p0_41 fv_fz_p0_48 ((by omega))) rfl rfl (cwV 2 hts (p1_gV m_17 m_18 m_19 m_3 g_r_pushE gz_r_pushE) rfl rfl rfl (by decide +kernel) ⟨by decide, by decide⟩) (va_recv hK hP297 (ci := 8) (q0 := 0) rfl rfl) zm_r_pushE rfl hl.1 rfl (Nat.le_of_ble_eq_true rfl) dX9_behindUnit_138 ⟨by decide, by decide⟩ (fun H300 lo300 hG300 hS300 => ?_)
            obtain ⟨o_301, o_302, o_303, o_304, ho_305, hf_306, z_307, z_308, z_309, z_310, hQ300⟩ := hG300
            have hP300 : va_P (dC, dI) vwCl (zW_r_behindUnit p0 o_301 p0_code c_p0_code bz_p0_code p0_codeNumber c_p0_codeNumber bz_p0_codeNumber p0_eSign c_p0_eSign o_302 p0_eWhat c_p0_eWhat o_303 p0_text c_p0_text b_p0_text) H300 := hQ300
            clear hQ300 hP297 hS297
            refine lv_aload_n hx hb dX9_behindUnit_141 rfl (lv_at hl 1 rfl) ?_
            refine q_cVv (As := []) (rest := []) q_w0 trivial hK hP300 hDa za_r_behindUnit hS300 hA [0, 5] [4] (by decide +kernel) ⟨hx, hb, hml, hown, hts⟩ (r_goOn l dC dI H300.size p0 o_301 p0_text c_p0_text b_p0_text en siz ho_305 ((hf_306.u (by decide) fr_fz_p0_1)) ((hf_306.u (by decide) fh_fz_p0_7)) ((hf_306.u (by decide) fh_fz_p0_3)) ((by omega))) rfl rfl (cwV 0 hts (p1_gV m_20 m_21 m_22 m_3 g_r_goOn gz_r_goOn) rfl rfl rfl (by decide +kernel) ⟨by decide, by decide⟩) (va_recv hK hP300 (ci := 8) (q0 := 0) rfl rfl) zm_r_goOn rfl hl.1 rfl (Nat.le_of_ble_eq_true rfl) dX9_behindUnit_142 ⟨by decide, by decide⟩ (fun H312 lo312 hG312 hS312 => ?_)
            obtain ⟨o_313, o_314, o_315, o_316, ho_317, hf_318, z_319, z_320, z_321, z_322, hQ312⟩ := hG312
            have to_314 := (OKX9_g6 ho_317).use z_319
            have to_315 := (OKX9_g7 ho_317).use z_320
            have to_316 := (OKX9_g8 ho_317).use z_321
            have hP312 : va_P (dC, dI) vwCl (zW_r_behindUnit p0 o_313 p0_code c_p0_code bz_p0_code p0_codeNumber c_p0_codeNumber bz_p0_codeNumber p0_eSign c_p0_eSign o_302 p0_eWhat c_p0_eWhat o_303 p0_text c_p0_text b_p0_text) H312 := hQ312
            clear hQ312 hP300 hS300
            refine lv_iconst (v := 1) hx hb dX9_behindUnit_145 (by decide) ?_
            exact q_zret hx hb hr hlocks (by decide) hS312 dX9_behindUnit_146 ⟨o_313, bz_p0_code, bz_p0_codeNumber, o_302, o_303, o_314, o_315, o_316, fk, cov, un, wiv, o_304, (Or.inl ⟨rfl, Or.inr ⟨by omega, q_EI.cast (hq23_0.wait z_309 z_310 (z_3.2.2.op (by omega)) (z_3.2.2.ops (by omega) (by omega) (by omega) (by omega))) (by omega) (by omega) (by omega) (by omega)⟩⟩), ho_317, ((hf_fz_p0.tr hf_306 (by decide)).tr hf_318 (by decide)), z_319, z_320, z_321, (hf_318.u (by decide) (hf_306.u (by decide) fh_fz_p0_4)), (hf_318.u (by decide) (hf_306.u (by decide) fv_fz_p0_45)), (hf_318.u (by decide) (hf_306.u (by decide) fh_fz_p0_46)), (hf_318.u (by decide) (hf_306.u (by decide) fv_fz_p0_47)), (hf_318.u (by decide) z_307), (by omega), (by omega), (by omega), hq23_1, (by omega), (by omega), hP312, za_r_behindUnit⟩
          · have tc_292 := q_leN c_292
            refine lv_aload_n hx hb dX9_behindUnit_39 rfl (lv_at hl 1 rfl) (qg_X9_40 hx hb hts i_X9 hown hK hP289 0 rfl k_4 fr_fz_p0_40 dX9_behindUnit_40 (lv_aload_n hx hb dX9_behindUnit_43 rfl (lv_at hl 1 rfl) (qg_X9_48 hx hb hts i_X9 hown hK hP289 0 rfl k_5 fv_fz_p0_48 dX9_behindUnit_44 (lv_iconst (v := 1) hx hb dX9_behindUnit_47 (by decide) (lv_isub hx hb dX9_behindUnit_48 (lv_topi fun v_323 ev_323 => ?_))))))
            have tv_323 := q_sub ev_323 (by omega) (by omega)
            refine q_ild hx hb hK hP289 4 3 rfl rfl (q_in (by omega) (by omega)) dX9_behindUnit_49 (fun v_324 ev_324 => ?_)
            have kv_324 := q_ix (n := (piv.toInt - 1).toNat) ev_324 (by omega) (by omega)
            have uv_324 : v_324.toInt = (b_p0_eWhat (piv.toInt - 1).toNat).toInt := by rw [kv_324]
            have htopv_324 := (q_EI.cast hq23_0 (p' := (piv.toInt - 1).toNat + 1) (by omega) rfl rfl rfl).top kv_324
            refine lv_iload_n hx hb dX9_behindUnit_50 rfl (lv_at hl 0 rfl) ?_
            refine lv_icmp_lt (tgt := 104) hx hb dX9_behindUnit_51 (by decide) (fun c_325 => ?_) (fun c_325 => ?_)
            · have tc_325 := q_lt c_325
              refine lv_iload_n hx hb dX9_behindUnit_104 rfl (lv_at hl 0 rfl) (lv_if_le (tgt := 147) hx hb dX9_behindUnit_105 (by decide) (fun c_326 => by exfalso; have t9 := q_le c_326; omega) (fun c_326 => ?_))
              have tc_326 := q_gtN c_326
              refine lv_aload_n hx hb dX9_behindUnit_108 rfl (lv_at hl 1 rfl) (lv_iload_n hx hb dX9_behindUnit_109 rfl (lv_at hl 0 rfl) (lv_iload_n hx hb dX9_behindUnit_110 rfl (lv_at hl 0 rfl) (lv_iconst (v := 2) hx hb dX9_behindUnit_111 (by decide) (lv_icmp_ne (tgt := 120) hx hb dX9_behindUnit_112 (by decide) (fun c_327 => ?_) (fun c_327 => by exfalso; have t9 := q_eqN c_327; omega)))))
              have tc_327 := q_ne c_327
              refine lv_iload_n hx hb dX9_behindUnit_120 rfl (lv_at hl 0 rfl) (lv_iconst (v := 1) hx hb dX9_behindUnit_121 (by decide) (lv_icmp_ne (tgt := 130) hx hb dX9_behindUnit_122 (by decide) (fun c_328 => ?_) (fun c_328 => by exfalso; have t9 := q_eqN c_328; omega)))
              have tc_328 := q_ne c_328
              refine lv_aload_n hx hb dX9_behindUnit_130 rfl (lv_at hl 1 rfl) (lv_aload_n hx hb dX9_behindUnit_131 rfl (lv_at hl 1 rfl) (qg_X9_6 hx hb hts i_X9 hown hK hP289 0 rfl k_13 fh_fz_p0_6 dX9_behindUnit_132 ?_))
              refine q_cVi (As := [.int at0]) (rest := [.int r_1, .ref p0]) q_w0 trivial hK hP289 hDa za_r_behindUnit hS289 hA [0, 5] [4] (by decide +kernel) ⟨hx, hb, hml, hown, hts⟩ (r_sign l dC dI H289.size p0 fz_p0 p0_text c_p0_text b_p0_text at0 siz ho_fz_p0 fr_fz_p0_1 fh_fz_p0_3 ((by omega))) rfl rfl (cwV 1 hts (p1_gV m_14 m_15 m_16 m_3 g_r_sign gz_r_sign) rfl rfl rfl (by decide +kernel) ⟨by decide, by decide⟩) (va_recv hK hP289 (ci := 8) (q0 := 0) rfl rfl) zm_r_sign rfl hl.1 rfl (Nat.le_of_ble_eq_true rfl) dX9_behindUnit_135 ⟨by decide, by decide⟩ (fun r_329 H330 lo330 hG330 hS330 => ?_)
              obtain ⟨z_331, hQ330⟩ := hG330
              have hP330 : va_P (dC, dI) vwCl (zW_r_behindUnit p0 fz_p0 p0_code c_p0_code bz_p0_code p0_codeNumber c_p0_codeNumber bz_p0_codeNumber p0_eSign c_p0_eSign b_p0_eSign p0_eWhat c_p0_eWhat b_p0_eWhat p0_text c_p0_text b_p0_text) H330 := hQ330
              clear hQ330 hP289 hS289
              refine q_cVv (As := [.int r_1, .int r_329]) (rest := []) q_w0 trivial hK hP330 hDa za_r_behindUnit hS330 hA [0, 3, 4] [2, 3] (by decide +kernel) ⟨hx, hb, hml, hown, hts⟩ (r_pushE l dC dI H330.size p0 fz_p0 p0_eSign c_p0_eSign b_p0_eSign p0_eWhat c_p0_eWhat b_p0_eWhat r_1 r_329 piv ho_fz_p0 fr_fz_p0_40 fr_fz_p0_41 fv_fz_p0_48 ((by omega))) rfl rfl (cwV 2 hts (p1_gV m_17 m_18 m_19 m_3 g_r_pushE gz_r_pushE) rfl rfl rfl (by decide +kernel) ⟨by decide, by decide⟩) (va_recv hK hP330 (ci := 8) (q0 := 0) rfl rfl) zm_r_pushE rfl hl.1 rfl (Nat.le_of_ble_eq_true rfl) dX9_behindUnit_138 ⟨by decide, by decide⟩ (fun H333 lo333 hG333 hS333 => ?_)
              obtain ⟨o_334, o_335, o_336, o_337, ho_338, hf_339, z_340, z_341, z_342, z_343, hQ333⟩ := hG333
              have hP333 : va_P (dC, dI) vwCl (zW_r_behindUnit p0 o_334 p0_code c_p0_code bz_p0_code p0_codeNumber c_p0_codeNumber bz_p0_codeNumber p0_eSign c_p0_eSign o_335 p0_eWhat c_p0_eWhat o_336 p0_text c_p0_text b_p0_text) H333 := hQ333
              clear hQ333 hP330 hS330
              refine lv_aload_n hx hb dX9_behindUnit_141 rfl (lv_at hl 1 rfl) ?_
              refine q_cVv (As := []) (rest := []) q_w0 trivial hK hP333 hDa za_r_behindUnit hS333 hA [0, 5] [4] (by decide +kernel) ⟨hx, hb, hml, hown, hts⟩ (r_goOn l dC dI H333.size p0 o_334 p0_text c_p0_text b_p0_text en siz ho_338 ((hf_339.u (by decide) fr_fz_p0_1)) ((hf_339.u (by decide) fh_fz_p0_7)) ((hf_339.u (by decide) fh_fz_p0_3)) ((by omega))) rfl rfl (cwV 0 hts (p1_gV m_20 m_21 m_22 m_3 g_r_goOn gz_r_goOn) rfl rfl rfl (by decide +kernel) ⟨by decide, by decide⟩) (va_recv hK hP333 (ci := 8) (q0 := 0) rfl rfl) zm_r_goOn rfl hl.1 rfl (Nat.le_of_ble_eq_true rfl) dX9_behindUnit_142 ⟨by decide, by decide⟩ (fun H345 lo345 hG345 hS345 => ?_)
              obtain ⟨o_346, o_347, o_348, o_349, ho_350, hf_351, z_352, z_353, z_354, z_355, hQ345⟩ := hG345
              have to_347 := (OKX9_g6 ho_350).use z_352
              have to_348 := (OKX9_g7 ho_350).use z_353
              have to_349 := (OKX9_g8 ho_350).use z_354
              have hP345 : va_P (dC, dI) vwCl (zW_r_behindUnit p0 o_346 p0_code c_p0_code bz_p0_code p0_codeNumber c_p0_codeNumber bz_p0_codeNumber p0_eSign c_p0_eSign o_335 p0_eWhat c_p0_eWhat o_336 p0_text c_p0_text b_p0_text) H345 := hQ345
              clear hQ345 hP333 hS333
              refine lv_iconst (v := 1) hx hb dX9_behindUnit_145 (by decide) ?_
              exact q_zret hx hb hr hlocks (by decide) hS345 dX9_behindUnit_146 ⟨o_346, bz_p0_code, bz_p0_codeNumber, o_335, o_336, o_347, o_348, o_349, fk, cov, un, wiv, o_337, (Or.inl ⟨rfl, Or.inr ⟨by omega, q_EI.cast (hq23_0.wait z_342 z_343 (z_3.2.2.op (by omega)) (z_3.2.2.ops (by omega) (by omega) (by omega) (by omega))) (by omega) (by omega) (by omega) (by omega)⟩⟩), ho_350, ((hf_fz_p0.tr hf_339 (by decide)).tr hf_351 (by decide)), z_352, z_353, z_354, (hf_351.u (by decide) (hf_339.u (by decide) fh_fz_p0_4)), (hf_351.u (by decide) (hf_339.u (by decide) fv_fz_p0_45)), (hf_351.u (by decide) (hf_339.u (by decide) fh_fz_p0_46)), (hf_351.u (by decide) (hf_339.u (by decide) fv_fz_p0_47)), (hf_351.u (by decide) z_340), (by omega), (by omega), (by omega), hq23_1, (by omega), (by omega), hP345, za_r_behindUnit⟩
            · have tc_325 := q_geN c_325
              refine lv_aload_n hx hb dX9_behindUnit_54 rfl (lv_at hl 1 rfl) (lv_dup hx hb dX9_behindUnit_55 rfl (qg_X9_48 hx hb hts i_X9 hown hK hP289 0 rfl k_5 fv_fz_p0_48 dX9_behindUnit_56 (lv_iconst (v := 1) hx hb dX9_behindUnit_59 (by decide) (lv_isub hx hb dX9_behindUnit_60 (lv_topi fun v_356 ev_356 => ?_)))))
              have tv_356 := q_sub ev_356 (by omega) (by omega)
              refine qp_X9_48 hx hb hts i_X9 hown hK hP289 hDa za_r_behindUnit hS289 0 rfl k_5 (OKX9_l ho_fz_p0) dX9_behindUnit_61 (fun H357 lo357 fs357 efs357 (hP357 : va_P (dC, dI) vwCl (zW_r_behindUnit p0 fs357 p0_code c_p0_code bz_p0_code p0_codeNumber c_p0_codeNumber bz_p0_codeNumber p0_eSign c_p0_eSign b_p0_eSign p0_eWhat c_p0_eWhat b_p0_eWhat p0_text c_p0_text b_p0_text) H357) hS357 => ?_)
              have ho357 := OKX9_p48 ho_fz_p0 efs357
              clear hP289 hS289
              refine lv_aload_n hx hb dX9_behindUnit_64 rfl (lv_at hl 1 rfl) (qg_X9_40 hx hb hts i_X9 hown hK hP357 0 rfl k_4 (q_sn efs357 (by decide) fr_fz_p0_40) dX9_behindUnit_65 (lv_aload_n hx hb dX9_behindUnit_68 rfl (lv_at hl 1 rfl) (qg_X9_48 hx hb hts i_X9 hown hK hP357 0 rfl k_5 (q_sa efs357 (OKX9_l ho_fz_p0) (by decide)) dX9_behindUnit_69 (q_ild hx hb hK hP357 4 3 rfl rfl (q_in (by omega) (by omega)) dX9_behindUnit_72 (fun v_358 ev_358 => ?_)))))
              have kv_358 := q_ix (n := (piv.toInt - 1).toNat) ev_358 (by omega) (by omega)
              have uv_358 : v_358.toInt = (b_p0_eWhat (piv.toInt - 1).toNat).toInt := by rw [kv_358]
              have htopv_358 := (q_EI.cast hq23_0 (p' := (piv.toInt - 1).toNat + 1) (by omega) rfl rfl rfl).top kv_358
              refine lv_iconst (v := 3) hx hb dX9_behindUnit_73 (by decide) ?_
              refine lv_icmp_ne (tgt := 87) hx hb dX9_behindUnit_74 (by decide) (fun c_359 => ?_) (fun c_359 => ?_)
              · have tc_359 := q_ne c_359
                refine lv_aload_n hx hb dX9_behindUnit_87 rfl (lv_at hl 1 rfl) (lv_aload_n hx hb dX9_behindUnit_88 rfl (lv_at hl 1 rfl) (qg_X9_41 hx hb hts i_X9 hown hK hP357 0 rfl k_23 (q_sn efs357 (by decide) fr_fz_p0_41) dX9_behindUnit_89 (lv_aload_n hx hb dX9_behindUnit_92 rfl (lv_at hl 1 rfl) (qg_X9_48 hx hb hts i_X9 hown hK hP357 0 rfl k_5 (q_sa efs357 (OKX9_l ho_fz_p0) (by decide)) dX9_behindUnit_93 (q_ild hx hb hK hP357 3 2 rfl rfl (q_in (by omega) (by omega)) dX9_behindUnit_96 (fun v_360 ev_360 => ?_))))))
                have kv_360 := q_ix (n := (piv.toInt - 1).toNat) ev_360 (by omega) (by omega)
                have uv_360 : v_360.toInt = (b_p0_eSign (piv.toInt - 1).toNat).toInt := by rw [kv_360]
                refine lv_iconst (v := 0) hx hb dX9_behindUnit_97 (by decide) ?_
                refine q_cVv (As := [.int v_360, .int 0]) (rest := []) q_w0 trivial hK hP357 hDa za_r_behindUnit hS357 hA [0, 1, 2] [0, 1] (by decide +kernel) ⟨hx, hb, hml, hown, hts⟩ (r_emit l dC dI H357.size p0 fs357 p0_code c_p0_code bz_p0_code p0_codeNumber c_p0_codeNumber bz_p0_codeNumber v_360 0 cov ho357 ((q_sn efs357 (by decide) fr_fz_p0_38)) ((q_sn efs357 (by decide) fr_fz_p0_39)) ((q_sn efs357 (by decide) fv_fz_p0_45)) ((by omega))) rfl rfl (cwV 2 hts (p1_gV m_24 m_25 m_26 m_3 g_r_emit gz_r_emit) rfl rfl rfl (by decide +kernel) ⟨by decide, by decide⟩) (va_recv hK hP357 (ci := 8) (q0 := 0) rfl rfl) zm_r_emit rfl hl.1 rfl (Nat.le_of_ble_eq_true rfl) dX9_behindUnit_98 ⟨by decide, by decide⟩ (fun H362 lo362 hG362 hS362 => ?_)
                obtain ⟨o_363, o_364, o_365, o_366, ho_367, hf_368, z_369, z_370, z_371, hQ362⟩ := hG362
                have hP362 : va_P (dC, dI) vwCl (zW_r_behindUnit p0 o_363 p0_code c_p0_code o_364 p0_codeNumber c_p0_codeNumber o_365 p0_eSign c_p0_eSign b_p0_eSign p0_eWhat c_p0_eWhat b_p0_eWhat p0_text c_p0_text b_p0_text) H362 := hQ362
                clear hQ362 hP357 hS357
                refine lv_goto (tgt := 23) hx hb dX9_behindUnit_101 (by decide) ?_
                have hEn := q_EI.cast (q_EI.pop (p := (piv.toInt - 1).toNat) (wi' := wiv.toInt) (q_EI.cast hq23_0 (by omega) rfl rfl rfl) kv_358 kv_360 (by omega) z_371 (by rw [if_neg (by omega)])) (p' := v_356.toInt.toNat) (co' := o_366.toInt) (by omega) (by omega) rfl rfl
                have hbn := hEn.bd
                exact ih23 (fu23 - 1) (by omega) o_363 o_366 wiv v_356 o_364 o_365 _ _ _ (by omega) ho_367 ((hf_fz_p0.st efs357 (by decide)).tr hf_368 (by decide)) (hf_368.u (by decide) (q_sn efs357 (by decide) fr_fz_p0_1)) (hf_368.u (by decide) (q_sn efs357 (by decide) fh_fz_p0_3)) (hf_368.u (by decide) (q_sn efs357 (by decide) fh_fz_p0_4)) (hf_368.u (by decide) (q_sn efs357 (by decide) fh_fz_p0_6)) (hf_368.u (by decide) (q_sn efs357 (by decide) fh_fz_p0_7)) (hf_368.u (by decide) (q_sn efs357 (by decide) fh_fz_p0_8)) (hf_368.u (by decide) (q_sn efs357 (by decide) fr_fz_p0_38)) (hf_368.u (by decide) (q_sn efs357 (by decide) fr_fz_p0_39)) (hf_368.u (by decide) (q_sn efs357 (by decide) fr_fz_p0_40)) (hf_368.u (by decide) (q_sn efs357 (by decide) fr_fz_p0_41)) (hf_368.u (by decide) (q_sn efs357 (by decide) fh_fz_p0_44)) z_369 (by omega) (hf_368.u (by decide) (q_sn efs357 (by decide) fh_fz_p0_46)) (hf_368.u (by decide) (q_sn efs357 (by decide) fv_fz_p0_47)) (by omega) (hf_368.u (by decide) (q_sa efs357 (OKX9_l ho_fz_p0) (by decide))) (by omega) hEn (hq23_1.up z_371 (by omega) (by omega)) (by omega) hP362 hS362 (lv_sub hl [0, 1] rfl)
              · have tc_359 := q_eqN c_359
                refine lv_aload_n hx hb dX9_behindUnit_77 rfl (lv_at hl 1 rfl) (lv_dup hx hb dX9_behindUnit_78 rfl (qg_X9_47 hx hb hts i_X9 hown hK hP357 0 rfl k_6 (q_sn efs357 (by decide) fv_fz_p0_47) dX9_behindUnit_79 (lv_iconst (v := 1) hx hb dX9_behindUnit_82 (by decide) (lv_isub hx hb dX9_behindUnit_83 (lv_topi fun v_372 ev_372 => ?_)))))
                have tv_372 := q_sub ev_372 (by omega) (by omega)
                refine qp_X9_47 hx hb hts i_X9 hown hK hP357 hDa za_r_behindUnit hS357 0 rfl k_6 (OKX9_l ho357) dX9_behindUnit_84 (fun H373 lo373 fs373 efs373 (hP373 : va_P (dC, dI) vwCl (zW_r_behindUnit p0 fs373 p0_code c_p0_code bz_p0_code p0_codeNumber c_p0_codeNumber bz_p0_codeNumber p0_eSign c_p0_eSign b_p0_eSign p0_eWhat c_p0_eWhat b_p0_eWhat p0_text c_p0_text b_p0_text) H373) hS373 => ?_)
                have ho373 := OKX9_p47 ho357 efs373
                clear hP357 hS357
                refine lv_aload_n hx hb dX9_behindUnit_87 rfl (lv_at hl 1 rfl) (lv_aload_n hx hb dX9_behindUnit_88 rfl (lv_at hl 1 rfl) (qg_X9_41 hx hb hts i_X9 hown hK hP373 0 rfl k_23 (q_sn efs373 (by decide) (q_sn efs357 (by decide) fr_fz_p0_41)) dX9_behindUnit_89 (lv_aload_n hx hb dX9_behindUnit_92 rfl (lv_at hl 1 rfl) (qg_X9_48 hx hb hts i_X9 hown hK hP373 0 rfl k_5 (q_sn efs373 (by decide) (q_sa efs357 (OKX9_l ho_fz_p0) (by decide))) dX9_behindUnit_93 (q_ild hx hb hK hP373 3 2 rfl rfl (q_in (by omega) (by omega)) dX9_behindUnit_96 (fun v_374 ev_374 => ?_))))))
                have kv_374 := q_ix (n := (piv.toInt - 1).toNat) ev_374 (by omega) (by omega)
                have uv_374 : v_374.toInt = (b_p0_eSign (piv.toInt - 1).toNat).toInt := by rw [kv_374]
                refine lv_iconst (v := 0) hx hb dX9_behindUnit_97 (by decide) ?_
                refine q_cVv (As := [.int v_374, .int 0]) (rest := []) q_w0 trivial hK hP373 hDa za_r_behindUnit hS373 hA [0, 1, 2] [0, 1] (by decide +kernel) ⟨hx, hb, hml, hown, hts⟩ (r_emit l dC dI H373.size p0 fs373 p0_code c_p0_code bz_p0_code p0_codeNumber c_p0_codeNumber bz_p0_codeNumber v_374 0 cov ho373 ((q_sn efs373 (by decide) (q_sn efs357 (by decide) fr_fz_p0_38))) ((q_sn efs373 (by decide) (q_sn efs357 (by decide) fr_fz_p0_39))) ((q_sn efs373 (by decide) (q_sn efs357 (by decide) fv_fz_p0_45))) ((by omega))) rfl rfl (cwV 2 hts (p1_gV m_24 m_25 m_26 m_3 g_r_emit gz_r_emit) rfl rfl rfl (by decide +kernel) ⟨by decide, by decide⟩) (va_recv hK hP373 (ci := 8) (q0 := 0) rfl rfl) zm_r_emit rfl hl.1 rfl (Nat.le_of_ble_eq_true rfl) dX9_behindUnit_98 ⟨by decide, by decide⟩ (fun H376 lo376 hG376 hS376 => ?_)
                obtain ⟨o_377, o_378, o_379, o_380, ho_381, hf_382, z_383, z_384, z_385, hQ376⟩ := hG376
                have hP376 : va_P (dC, dI) vwCl (zW_r_behindUnit p0 o_377 p0_code c_p0_code o_378 p0_codeNumber c_p0_codeNumber o_379 p0_eSign c_p0_eSign b_p0_eSign p0_eWhat c_p0_eWhat b_p0_eWhat p0_text c_p0_text b_p0_text) H376 := hQ376
                clear hQ376 hP373 hS373
                refine lv_goto (tgt := 23) hx hb dX9_behindUnit_101 (by decide) ?_
                have hEn := q_EI.cast (q_EI.pop (p := (piv.toInt - 1).toNat) (wi' := v_372.toInt) (q_EI.cast hq23_0 (by omega) rfl rfl rfl) kv_358 kv_374 (by omega) z_385 (by rw [if_pos (by omega)]; omega)) (p' := v_356.toInt.toNat) (co' := o_380.toInt) (by omega) (by omega) rfl rfl
                have hbn := hEn.bd
                exact ih23 (fu23 - 1) (by omega) o_377 o_380 v_372 v_356 o_378 o_379 _ _ _ (by omega) ho_381 (((hf_fz_p0.st efs357 (by decide)).st efs373 (by decide)).tr hf_382 (by decide)) (hf_382.u (by decide) (q_sn efs373 (by decide) (q_sn efs357 (by decide) fr_fz_p0_1))) (hf_382.u (by decide) (q_sn efs373 (by decide) (q_sn efs357 (by decide) fh_fz_p0_3))) (hf_382.u (by decide) (q_sn efs373 (by decide) (q_sn efs357 (by decide) fh_fz_p0_4))) (hf_382.u (by decide) (q_sn efs373 (by decide) (q_sn efs357 (by decide) fh_fz_p0_6))) (hf_382.u (by decide) (q_sn efs373 (by decide) (q_sn efs357 (by decide) fh_fz_p0_7))) (hf_382.u (by decide) (q_sn efs373 (by decide) (q_sn efs357 (by decide) fh_fz_p0_8))) (hf_382.u (by decide) (q_sn efs373 (by decide) (q_sn efs357 (by decide) fr_fz_p0_38))) (hf_382.u (by decide) (q_sn efs373 (by decide) (q_sn efs357 (by decide) fr_fz_p0_39))) (hf_382.u (by decide) (q_sn efs373 (by decide) (q_sn efs357 (by decide) fr_fz_p0_40))) (hf_382.u (by decide) (q_sn efs373 (by decide) (q_sn efs357 (by decide) fr_fz_p0_41))) (hf_382.u (by decide) (q_sn efs373 (by decide) (q_sn efs357 (by decide) fh_fz_p0_44))) z_383 (by omega) (hf_382.u (by decide) (q_sn efs373 (by decide) (q_sn efs357 (by decide) fh_fz_p0_46))) (hf_382.u (by decide) (q_sa efs373 (OKX9_l ho357) (by decide))) (by omega) (hf_382.u (by decide) (q_sn efs373 (by decide) (q_sa efs357 (OKX9_l ho_fz_p0) (by decide)))) (by omega) hEn (hq23_1.up z_385 (by omega) (by omega)) (by omega) hP376 hS376 (lv_sub hl [0, 1] rfl)
      exact key23 119 f_p0 co wi pi b_p0_code b_p0_codeNumber _ _ _ (by omega) ho_p0 q_fr.rf fr_p0_1 pf_siz pf_fk pf_at0 pf_en pf_tk fr_p0_38 fr_p0_39 fr_p0_40 fr_p0_41 pf_rb pf_co (by omega) pf_un pf_wi (by omega) pf_pi (by omega) hEI q_offc.rf (by omega) hP277 hS277 (lv_sub hl [0, 1] rfl)
