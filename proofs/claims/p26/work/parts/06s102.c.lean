def zo_r_behindUnit : List Cond := [.code yX9_behindUnit cX9_behindUnit 2 (some .boolean), .methodLink RX9 361 yX9_rankHere, .instanceMethod yX9_rankHere, .selects RX9 yX9_rankHere yX9_rankHere, .initialized RX9, .fieldLink RX9 339 "BowWalkModel" "piled" "I", .fieldLink RX9 110 "BowWalkModel" "eWhat" "[I", .fieldLink RX9 342 "BowWalkModel" "within" "I", .methodLink RX9 322 yX9_is, .instanceMethod yX9_is, .selects RX9 yX9_is yX9_is, .methodLink RX9 271 yX9_must, .instanceMethod yX9_must, .selects RX9 yX9_must yX9_must, .fieldLink RX9 223 "BowWalkModel" "at" "I", .methodLink RX9 226 yX9_sign, .instanceMethod yX9_sign, .selects RX9 yX9_sign yX9_sign, .methodLink RX9 345 yX9_pushE, .instanceMethod yX9_pushE, .selects RX9 yX9_pushE yX9_pushE, .methodLink RX9 262 yX9_goOn, .instanceMethod yX9_goOn, .selects RX9 yX9_goOn yX9_goOn, .fieldLink RX9 113 "BowWalkModel" "eSign" "[I", .methodLink RX9 358 yX9_emit, .instanceMethod yX9_emit, .selects RX9 yX9_emit yX9_emit, .methodLink RX9 364 yX9_isCompared, .instanceMethod yX9_isCompared, .selects RX9 yX9_isCompared yX9_isCompared, .methodLink RX9 265 yX9_misplaced, .instanceMethod yX9_misplaced, .selects RX9 yX9_misplaced yX9_misplaced]
def zw_r_behindUnit : List Cond := zo_r_behindUnit ++ (zw_r_rankHere ++ (zw_r_is ++ (zw_r_must ++ (zw_r_sign ++ (zw_r_pushE ++ (zw_r_goOn ++ (zw_r_emit ++ (zw_r_isCompared ++ (zw_r_misplaced ++ (wsX90 ++ []))))))))))
theorem gz_r_behindUnit : zw_r_behindUnit.all goodWord = true := p1_ga (by decide +kernel) (p1_ga gz_r_rankHere (p1_ga gz_r_is (p1_ga gz_r_must (p1_ga gz_r_sign (p1_ga gz_r_pushE (p1_ga gz_r_goOn (p1_ga gz_r_emit (p1_ga gz_r_isCompared (p1_ga gz_r_misplaced (p1_ga gk_X9 p1_g0))))))))))
theorem iz_r_behindUnit : ∀ w ∈ zw_r_behindUnit, w ∈ lw_tbl := p1_ia (p1_all [1414, 1415, 1417, 68, 116, 1085, 1077, 1084, 1399, 1401, 64, 1371, 1373, 57, 1043, 1289, 1291, 45, 1391, 1393, 62, 1285, 1287, 44, 1078, 1407, 1409, 66, 1419, 1421, 69, 1343, 1345, 50] (by decide +kernel)) (p1_ia iz_r_rankHere (p1_ia iz_r_is (p1_ia iz_r_must (p1_ia iz_r_sign (p1_ia iz_r_pushE (p1_ia iz_r_goOn (p1_ia iz_r_emit (p1_ia iz_r_isCompared (p1_ia iz_r_misplaced (p1_ia ik_X9 p1_i0))))))))))
def zW_r_behindUnit (p0 : Nat) (f_p0 : List Value) (p0_code : Nat) (c_p0_code : ClassId) (b_p0_code : Nat → Int32) (p0_codeNumber : Nat) (c_p0_codeNumber : ClassId) (b_p0_codeNumber : Nat → Int32) (p0_eSign : Nat) (c_p0_eSign : ClassId) (b_p0_eSign : Nat → Int32) (p0_eWhat : Nat) (c_p0_eWhat : ClassId) (b_p0_eWhat : Nat → Int32) (p0_text : Nat) (c_p0_text : ClassId) (b_p0_text : Nat → Int32) : va_W := [(p0, .inr (8, f_p0)), (p0_code, .inl (c_p0_code, 1800, .inl b_p0_code)), (p0_codeNumber, .inl (c_p0_codeNumber, 1800, .inl b_p0_codeNumber)), (p0_eSign, .inl (c_p0_eSign, 120, .inl b_p0_eSign)), (p0_eWhat, .inl (c_p0_eWhat, 120, .inl b_p0_eWhat)), (p0_text, .inl (c_p0_text, 1600, .inl b_p0_text))]
def zT_r_behindUnit (c_p0_code : ClassId) (c_p0_codeNumber : ClassId) (c_p0_eSign : ClassId) (c_p0_eWhat : ClassId) (c_p0_text : ClassId) : List (ClassId × FieldType) := [(c_p0_code, .int), (c_p0_codeNumber, .int), (c_p0_eSign, .int), (c_p0_eWhat, .int), (c_p0_text, .byte)]
def zA_r_behindUnit (p0 : Nat) (p0_code : Nat) (p0_codeNumber : Nat) (p0_eSign : Nat) (p0_eWhat : Nat) (p0_text : Nat) : List Nat := [p0, p0_code, p0_codeNumber, p0_eSign, p0_eWhat, p0_text]
theorem za_r_behindUnit {p0 : Nat} {f_p0 : List Value} {p0_code : Nat} {c_p0_code : ClassId} {b_p0_code : Nat → Int32} {p0_codeNumber : Nat} {c_p0_codeNumber : ClassId} {b_p0_codeNumber : Nat → Int32} {p0_eSign : Nat} {c_p0_eSign : ClassId} {b_p0_eSign : Nat → Int32} {p0_eWhat : Nat} {c_p0_eWhat : ClassId} {b_p0_eWhat : Nat → Int32} {p0_text : Nat} {c_p0_text : ClassId} {b_p0_text : Nat → Int32} : (zW_r_behindUnit p0 f_p0 p0_code c_p0_code b_p0_code p0_codeNumber c_p0_codeNumber b_p0_codeNumber p0_eSign c_p0_eSign b_p0_eSign p0_eWhat c_p0_eWhat b_p0_eWhat p0_text c_p0_text b_p0_text).map Prod.fst = (zA_r_behindUnit p0 p0_code p0_codeNumber p0_eSign p0_eWhat p0_text) := rfl
def zG_r_behindUnit (p0 : Nat) (f_p0 : List Value) (p0_code : Nat) (c_p0_code : ClassId) (b_p0_code : Nat → Int32) (p0_codeNumber : Nat) (c_p0_codeNumber : ClassId) (b_p0_codeNumber : Nat → Int32) (p0_eSign : Nat) (c_p0_eSign : ClassId) (b_p0_eSign : Nat → Int32) (p0_eWhat : Nat) (c_p0_eWhat : ClassId) (b_p0_eWhat : Nat → Int32) (p0_text : Nat) (c_p0_text : ClassId) (b_p0_text : Nat → Int32) (at0 : Int32) (en : Int32) (tk : Int32) (siz : Int32) (fk : Int32) (co : Int32) (un : Int32) (wi : Int32) (pi : Int32) (rb : Int32) (bas : Int) (r : Int32) (X : va_W → Prop) : Prop := ∃ (y_p0 : List Value) (y_p0_code : Nat → Int32) (y_p0_codeNumber : Nat → Int32) (y_p0_eSign : Nat → Int32) (y_p0_eWhat : Nat → Int32) (at1 : Int32) (en1 : Int32) (tk1 : Int32) (fk1 : Int32) (co1 : Int32) (un1 : Int32) (wi1 : Int32) (pi1 : Int32), ((r = 1 ∧ (1 ≤ fk1.toInt ∨ (1 ≤ pi1.toInt ∧ q_EI 0 pi1.toInt.toNat rb.toInt co1.toInt un1.toInt wi1.toInt bas y_p0_eWhat y_p0_eSign y_p0_code))) ∨ (r = 0 ∧ (pi1.toInt < pi.toInt ∧ ((1 ≤ pi1.toInt ∧ q_EI 1 pi1.toInt.toNat rb.toInt co1.toInt un1.toInt wi1.toInt bas y_p0_eWhat y_p0_eSign y_p0_code) ∨ (pi1.toInt = 0 ∧ q_run y_p0_code bas.toNat (co1.toInt - bas).toNat ≠ none ∧ co1.toInt - 900 * rb.toInt ≤ 9 * un1.toInt ∧ bas ≤ co1.toInt))))) ∧ OKX9 y_p0 ∧ q_fr [4, 5, 6, 7, 8, 9, 10, 45, 47, 48] f_p0 y_p0 ∧ q_if y_p0 6 at1 ∧ q_if y_p0 7 en1 ∧ q_if y_p0 8 tk1 ∧ q_if y_p0 4 fk1 ∧ q_if y_p0 45 co1 ∧ q_if y_p0 46 un1 ∧ q_if y_p0 47 wi1 ∧ q_if y_p0 48 pi1 ∧ (en1.toInt ≤ siz.toInt ∧ at0.toInt ≤ at1.toInt ∧ at1.toInt ≤ en1.toInt ∧ (tk1.toInt ≠ 3 ∨ at1.toInt < en1.toInt)) ∧ (fk.toInt = 0 ∨ 1 ≤ fk1.toInt) ∧ (900 * rb.toInt ≤ co1.toInt ∧ co1.toInt ≤ 900 * rb.toInt + 900 ∧ 0 ≤ un1.toInt ∧ un1.toInt ≤ 60) ∧ (q_offc bas rb b_p0_code y_p0_code) ∧ (0 ≤ wi1.toInt ∧ wi1.toInt ≤ 7 ∧ 0 ≤ pi1.toInt ∧ pi1.toInt ≤ 69) ∧ (un1.toInt = un.toInt) ∧ X (zW_r_behindUnit p0 y_p0 p0_code c_p0_code y_p0_code p0_codeNumber c_p0_codeNumber y_p0_codeNumber p0_eSign c_p0_eSign y_p0_eSign p0_eWhat c_p0_eWhat y_p0_eWhat p0_text c_p0_text b_p0_text)
theorem zm_r_behindUnit {p0 : Nat} {f_p0 : List Value} {p0_code : Nat} {c_p0_code : ClassId} {b_p0_code : Nat → Int32} {p0_codeNumber : Nat} {c_p0_codeNumber : ClassId} {b_p0_codeNumber : Nat → Int32} {p0_eSign : Nat} {c_p0_eSign : ClassId} {b_p0_eSign : Nat → Int32} {p0_eWhat : Nat} {c_p0_eWhat : ClassId} {b_p0_eWhat : Nat → Int32} {p0_text : Nat} {c_p0_text : ClassId} {b_p0_text : Nat → Int32} {at0 : Int32} {en : Int32} {tk : Int32} {siz : Int32} {fk : Int32} {co : Int32} {un : Int32} {wi : Int32} {pi : Int32} {rb : Int32} {bas : Int} : ∀ (r : Int32), ∀ X Y : va_W → Prop, (∀ w, X w → Y w) → zG_r_behindUnit p0 f_p0 p0_code c_p0_code b_p0_code p0_codeNumber c_p0_codeNumber b_p0_codeNumber p0_eSign c_p0_eSign b_p0_eSign p0_eWhat c_p0_eWhat b_p0_eWhat p0_text c_p0_text b_p0_text at0 en tk siz fk co un wi pi rb bas r X → zG_r_behindUnit p0 f_p0 p0_code c_p0_code b_p0_code p0_codeNumber c_p0_codeNumber b_p0_codeNumber p0_eSign c_p0_eSign b_p0_eSign p0_eWhat c_p0_eWhat b_p0_eWhat p0_text c_p0_text b_p0_text at0 en tk siz fk co un wi pi rb bas r Y := fun r X Y h h1 => by obtain ⟨x0, x1, x2, x3, x4, x5, x6, x7, x8, x9, x10, x11, x12, x13, x14, x15, x16, x17, x18, x19, x20, x21, x22, x23, x24, x25, x26, x27, x28, x29, hx⟩ := h1; exact ⟨x0, x1, x2, x3, x4, x5, x6, x7, x8, x9, x10, x11, x12, x13, x14, x15, x16, x17, x18, x19, x20, x21, x22, x23, x24, x25, x26, x27, x28, x29, h _ hx⟩
set_option maxHeartbeats 4000000 in
set_option maxRecDepth 100000 in
theorem r_behindUnit (l : Launch) (dC : Nat → ClassId) (dI : Nat → Nat → Nat) (sz : Nat) (p0 : Nat) (f_p0 : List Value) (p0_code : Nat) (c_p0_code : ClassId) (b_p0_code : Nat → Int32) (p0_codeNumber : Nat) (c_p0_codeNumber : ClassId) (b_p0_codeNumber : Nat → Int32) (p0_eSign : Nat) (c_p0_eSign : ClassId) (b_p0_eSign : Nat → Int32) (p0_eWhat : Nat) (c_p0_eWhat : ClassId) (b_p0_eWhat : Nat → Int32) (p0_text : Nat) (c_p0_text : ClassId) (b_p0_text : Nat → Int32) (at0 : Int32) (en : Int32) (tk : Int32) (siz : Int32) (fk : Int32) (co : Int32) (un : Int32) (wi : Int32) (pi : Int32) (rb : Int32) (bas : Int) (ho_p0 : OKX9 f_p0) (fr_p0_1 : q_rf f_p0 1 p0_text) (fr_p0_38 : q_rf f_p0 38 p0_code) (fr_p0_39 : q_rf f_p0 39 p0_codeNumber) (fr_p0_40 : q_rf f_p0 40 p0_eWhat) (fr_p0_41 : q_rf f_p0 41 p0_eSign) (pf_at0 : q_if f_p0 6 at0) (pf_en : q_if f_p0 7 en) (pf_tk : q_if f_p0 8 tk) (pf_siz : q_if f_p0 3 siz) (pf_fk : q_if f_p0 4 fk) (pf_co : q_if f_p0 45 co) (pf_un : q_if f_p0 46 un) (pf_wi : q_if f_p0 47 wi) (pf_pi : q_if f_p0 48 pi) (pf_rb : q_if f_p0 44 rb) (hR : en.toInt ≤ siz.toInt ∧ at0.toInt ≤ en.toInt ∧ (tk.toInt ≠ 3 ∨ at0.toInt < en.toInt)) (hpi : 1 ≤ pi.toInt) (hEI : q_EI 1 pi.toInt.toNat rb.toInt co.toInt un.toInt wi.toInt bas b_p0_eWhat b_p0_eSign b_p0_code) : Met l yX9_behindUnit zw_r_behindUnit ({ frames := 3, cells := 0, slots := 0, locals := 65 }) (va_Pc [.ref p0] (q_pre (dC, dI) (zW_r_behindUnit p0 f_p0 p0_code c_p0_code b_p0_code p0_codeNumber c_p0_codeNumber b_p0_codeNumber p0_eSign c_p0_eSign b_p0_eSign p0_eWhat c_p0_eWhat b_p0_eWhat p0_text c_p0_text b_p0_text) (zT_r_behindUnit c_p0_code c_p0_codeNumber c_p0_eSign c_p0_eWhat c_p0_text) q_E0 sz)) (q_Qi (dC, dI) (zG_r_behindUnit p0 f_p0 p0_code c_p0_code b_p0_code p0_codeNumber c_p0_codeNumber b_p0_codeNumber p0_eSign c_p0_eSign b_p0_eSign p0_eWhat c_p0_eWhat b_p0_eWhat p0_text c_p0_text b_p0_text at0 en tk siz fk co un wi pi rb bas) (zA_r_behindUnit p0 p0_code p0_codeNumber p0_eSign p0_eWhat p0_text) (va_A (zW_r_behindUnit p0 f_p0 p0_code c_p0_code b_p0_code p0_codeNumber c_p0_codeNumber b_p0_codeNumber p0_eSign c_p0_eSign b_p0_eSign p0_eWhat c_p0_eWhat b_p0_eWhat p0_text c_p0_text b_p0_text) sz)) 0 0 (va_A (zW_r_behindUnit p0 f_p0 p0_code c_p0_code b_p0_code p0_codeNumber c_p0_codeNumber b_p0_codeNumber p0_eSign c_p0_eSign b_p0_eSign p0_eWhat c_p0_eWhat b_p0_eWhat p0_text c_p0_text b_p0_text) sz) := by
  refine Met.ofW (cc := cX9_behindUnit) (maxL := 2) (ret := (some .boolean)) (by decide) rfl ?_
  intro p e s m args below meth c s₁ B hml hv
  obtain ⟨rfl, hsz, hP, hK, hD0, hE⟩ := hv
  have hx := B.exec
  have hb := B.bytes
  have hr := B.returns
  have hts := atoms_spec (ws := zw_r_behindUnit) B.pre
  have hown : s.vm.findClass RX9 = some m.cls := findClass_of_methodNamed B.named
  have hlocks := B.notSynchronized
  subst hsz
  have hD := hD0.self (sz := s.heap.size)
  generalize hAe : va_A (zW_r_behindUnit p0 f_p0 p0_code c_p0_code b_p0_code p0_codeNumber c_p0_codeNumber b_p0_codeNumber p0_eSign c_p0_eSign b_p0_eSign p0_eWhat c_p0_eWhat b_p0_eWhat p0_text c_p0_text b_p0_text) s.heap.size = A at hD hE ⊢
  have hA : ∀ q : Nat, s.heap.size ≤ q → A q := fun q h => by rw [← hAe]; exact Or.inr h
  have hDa : q_DA A (zA_r_behindUnit p0 p0_code p0_codeNumber p0_eSign p0_eWhat p0_text) := q_DA.mk hD za_r_behindUnit
  clear hAe hD0 hD
  have hS : va_S A s.heap s.heap [] := va_S.rf
  have m_0 : (.methodLink RX9 361 yX9_rankHere : Cond) ∈ zw_r_behindUnit := List.mem_append_left _ (List.mem_of_getElem? (i := 1) rfl)
  have k_0 := hts _ m_0
  have m_1 : (.instanceMethod yX9_rankHere : Cond) ∈ zw_r_behindUnit := List.mem_append_left _ (List.mem_of_getElem? (i := 2) rfl)
  have k_1 := hts _ m_1
  have m_2 : (.selects RX9 yX9_rankHere yX9_rankHere : Cond) ∈ zw_r_behindUnit := List.mem_append_left _ (List.mem_of_getElem? (i := 3) rfl)
  have k_2 := hts _ m_2
  have m_3 : (.initialized RX9 : Cond) ∈ zw_r_behindUnit := List.mem_append_left _ (List.mem_of_getElem? (i := 4) rfl)
  have k_3 := hts _ m_3
  have m_4 : (.fieldLink RX9 339 "BowWalkModel" "piled" "I" : Cond) ∈ zw_r_behindUnit := List.mem_append_left _ (List.mem_of_getElem? (i := 5) rfl)
  have k_4 := hts _ m_4
  have m_5 : (.fieldLink RX9 110 "BowWalkModel" "eWhat" "[I" : Cond) ∈ zw_r_behindUnit := List.mem_append_left _ (List.mem_of_getElem? (i := 6) rfl)
  have k_5 := hts _ m_5
  have m_6 : (.fieldLink RX9 342 "BowWalkModel" "within" "I" : Cond) ∈ zw_r_behindUnit := List.mem_append_left _ (List.mem_of_getElem? (i := 7) rfl)
  have k_6 := hts _ m_6
  have m_7 : (.methodLink RX9 322 yX9_is : Cond) ∈ zw_r_behindUnit := List.mem_append_left _ (List.mem_of_getElem? (i := 8) rfl)
  have k_7 := hts _ m_7
  have m_8 : (.instanceMethod yX9_is : Cond) ∈ zw_r_behindUnit := List.mem_append_left _ (List.mem_of_getElem? (i := 9) rfl)
  have k_8 := hts _ m_8
  have m_9 : (.selects RX9 yX9_is yX9_is : Cond) ∈ zw_r_behindUnit := List.mem_append_left _ (List.mem_of_getElem? (i := 10) rfl)
  have k_9 := hts _ m_9
  have m_10 : (.methodLink RX9 271 yX9_must : Cond) ∈ zw_r_behindUnit := List.mem_append_left _ (List.mem_of_getElem? (i := 11) rfl)
  have k_10 := hts _ m_10
  have m_11 : (.instanceMethod yX9_must : Cond) ∈ zw_r_behindUnit := List.mem_append_left _ (List.mem_of_getElem? (i := 12) rfl)
  have k_11 := hts _ m_11
  have m_12 : (.selects RX9 yX9_must yX9_must : Cond) ∈ zw_r_behindUnit := List.mem_append_left _ (List.mem_of_getElem? (i := 13) rfl)
  have k_12 := hts _ m_12
  have m_13 : (.fieldLink RX9 223 "BowWalkModel" "at" "I" : Cond) ∈ zw_r_behindUnit := List.mem_append_left _ (List.mem_of_getElem? (i := 14) rfl)
  have k_13 := hts _ m_13
  have m_14 : (.methodLink RX9 226 yX9_sign : Cond) ∈ zw_r_behindUnit := List.mem_append_left _ (List.mem_of_getElem? (i := 15) rfl)
  have k_14 := hts _ m_14
  have m_15 : (.instanceMethod yX9_sign : Cond) ∈ zw_r_behindUnit := List.mem_append_left _ (List.mem_of_getElem? (i := 16) rfl)
  have k_15 := hts _ m_15
  have m_16 : (.selects RX9 yX9_sign yX9_sign : Cond) ∈ zw_r_behindUnit := List.mem_append_left _ (List.mem_of_getElem? (i := 17) rfl)
  have k_16 := hts _ m_16
  have m_17 : (.methodLink RX9 345 yX9_pushE : Cond) ∈ zw_r_behindUnit := List.mem_append_left _ (List.mem_of_getElem? (i := 18) rfl)
  have k_17 := hts _ m_17
  have m_18 : (.instanceMethod yX9_pushE : Cond) ∈ zw_r_behindUnit := List.mem_append_left _ (List.mem_of_getElem? (i := 19) rfl)
  have k_18 := hts _ m_18
  have m_19 : (.selects RX9 yX9_pushE yX9_pushE : Cond) ∈ zw_r_behindUnit := List.mem_append_left _ (List.mem_of_getElem? (i := 20) rfl)
  have k_19 := hts _ m_19
  have m_20 : (.methodLink RX9 262 yX9_goOn : Cond) ∈ zw_r_behindUnit := List.mem_append_left _ (List.mem_of_getElem? (i := 21) rfl)
  have k_20 := hts _ m_20
  have m_21 : (.instanceMethod yX9_goOn : Cond) ∈ zw_r_behindUnit := List.mem_append_left _ (List.mem_of_getElem? (i := 22) rfl)
  have k_21 := hts _ m_21
  have m_22 : (.selects RX9 yX9_goOn yX9_goOn : Cond) ∈ zw_r_behindUnit := List.mem_append_left _ (List.mem_of_getElem? (i := 23) rfl)
  have k_22 := hts _ m_22
  have m_23 : (.fieldLink RX9 113 "BowWalkModel" "eSign" "[I" : Cond) ∈ zw_r_behindUnit := List.mem_append_left _ (List.mem_of_getElem? (i := 24) rfl)
  have k_23 := hts _ m_23
  have m_24 : (.methodLink RX9 358 yX9_emit : Cond) ∈ zw_r_behindUnit := List.mem_append_left _ (List.mem_of_getElem? (i := 25) rfl)
  have k_24 := hts _ m_24
  have m_25 : (.instanceMethod yX9_emit : Cond) ∈ zw_r_behindUnit := List.mem_append_left _ (List.mem_of_getElem? (i := 26) rfl)
  have k_25 := hts _ m_25
  have m_26 : (.selects RX9 yX9_emit yX9_emit : Cond) ∈ zw_r_behindUnit := List.mem_append_left _ (List.mem_of_getElem? (i := 27) rfl)
  have k_26 := hts _ m_26
  have m_27 : (.methodLink RX9 364 yX9_isCompared : Cond) ∈ zw_r_behindUnit := List.mem_append_left _ (List.mem_of_getElem? (i := 28) rfl)
  have k_27 := hts _ m_27
  have m_28 : (.instanceMethod yX9_isCompared : Cond) ∈ zw_r_behindUnit := List.mem_append_left _ (List.mem_of_getElem? (i := 29) rfl)
  have k_28 := hts _ m_28
  have m_29 : (.selects RX9 yX9_isCompared yX9_isCompared : Cond) ∈ zw_r_behindUnit := List.mem_append_left _ (List.mem_of_getElem? (i := 30) rfl)
  have k_29 := hts _ m_29
  have m_30 : (.methodLink RX9 265 yX9_misplaced : Cond) ∈ zw_r_behindUnit := List.mem_append_left _ (List.mem_of_getElem? (i := 31) rfl)
  have k_30 := hts _ m_30
  have m_31 : (.instanceMethod yX9_misplaced : Cond) ∈ zw_r_behindUnit := List.mem_append_left _ (List.mem_of_getElem? (i := 32) rfl)
  have k_31 := hts _ m_31
  have m_32 : (.selects RX9 yX9_misplaced yX9_misplaced : Cond) ∈ zw_r_behindUnit := List.mem_append_left _ (List.mem_of_getElem? (i := 33) rfl)
  have k_32 := hts _ m_32
  have g_r_rankHere : ∀ w ∈ zw_r_rankHere, w ∈ zw_r_behindUnit := fun w h => List.mem_append_right _ (List.mem_append_left _ h)
  have g_r_is : ∀ w ∈ zw_r_is, w ∈ zw_r_behindUnit := fun w h => List.mem_append_right _ (List.mem_append_right _ (List.mem_append_left _ h))
  have g_r_must : ∀ w ∈ zw_r_must, w ∈ zw_r_behindUnit := fun w h => List.mem_append_right _ (List.mem_append_right _ (List.mem_append_right _ (List.mem_append_left _ h)))
  have g_r_sign : ∀ w ∈ zw_r_sign, w ∈ zw_r_behindUnit := fun w h => List.mem_append_right _ (List.mem_append_right _ (List.mem_append_right _ (List.mem_append_right _ (List.mem_append_left _ h))))
  have g_r_pushE : ∀ w ∈ zw_r_pushE, w ∈ zw_r_behindUnit := fun w h => List.mem_append_right _ (List.mem_append_right _ (List.mem_append_right _ (List.mem_append_right _ (List.mem_append_right _ (List.mem_append_left _ h)))))
  have g_r_goOn : ∀ w ∈ zw_r_goOn, w ∈ zw_r_behindUnit := fun w h => List.mem_append_right _ (List.mem_append_right _ (List.mem_append_right _ (List.mem_append_right _ (List.mem_append_right _ (List.mem_append_right _ (List.mem_append_left _ h))))))
  have g_r_emit : ∀ w ∈ zw_r_emit, w ∈ zw_r_behindUnit := fun w h => List.mem_append_right _ (List.mem_append_right _ (List.mem_append_right _ (List.mem_append_right _ (List.mem_append_right _ (List.mem_append_right _ (List.mem_append_right _ (List.mem_append_left _ h)))))))
  have g_r_isCompared : ∀ w ∈ zw_r_isCompared, w ∈ zw_r_behindUnit := fun w h => List.mem_append_right _ (List.mem_append_right _ (List.mem_append_right _ (List.mem_append_right _ (List.mem_append_right _ (List.mem_append_right _ (List.mem_append_right _ (List.mem_append_right _ (List.mem_append_left _ h))))))))
  have g_r_misplaced : ∀ w ∈ zw_r_misplaced, w ∈ zw_r_behindUnit := fun w h => List.mem_append_right _ (List.mem_append_right _ (List.mem_append_right _ (List.mem_append_right _ (List.mem_append_right _ (List.mem_append_right _ (List.mem_append_right _ (List.mem_append_right _ (List.mem_append_right _ (List.mem_append_left _ h)))))))))
  have i_X9 : ∀ w ∈ u_ws RX9 TX9 81, w ∈ zw_r_behindUnit := fun w h => List.mem_append_right _ (List.mem_append_right _ (List.mem_append_right _ (List.mem_append_right _ (List.mem_append_right _ (List.mem_append_right _ (List.mem_append_right _ (List.mem_append_right _ (List.mem_append_right _ (List.mem_append_right _ (List.mem_append_left _ h))))))))))
  have lt_0 : (0 : Int32).toInt = 0 := by decide
  have lt_1 : (1 : Int32).toInt = 1 := by decide
  have lt_2 : (2 : Int32).toInt = 2 := by decide
  have lt_3 : (3 : Int32).toInt = 3 := by decide
  have lt_4 : (4 : Int32).toInt = 4 := by decide
  have lt_6 : (6 : Int32).toInt = 6 := by decide
  have lt_7 : (7 : Int32).toInt = 7 := by decide
  have lt_38 : (38 : Int32).toInt = 38 := by decide
  have lt_41 : (41 : Int32).toInt = 41 := by decide
  have lt_124 : (124 : Int32).toInt = 124 := by decide
  have hl := lv_entry ([.ref p0]) (n := 2) (Nat.le_of_ble_eq_true rfl)
  rw [lg_entry_eq]
  generalize (lg_sl ([.ref p0]) ++ List.replicate (2 - (lg_sl ([.ref p0])).length) Slot.unset).toArray = ls at hl ⊢
  have hl : lv_has ls 2 [(0, .ref p0)] := hl
  have tat0 := (OKX9_g6 ho_p0).use pf_at0
  have ten := (OKX9_g7 ho_p0).use pf_en
  have ttk := (OKX9_g8 ho_p0).use pf_tk
  have tsiz := (OKX9_g3 ho_p0).use pf_siz
  have tfk := (OKX9_g4 ho_p0).use pf_fk
  have trb := (OKX9_g44 ho_p0).use pf_rb
  have hbd := hEI.bd
  refine lv_aload_n hx hb dX9_behindUnit_0 rfl (lv_at hl 0 rfl) ?_
  refine q_cVi (As := []) (rest := []) q_w0 trivial hK hP hDa za_r_behindUnit hS hA [0, 5] [4] (by decide +kernel) ⟨hx, hb, hml, hown, hts⟩ (r_rankHere l dC dI s.heap.size p0 f_p0 p0_text c_p0_text b_p0_text tk at0 siz ho_p0 fr_p0_1 pf_tk pf_at0 pf_siz) rfl rfl (cwV 0 hts (p1_gV m_0 m_1 m_2 m_3 g_r_rankHere gz_r_rankHere) rfl rfl rfl (by decide +kernel) ⟨by decide, by decide⟩) (va_recv hK hP (ci := 8) (q0 := 0) rfl rfl) zm_r_rankHere rfl hl.1 rfl (Nat.le_of_ble_eq_true rfl) dX9_behindUnit_1 ⟨by decide, by decide⟩ (fun r_1 H2 lo2 hG2 hS2 => ?_)
  obtain ⟨z_3, hQ2⟩ := hG2
  have hP2 : va_P (dC, dI) vwCl (zW_r_behindUnit p0 f_p0 p0_code c_p0_code b_p0_code p0_codeNumber c_p0_codeNumber b_p0_codeNumber p0_eSign c_p0_eSign b_p0_eSign p0_eWhat c_p0_eWhat b_p0_eWhat p0_text c_p0_text b_p0_text) H2 := hQ2
  clear hQ2 hP hS
  refine lv_istore_n (lv' := [(1, .int r_1), (0, .ref p0)]) hx hb dX9_behindUnit_4 rfl hl (by decide) rfl (fun ls hl => ?_)
  have jn_4 : ∀ (fz_p0 : List Value) (coj : Int32) (wij : Int32) (pij : Int32) (bz_p0_code : Nat → Int32) (bz_p0_codeNumber : Nat → Int32) (H : Heap) (locs : List Loc) (ls : Array Slot) (ho_fz_p0 : OKX9 fz_p0) (hf_fz_p0 : q_fr [4, 5, 6, 7, 8, 9, 10, 45, 47, 48] f_p0 fz_p0) (fr_fz_p0_1 : q_rf fz_p0 1 p0_text) (fh_fz_p0_3 : q_if fz_p0 3 siz) (fh_fz_p0_4 : q_if fz_p0 4 fk) (fh_fz_p0_6 : q_if fz_p0 6 at0) (fh_fz_p0_7 : q_if fz_p0 7 en) (fh_fz_p0_8 : q_if fz_p0 8 tk) (fr_fz_p0_38 : q_rf fz_p0 38 p0_code) (fr_fz_p0_39 : q_rf fz_p0 39 p0_codeNumber) (fr_fz_p0_40 : q_rf fz_p0 40 p0_eWhat) (fr_fz_p0_41 : q_rf fz_p0 41 p0_eSign) (fh_fz_p0_44 : q_if fz_p0 44 rb) (fv_fz_p0_45 : q_if fz_p0 45 coj) (tcoj : (0) ≤ coj.toInt ∧ coj.toInt ≤ 1800) (fh_fz_p0_46 : q_if fz_p0 46 un) (fv_fz_p0_47 : q_if fz_p0 47 wij) (twij : (0) ≤ wij.toInt ∧ wij.toInt ≤ 7) (fv_fz_p0_48 : q_if fz_p0 48 pij) (tpij : (0) ≤ pij.toInt ∧ pij.toInt ≤ 119) (hq0 : q_EI 1 pij.toInt.toNat rb.toInt coj.toInt un.toInt wij.toInt bas b_p0_eWhat b_p0_eSign bz_p0_code) (hq1 : q_offc bas rb b_p0_code bz_p0_code) (hq2 : 1 ≤ pij.toInt ∧ pij.toInt ≤ pi.toInt) (hq3 : 0 < r_1.toInt ∨ 7 ≤ (b_p0_eWhat (pij.toInt - 1).toNat).toInt), va_P (dC, dI) vwCl (zW_r_behindUnit p0 fz_p0 p0_code c_p0_code bz_p0_code p0_codeNumber c_p0_codeNumber bz_p0_codeNumber p0_eSign c_p0_eSign b_p0_eSign p0_eWhat c_p0_eWhat b_p0_eWhat p0_text c_p0_text b_p0_text) H → va_S A s.heap H locs → lv_has ls 2 [(1, .int r_1), (0, .ref p0)] → W p l e (headSpec zw_r_behindUnit { frames := 3, cells := 0, slots := 0, locals := 65 }).room s m ([.ref p0] : List Value).toArray below meth c H locs 0 0 (MQ below (q_Qi (dC, dI) (zG_r_behindUnit p0 f_p0 p0_code c_p0_code b_p0_code p0_codeNumber c_p0_codeNumber b_p0_codeNumber p0_eSign c_p0_eSign b_p0_eSign p0_eWhat c_p0_eWhat b_p0_eWhat p0_text c_p0_text b_p0_text at0 en tk siz fk co un wi pi rb bas) (zA_r_behindUnit p0 p0_code p0_codeNumber p0_eSign p0_eWhat p0_text) A) ([.ref p0] : List Value).toArray s 0 0 A) (F0 m 104 ls []) := by
    intro fz_p0 coj wij pij bz_p0_code bz_p0_codeNumber H5 lo5 ls ho_fz_p0 hf_fz_p0 fr_fz_p0_1 fh_fz_p0_3 fh_fz_p0_4 fh_fz_p0_6 fh_fz_p0_7 fh_fz_p0_8 fr_fz_p0_38 fr_fz_p0_39 fr_fz_p0_40 fr_fz_p0_41 fh_fz_p0_44 fv_fz_p0_45 tcoj fh_fz_p0_46 fv_fz_p0_47 twij fv_fz_p0_48 tpij hq0 hq1 hq2 hq3 hP5 hS5 hl
    have hbdj := hq0.bd
    have hdonej := hq0.2.2.2.2.2.2.2.2.2.2.2.2.2.1
    refine lv_iload_n hx hb dX9_behindUnit_104 rfl (lv_at hl 0 rfl) ?_
    refine lv_if_le (tgt := 147) hx hb dX9_behindUnit_105 (by decide) (fun c_6 => ?_) (fun c_6 => ?_)
    · have tc_6 := q_le c_6
      refine lv_aload_n hx hb dX9_behindUnit_147 rfl (lv_at hl 1 rfl) (lv_dup hx hb dX9_behindUnit_148 rfl (qg_X9_48 hx hb hts i_X9 hown hK hP5 0 rfl k_4 fv_fz_p0_48 dX9_behindUnit_149 (lv_iconst (v := 1) hx hb dX9_behindUnit_152 (by decide) (lv_isub hx hb dX9_behindUnit_153 (lv_topi fun v_7 ev_7 => ?_)))))
      have tv_7 := q_sub ev_7 (by omega) (by omega)
      refine qp_X9_48 hx hb hts i_X9 hown hK hP5 hDa za_r_behindUnit hS5 0 rfl k_4 (OKX9_l ho_fz_p0) dX9_behindUnit_154 (fun H8 lo8 fs8 efs8 (hP8 : va_P (dC, dI) vwCl (zW_r_behindUnit p0 fs8 p0_code c_p0_code bz_p0_code p0_codeNumber c_p0_codeNumber bz_p0_codeNumber p0_eSign c_p0_eSign b_p0_eSign p0_eWhat c_p0_eWhat b_p0_eWhat p0_text c_p0_text b_p0_text) H8) hS8 => ?_)
      have ho8 := OKX9_p48 ho_fz_p0 efs8
      clear hP5 hS5
      refine lv_aload_n hx hb dX9_behindUnit_157 rfl (lv_at hl 1 rfl) (qg_X9_40 hx hb hts i_X9 hown hK hP8 0 rfl k_5 (q_sn efs8 (by decide) fr_fz_p0_40) dX9_behindUnit_158 (lv_aload_n hx hb dX9_behindUnit_161 rfl (lv_at hl 1 rfl) (qg_X9_48 hx hb hts i_X9 hown hK hP8 0 rfl k_4 (q_sa efs8 (OKX9_l ho_fz_p0) (by decide)) dX9_behindUnit_162 (q_ild hx hb hK hP8 4 3 rfl rfl (q_in (by omega) (by omega)) dX9_behindUnit_165 (fun v_9 ev_9 => ?_)))))
      have kv_9 := q_ix (n := (pij.toInt - 1).toNat) ev_9 (by omega) (by omega)
      have uv_9 : v_9.toInt = (b_p0_eWhat (pij.toInt - 1).toNat).toInt := by rw [kv_9]
      have htopv_9 := (q_EI.cast hq0 (p' := (pij.toInt - 1).toNat + 1) (by omega) rfl rfl rfl).top kv_9
      refine lv_bipush (v := 7) hx hb dX9_behindUnit_166 (by decide) ?_
      refine lv_icmp_ne (tgt := 191) hx hb dX9_behindUnit_168 (by decide) (fun c_10 => ?_) (fun c_10 => ?_)
      · have tc_10 := q_ne c_10
        refine lv_iconst (v := 0) hx hb dX9_behindUnit_191 (by decide) ?_
        exact q_zret hx hb hr hlocks (by decide) hS8 dX9_behindUnit_192 ⟨fs8, bz_p0_code, bz_p0_codeNumber, b_p0_eSign, b_p0_eWhat, at0, en, tk, fk, coj, un, wij, v_7, (Or.inr ⟨rfl, by omega, Or.inr ⟨by omega, (q_EI.cast hq0 (p' := 1) (by omega) rfl rfl rfl).done.1, by omega, by omega⟩⟩), ho8, (hf_fz_p0.st efs8 (by decide)), (q_sn efs8 (by decide) fh_fz_p0_6), (q_sn efs8 (by decide) fh_fz_p0_7), (q_sn efs8 (by decide) fh_fz_p0_8), (q_sn efs8 (by decide) fh_fz_p0_4), (q_sn efs8 (by decide) fv_fz_p0_45), (q_sn efs8 (by decide) fh_fz_p0_46), (q_sn efs8 (by decide) fv_fz_p0_47), (q_sa efs8 (OKX9_l ho_fz_p0) (by decide)), (by omega), (by omega), (by omega), hq1, (by omega), (by omega), hP8, za_r_behindUnit⟩
      · have tc_10 := q_eqN c_10
        refine lv_aload_n hx hb dX9_behindUnit_171 rfl (lv_at hl 1 rfl) (lv_dup hx hb dX9_behindUnit_172 rfl (qg_X9_47 hx hb hts i_X9 hown hK hP8 0 rfl k_6 (q_sn efs8 (by decide) fv_fz_p0_47) dX9_behindUnit_173 (lv_iconst (v := 1) hx hb dX9_behindUnit_176 (by decide) (lv_isub hx hb dX9_behindUnit_177 (lv_topi fun v_11 ev_11 => ?_)))))
        have tv_11 := q_sub ev_11 (by omega) (by omega)
        refine qp_X9_47 hx hb hts i_X9 hown hK hP8 hDa za_r_behindUnit hS8 0 rfl k_6 (OKX9_l ho8) dX9_behindUnit_178 (fun H12 lo12 fs12 efs12 (hP12 : va_P (dC, dI) vwCl (zW_r_behindUnit p0 fs12 p0_code c_p0_code bz_p0_code p0_codeNumber c_p0_codeNumber bz_p0_codeNumber p0_eSign c_p0_eSign b_p0_eSign p0_eWhat c_p0_eWhat b_p0_eWhat p0_text c_p0_text b_p0_text) H12) hS12 => ?_)
        have ho12 := OKX9_p47 ho8 efs12
        clear hP8 hS8
        refine lv_aload_n hx hb dX9_behindUnit_181 rfl (lv_at hl 1 rfl) (lv_aload_n hx hb dX9_behindUnit_182 rfl (lv_at hl 1 rfl) (lv_bipush (v := 41) hx hb dX9_behindUnit_183 (by decide) ?_))
        refine q_cVi (As := [.int 41]) (rest := [.ref p0]) q_w0 trivial hK hP12 hDa za_r_behindUnit hS12 hA [0, 5] [4] (by decide +kernel) ⟨hx, hb, hml, hown, hts⟩ (r_is l dC dI H12.size p0 fs12 p0_text c_p0_text b_p0_text 41 tk at0 siz ho12 ((q_sn efs12 (by decide) (q_sn efs8 (by decide) fr_fz_p0_1))) ((q_sn efs12 (by decide) (q_sn efs8 (by decide) fh_fz_p0_8))) ((q_sn efs12 (by decide) (q_sn efs8 (by decide) fh_fz_p0_6))) ((q_sn efs12 (by decide) (q_sn efs8 (by decide) fh_fz_p0_3)))) rfl rfl (cwV 1 hts (p1_gV m_7 m_8 m_9 m_3 g_r_is gz_r_is) rfl rfl rfl (by decide +kernel) ⟨by decide, by decide⟩) (va_recv hK hP12 (ci := 8) (q0 := 0) rfl rfl) zm_r_is rfl hl.1 rfl (Nat.le_of_ble_eq_true rfl) dX9_behindUnit_185 ⟨by decide, by decide⟩ (fun r_13 H14 lo14 hG14 hS14 => ?_)
        obtain ⟨z_15, hQ14⟩ := hG14
        have hP14 : va_P (dC, dI) vwCl (zW_r_behindUnit p0 fs12 p0_code c_p0_code bz_p0_code p0_codeNumber c_p0_codeNumber bz_p0_codeNumber p0_eSign c_p0_eSign b_p0_eSign p0_eWhat c_p0_eWhat b_p0_eWhat p0_text c_p0_text b_p0_text) H14 := hQ14
        clear hQ14 hP12 hS12
        rcases z_15 with ⟨rfl, z_15⟩ | ⟨rfl, z_15⟩
        · refine q_cVv (As := [.int 1]) (rest := []) q_w0 trivial hK hP14 hDa za_r_behindUnit hS14 hA [0, 5] [4] (by decide +kernel) ⟨hx, hb, hml, hown, hts⟩ (r_must l dC dI H14.size p0 fs12 p0_text c_p0_text b_p0_text 1 at0 en tk siz fk ho12 ((q_sn efs12 (by decide) (q_sn efs8 (by decide) fr_fz_p0_1))) ((q_sn efs12 (by decide) (q_sn efs8 (by decide) fh_fz_p0_6))) ((q_sn efs12 (by decide) (q_sn efs8 (by decide) fh_fz_p0_7))) ((q_sn efs12 (by decide) (q_sn efs8 (by decide) fh_fz_p0_8))) ((q_sn efs12 (by decide) (q_sn efs8 (by decide) fh_fz_p0_3))) ((q_sn efs12 (by decide) (q_sn efs8 (by decide) fh_fz_p0_4))) ((by omega))) rfl rfl (cwV 1 hts (p1_gV m_10 m_11 m_12 m_3 g_r_must gz_r_must) rfl rfl rfl (by decide +kernel) ⟨by decide, by decide⟩) (va_recv hK hP14 (ci := 8) (q0 := 0) rfl rfl) zm_r_must rfl hl.1 rfl (Nat.le_of_ble_eq_true rfl) dX9_behindUnit_188 ⟨by decide, by decide⟩ (fun H17 lo17 hG17 hS17 => ?_)
          obtain ⟨o_18, o_19, o_20, o_21, o_22, ho_23, hf_24, z_25, z_26, z_27, z_28, z_29, z_30, hQ17⟩ := hG17
          have to_19 := (OKX9_g6 ho_23).use z_25
          have to_20 := (OKX9_g7 ho_23).use z_26
          have to_21 := (OKX9_g8 ho_23).use z_27
          have to_22 := (OKX9_g4 ho_23).use z_28
          have hP17 : va_P (dC, dI) vwCl (zW_r_behindUnit p0 o_18 p0_code c_p0_code bz_p0_code p0_codeNumber c_p0_codeNumber bz_p0_codeNumber p0_eSign c_p0_eSign b_p0_eSign p0_eWhat c_p0_eWhat b_p0_eWhat p0_text c_p0_text b_p0_text) H17 := hQ17
          clear hQ17 hP14 hS14
          refine lv_iconst (v := 0) hx hb dX9_behindUnit_191 (by decide) ?_
          have hEn := q_EI.drop (p := (pij.toInt - 1).toNat) (wi' := v_11.toInt) (q_EI.cast hq0 (by omega) rfl rfl rfl) (by omega) kv_9 (by omega) (by omega)
          have hbn := hEn.bd
          exact q_zret hx hb hr hlocks (by decide) hS17 dX9_behindUnit_192 ⟨o_18, bz_p0_code, bz_p0_codeNumber, b_p0_eSign, b_p0_eWhat, o_19, o_20, o_21, o_22, coj, un, v_11, v_7, (Or.inr ⟨rfl, by omega, Or.inl ⟨by omega, q_EI.cast hEn (by omega) (by omega) (by omega) rfl⟩⟩), ho_23, (((hf_fz_p0.st efs8 (by decide)).st efs12 (by decide)).tr hf_24 (by decide)), z_25, z_26, z_27, z_28, (hf_24.u (by decide) (q_sn efs12 (by decide) (q_sn efs8 (by decide) fv_fz_p0_45))), (hf_24.u (by decide) (q_sn efs12 (by decide) (q_sn efs8 (by decide) fh_fz_p0_46))), (hf_24.u (by decide) (q_sa efs12 (OKX9_l ho8) (by decide))), (hf_24.u (by decide) (q_sn efs12 (by decide) (q_sa efs8 (OKX9_l ho_fz_p0) (by decide)))), (by omega), (by omega), (by omega), hq1, (by omega), (by omega), hP17, za_r_behindUnit⟩
        · refine q_cVv (As := [.int 0]) (rest := []) q_w0 trivial hK hP14 hDa za_r_behindUnit hS14 hA [0, 5] [4] (by decide +kernel) ⟨hx, hb, hml, hown, hts⟩ (r_must l dC dI H14.size p0 fs12 p0_text c_p0_text b_p0_text 0 at0 en tk siz fk ho12 ((q_sn efs12 (by decide) (q_sn efs8 (by decide) fr_fz_p0_1))) ((q_sn efs12 (by decide) (q_sn efs8 (by decide) fh_fz_p0_6))) ((q_sn efs12 (by decide) (q_sn efs8 (by decide) fh_fz_p0_7))) ((q_sn efs12 (by decide) (q_sn efs8 (by decide) fh_fz_p0_8))) ((q_sn efs12 (by decide) (q_sn efs8 (by decide) fh_fz_p0_3))) ((q_sn efs12 (by decide) (q_sn efs8 (by decide) fh_fz_p0_4))) ((by omega))) rfl rfl (cwV 1 hts (p1_gV m_10 m_11 m_12 m_3 g_r_must gz_r_must) rfl rfl rfl (by decide +kernel) ⟨by decide, by decide⟩) (va_recv hK hP14 (ci := 8) (q0 := 0) rfl rfl) zm_r_must rfl hl.1 rfl (Nat.le_of_ble_eq_true rfl) dX9_behindUnit_188 ⟨by decide, by decide⟩ (fun H32 lo32 hG32 hS32 => ?_)
          obtain ⟨o_33, o_34, o_35, o_36, o_37, ho_38, hf_39, z_40, z_41, z_42, z_43, z_44, z_45, hQ32⟩ := hG32
          have to_34 := (OKX9_g6 ho_38).use z_40
          have to_35 := (OKX9_g7 ho_38).use z_41
          have to_36 := (OKX9_g8 ho_38).use z_42
          have to_37 := (OKX9_g4 ho_38).use z_43
          have hP32 : va_P (dC, dI) vwCl (zW_r_behindUnit p0 o_33 p0_code c_p0_code bz_p0_code p0_codeNumber c_p0_codeNumber bz_p0_codeNumber p0_eSign c_p0_eSign b_p0_eSign p0_eWhat c_p0_eWhat b_p0_eWhat p0_text c_p0_text b_p0_text) H32 := hQ32
          clear hQ32 hP14 hS14
          refine lv_iconst (v := 0) hx hb dX9_behindUnit_191 (by decide) ?_
          have hEn := q_EI.drop (p := (pij.toInt - 1).toNat) (wi' := v_11.toInt) (q_EI.cast hq0 (by omega) rfl rfl rfl) (by omega) kv_9 (by omega) (by omega)
          have hbn := hEn.bd
          exact q_zret hx hb hr hlocks (by decide) hS32 dX9_behindUnit_192 ⟨o_33, bz_p0_code, bz_p0_codeNumber, b_p0_eSign, b_p0_eWhat, o_34, o_35, o_36, o_37, coj, un, v_11, v_7, (Or.inr ⟨rfl, by omega, Or.inl ⟨by omega, q_EI.cast hEn (by omega) (by omega) (by omega) rfl⟩⟩), ho_38, (((hf_fz_p0.st efs8 (by decide)).st efs12 (by decide)).tr hf_39 (by decide)), z_40, z_41, z_42, z_43, (hf_39.u (by decide) (q_sn efs12 (by decide) (q_sn efs8 (by decide) fv_fz_p0_45))), (hf_39.u (by decide) (q_sn efs12 (by decide) (q_sn efs8 (by decide) fh_fz_p0_46))), (hf_39.u (by decide) (q_sa efs12 (OKX9_l ho8) (by decide))), (hf_39.u (by decide) (q_sn efs12 (by decide) (q_sa efs8 (OKX9_l ho_fz_p0) (by decide)))), (by omega), (by omega), (by omega), hq1, (by omega), (by omega), hP32, za_r_behindUnit⟩
    · have tc_6 := q_gtN c_6
      refine lv_aload_n hx hb dX9_behindUnit_108 rfl (lv_at hl 1 rfl) (lv_iload_n hx hb dX9_behindUnit_109 rfl (lv_at hl 0 rfl) (lv_iload_n hx hb dX9_behindUnit_110 rfl (lv_at hl 0 rfl) (lv_iconst (v := 2) hx hb dX9_behindUnit_111 (by decide) ?_)))
      refine lv_icmp_ne (tgt := 120) hx hb dX9_behindUnit_112 (by decide) (fun c_46 => ?_) (fun c_46 => ?_)
      · have tc_46 := q_ne c_46
        refine lv_iload_n hx hb dX9_behindUnit_120 rfl (lv_at hl 0 rfl) (lv_iconst (v := 1) hx hb dX9_behindUnit_121 (by decide) ?_)
        refine lv_icmp_ne (tgt := 130) hx hb dX9_behindUnit_122 (by decide) (fun c_47 => ?_) (fun c_47 => ?_)
        · have tc_47 := q_ne c_47
          refine lv_aload_n hx hb dX9_behindUnit_130 rfl (lv_at hl 1 rfl) (lv_aload_n hx hb dX9_behindUnit_131 rfl (lv_at hl 1 rfl) (qg_X9_6 hx hb hts i_X9 hown hK hP5 0 rfl k_13 fh_fz_p0_6 dX9_behindUnit_132 ?_))
          refine q_cVi (As := [.int at0]) (rest := [.int r_1, .ref p0]) q_w0 trivial hK hP5 hDa za_r_behindUnit hS5 hA [0, 5] [4] (by decide +kernel) ⟨hx, hb, hml, hown, hts⟩ (r_sign l dC dI H5.size p0 fz_p0 p0_text c_p0_text b_p0_text at0 siz ho_fz_p0 fr_fz_p0_1 fh_fz_p0_3 ((by omega))) rfl rfl (cwV 1 hts (p1_gV m_14 m_15 m_16 m_3 g_r_sign gz_r_sign) rfl rfl rfl (by decide +kernel) ⟨by decide, by decide⟩) (va_recv hK hP5 (ci := 8) (q0 := 0) rfl rfl) zm_r_sign rfl hl.1 rfl (Nat.le_of_ble_eq_true rfl) dX9_behindUnit_135 ⟨by decide, by decide⟩ (fun r_48 H49 lo49 hG49 hS49 => ?_)
          obtain ⟨z_50, hQ49⟩ := hG49
          have hP49 : va_P (dC, dI) vwCl (zW_r_behindUnit p0 fz_p0 p0_code c_p0_code bz_p0_code p0_codeNumber c_p0_codeNumber bz_p0_codeNumber p0_eSign c_p0_eSign b_p0_eSign p0_eWhat c_p0_eWhat b_p0_eWhat p0_text c_p0_text b_p0_text) H49 := hQ49
          clear hQ49 hP5 hS5
          refine q_cVv (As := [.int r_1, .int r_48]) (rest := []) q_w0 trivial hK hP49 hDa za_r_behindUnit hS49 hA [0, 3, 4] [2, 3] (by decide +kernel) ⟨hx, hb, hml, hown, hts⟩ (r_pushE l dC dI H49.size p0 fz_p0 p0_eSign c_p0_eSign b_p0_eSign p0_eWhat c_p0_eWhat b_p0_eWhat r_1 r_48 pij ho_fz_p0 fr_fz_p0_40 fr_fz_p0_41 fv_fz_p0_48 ((by omega))) rfl rfl (cwV 2 hts (p1_gV m_17 m_18 m_19 m_3 g_r_pushE gz_r_pushE) rfl rfl rfl (by decide +kernel) ⟨by decide, by decide⟩) (va_recv hK hP49 (ci := 8) (q0 := 0) rfl rfl) zm_r_pushE rfl hl.1 rfl (Nat.le_of_ble_eq_true rfl) dX9_behindUnit_138 ⟨by decide, by decide⟩ (fun H52 lo52 hG52 hS52 => ?_)
          obtain ⟨o_53, o_54, o_55, o_56, ho_57, hf_58, z_59, z_60, z_61, z_62, hQ52⟩ := hG52
          have hP52 : va_P (dC, dI) vwCl (zW_r_behindUnit p0 o_53 p0_code c_p0_code bz_p0_code p0_codeNumber c_p0_codeNumber bz_p0_codeNumber p0_eSign c_p0_eSign o_54 p0_eWhat c_p0_eWhat o_55 p0_text c_p0_text b_p0_text) H52 := hQ52
          clear hQ52 hP49 hS49
          refine lv_aload_n hx hb dX9_behindUnit_141 rfl (lv_at hl 1 rfl) ?_
          refine q_cVv (As := []) (rest := []) q_w0 trivial hK hP52 hDa za_r_behindUnit hS52 hA [0, 5] [4] (by decide +kernel) ⟨hx, hb, hml, hown, hts⟩ (r_goOn l dC dI H52.size p0 o_53 p0_text c_p0_text b_p0_text en siz ho_57 ((hf_58.u (by decide) fr_fz_p0_1)) ((hf_58.u (by decide) fh_fz_p0_7)) ((hf_58.u (by decide) fh_fz_p0_3)) ((by omega))) rfl rfl (cwV 0 hts (p1_gV m_20 m_21 m_22 m_3 g_r_goOn gz_r_goOn) rfl rfl rfl (by decide +kernel) ⟨by decide, by decide⟩) (va_recv hK hP52 (ci := 8) (q0 := 0) rfl rfl) zm_r_goOn rfl hl.1 rfl (Nat.le_of_ble_eq_true rfl) dX9_behindUnit_142 ⟨by decide, by decide⟩ (fun H64 lo64 hG64 hS64 => ?_)
          obtain ⟨o_65, o_66, o_67, o_68, ho_69, hf_70, z_71, z_72, z_73, z_74, hQ64⟩ := hG64
          have to_66 := (OKX9_g6 ho_69).use z_71
          have to_67 := (OKX9_g7 ho_69).use z_72
          have to_68 := (OKX9_g8 ho_69).use z_73
          have hP64 : va_P (dC, dI) vwCl (zW_r_behindUnit p0 o_65 p0_code c_p0_code bz_p0_code p0_codeNumber c_p0_codeNumber bz_p0_codeNumber p0_eSign c_p0_eSign o_54 p0_eWhat c_p0_eWhat o_55 p0_text c_p0_text b_p0_text) H64 := hQ64
          clear hQ64 hP52 hS52
          refine lv_iconst (v := 1) hx hb dX9_behindUnit_145 (by decide) ?_
          exact q_zret hx hb hr hlocks (by decide) hS64 dX9_behindUnit_146 ⟨o_65, bz_p0_code, bz_p0_codeNumber, o_54, o_55, o_66, o_67, o_68, fk, coj, un, wij, o_56, (Or.inl ⟨rfl, Or.inr ⟨by omega, q_EI.cast (hq0.wait z_61 z_62 (z_3.2.2.op (by omega)) (z_3.2.2.ops (by omega) (by omega) (by omega) (by omega))) (by omega) (by omega) (by omega) (by omega)⟩⟩), ho_69, ((hf_fz_p0.tr hf_58 (by decide)).tr hf_70 (by decide)), z_71, z_72, z_73, (hf_70.u (by decide) (hf_58.u (by decide) fh_fz_p0_4)), (hf_70.u (by decide) (hf_58.u (by decide) fv_fz_p0_45)), (hf_70.u (by decide) (hf_58.u (by decide) fh_fz_p0_46)), (hf_70.u (by decide) (hf_58.u (by decide) fv_fz_p0_47)), (hf_70.u (by decide) z_59), (by omega), (by omega), (by omega), hq1, (by omega), (by omega), hP64, za_r_behindUnit⟩
        · have tc_47 := q_eqN c_47
          refine lv_bipush (v := 124) hx hb dX9_behindUnit_125 (by decide) (lv_goto (tgt := 138) hx hb dX9_behindUnit_127 (by decide) ?_)
          refine q_cVv (As := [.int r_1, .int 124]) (rest := []) q_w0 trivial hK hP5 hDa za_r_behindUnit hS5 hA [0, 3, 4] [2, 3] (by decide +kernel) ⟨hx, hb, hml, hown, hts⟩ (r_pushE l dC dI H5.size p0 fz_p0 p0_eSign c_p0_eSign b_p0_eSign p0_eWhat c_p0_eWhat b_p0_eWhat r_1 124 pij ho_fz_p0 fr_fz_p0_40 fr_fz_p0_41 fv_fz_p0_48 ((by omega))) rfl rfl (cwV 2 hts (p1_gV m_17 m_18 m_19 m_3 g_r_pushE gz_r_pushE) rfl rfl rfl (by decide +kernel) ⟨by decide, by decide⟩) (va_recv hK hP5 (ci := 8) (q0 := 0) rfl rfl) zm_r_pushE rfl hl.1 rfl (Nat.le_of_ble_eq_true rfl) dX9_behindUnit_138 ⟨by decide, by decide⟩ (fun H76 lo76 hG76 hS76 => ?_)
          obtain ⟨o_77, o_78, o_79, o_80, ho_81, hf_82, z_83, z_84, z_85, z_86, hQ76⟩ := hG76
          have hP76 : va_P (dC, dI) vwCl (zW_r_behindUnit p0 o_77 p0_code c_p0_code bz_p0_code p0_codeNumber c_p0_codeNumber bz_p0_codeNumber p0_eSign c_p0_eSign o_78 p0_eWhat c_p0_eWhat o_79 p0_text c_p0_text b_p0_text) H76 := hQ76
          clear hQ76 hP5 hS5
          refine lv_aload_n hx hb dX9_behindUnit_141 rfl (lv_at hl 1 rfl) ?_
          refine q_cVv (As := []) (rest := []) q_w0 trivial hK hP76 hDa za_r_behindUnit hS76 hA [0, 5] [4] (by decide +kernel) ⟨hx, hb, hml, hown, hts⟩ (r_goOn l dC dI H76.size p0 o_77 p0_text c_p0_text b_p0_text en siz ho_81 ((hf_82.u (by decide) fr_fz_p0_1)) ((hf_82.u (by decide) fh_fz_p0_7)) ((hf_82.u (by decide) fh_fz_p0_3)) ((by omega))) rfl rfl (cwV 0 hts (p1_gV m_20 m_21 m_22 m_3 g_r_goOn gz_r_goOn) rfl rfl rfl (by decide +kernel) ⟨by decide, by decide⟩) (va_recv hK hP76 (ci := 8) (q0 := 0) rfl rfl) zm_r_goOn rfl hl.1 rfl (Nat.le_of_ble_eq_true rfl) dX9_behindUnit_142 ⟨by decide, by decide⟩ (fun H88 lo88 hG88 hS88 => ?_)
          obtain ⟨o_89, o_90, o_91, o_92, ho_93, hf_94, z_95, z_96, z_97, z_98, hQ88⟩ := hG88
          have to_90 := (OKX9_g6 ho_93).use z_95
          have to_91 := (OKX9_g7 ho_93).use z_96
          have to_92 := (OKX9_g8 ho_93).use z_97
          have hP88 : va_P (dC, dI) vwCl (zW_r_behindUnit p0 o_89 p0_code c_p0_code bz_p0_code p0_codeNumber c_p0_codeNumber bz_p0_codeNumber p0_eSign c_p0_eSign o_78 p0_eWhat c_p0_eWhat o_79 p0_text c_p0_text b_p0_text) H88 := hQ88
          clear hQ88 hP76 hS76
          refine lv_iconst (v := 1) hx hb dX9_behindUnit_145 (by decide) ?_
          exact q_zret hx hb hr hlocks (by decide) hS88 dX9_behindUnit_146 ⟨o_89, bz_p0_code, bz_p0_codeNumber, o_78, o_79, o_90, o_91, o_92, fk, coj, un, wij, o_80, (Or.inl ⟨rfl, Or.inr ⟨by omega, q_EI.cast (hq0.wait z_85 z_86 (z_3.2.2.op (by omega)) q_ops124) (by omega) (by omega) (by omega) (by omega)⟩⟩), ho_93, ((hf_fz_p0.tr hf_82 (by decide)).tr hf_94 (by decide)), z_95, z_96, z_97, (hf_94.u (by decide) (hf_82.u (by decide) fh_fz_p0_4)), (hf_94.u (by decide) (hf_82.u (by decide) fv_fz_p0_45)), (hf_94.u (by decide) (hf_82.u (by decide) fh_fz_p0_46)), (hf_94.u (by decide) (hf_82.u (by decide) fv_fz_p0_47)), (hf_94.u (by decide) z_83), (by omega), (by omega), (by omega), hq1, (by omega), (by omega), hP88, za_r_behindUnit⟩
      · have tc_46 := q_eqN c_46
        refine lv_bipush (v := 38) hx hb dX9_behindUnit_115 (by decide) (lv_goto (tgt := 138) hx hb dX9_behindUnit_117 (by decide) ?_)
        refine q_cVv (As := [.int r_1, .int 38]) (rest := []) q_w0 trivial hK hP5 hDa za_r_behindUnit hS5 hA [0, 3, 4] [2, 3] (by decide +kernel) ⟨hx, hb, hml, hown, hts⟩ (r_pushE l dC dI H5.size p0 fz_p0 p0_eSign c_p0_eSign b_p0_eSign p0_eWhat c_p0_eWhat b_p0_eWhat r_1 38 pij ho_fz_p0 fr_fz_p0_40 fr_fz_p0_41 fv_fz_p0_48 ((by omega))) rfl rfl (cwV 2 hts (p1_gV m_17 m_18 m_19 m_3 g_r_pushE gz_r_pushE) rfl rfl rfl (by decide +kernel) ⟨by decide, by decide⟩) (va_recv hK hP5 (ci := 8) (q0 := 0) rfl rfl) zm_r_pushE rfl hl.1 rfl (Nat.le_of_ble_eq_true rfl) dX9_behindUnit_138 ⟨by decide, by decide⟩ (fun H100 lo100 hG100 hS100 => ?_)
        obtain ⟨o_101, o_102, o_103, o_104, ho_105, hf_106, z_107, z_108, z_109, z_110, hQ100⟩ := hG100
        have hP100 : va_P (dC, dI) vwCl (zW_r_behindUnit p0 o_101 p0_code c_p0_code bz_p0_code p0_codeNumber c_p0_codeNumber bz_p0_codeNumber p0_eSign c_p0_eSign o_102 p0_eWhat c_p0_eWhat o_103 p0_text c_p0_text b_p0_text) H100 := hQ100
        clear hQ100 hP5 hS5
        refine lv_aload_n hx hb dX9_behindUnit_141 rfl (lv_at hl 1 rfl) ?_
        refine q_cVv (As := []) (rest := []) q_w0 trivial hK hP100 hDa za_r_behindUnit hS100 hA [0, 5] [4] (by decide +kernel) ⟨hx, hb, hml, hown, hts⟩ (r_goOn l dC dI H100.size p0 o_101 p0_text c_p0_text b_p0_text en siz ho_105 ((hf_106.u (by decide) fr_fz_p0_1)) ((hf_106.u (by decide) fh_fz_p0_7)) ((hf_106.u (by decide) fh_fz_p0_3)) ((by omega))) rfl rfl (cwV 0 hts (p1_gV m_20 m_21 m_22 m_3 g_r_goOn gz_r_goOn) rfl rfl rfl (by decide +kernel) ⟨by decide, by decide⟩) (va_recv hK hP100 (ci := 8) (q0 := 0) rfl rfl) zm_r_goOn rfl hl.1 rfl (Nat.le_of_ble_eq_true rfl) dX9_behindUnit_142 ⟨by decide, by decide⟩ (fun H112 lo112 hG112 hS112 => ?_)
        obtain ⟨o_113, o_114, o_115, o_116, ho_117, hf_118, z_119, z_120, z_121, z_122, hQ112⟩ := hG112
        have to_114 := (OKX9_g6 ho_117).use z_119
        have to_115 := (OKX9_g7 ho_117).use z_120
        have to_116 := (OKX9_g8 ho_117).use z_121
        have hP112 : va_P (dC, dI) vwCl (zW_r_behindUnit p0 o_113 p0_code c_p0_code bz_p0_code p0_codeNumber c_p0_codeNumber bz_p0_codeNumber p0_eSign c_p0_eSign o_102 p0_eWhat c_p0_eWhat o_103 p0_text c_p0_text b_p0_text) H112 := hQ112
        clear hQ112 hP100 hS100
        refine lv_iconst (v := 1) hx hb dX9_behindUnit_145 (by decide) ?_
        exact q_zret hx hb hr hlocks (by decide) hS112 dX9_behindUnit_146 ⟨o_113, bz_p0_code, bz_p0_codeNumber, o_102, o_103, o_114, o_115, o_116, fk, coj, un, wij, o_104, (Or.inl ⟨rfl, Or.inr ⟨by omega, q_EI.cast (hq0.wait z_109 z_110 (z_3.2.2.op (by omega)) q_ops38) (by omega) (by omega) (by omega) (by omega)⟩⟩), ho_117, ((hf_fz_p0.tr hf_106 (by decide)).tr hf_118 (by decide)), z_119, z_120, z_121, (hf_118.u (by decide) (hf_106.u (by decide) fh_fz_p0_4)), (hf_118.u (by decide) (hf_106.u (by decide) fv_fz_p0_45)), (hf_118.u (by decide) (hf_106.u (by decide) fh_fz_p0_46)), (hf_118.u (by decide) (hf_106.u (by decide) fv_fz_p0_47)), (hf_118.u (by decide) z_107), (by omega), (by omega), (by omega), hq1, (by omega), (by omega), hP112, za_r_behindUnit⟩
  refine lv_iload_n hx hb dX9_behindUnit_5 rfl (lv_at hl 0 rfl) (lv_iconst (v := 4) hx hb dX9_behindUnit_6 (by decide) ?_)
  refine lv_icmp_ne (tgt := 23) hx hb dX9_behindUnit_7 (by decide) (fun c_123 => ?_) (fun c_123 => ?_)
  · have tc_123 := q_ne c_123
    have key23 : ∀ (fu23 : Nat) (fz_p0 : List Value) (cov : Int32) (wiv : Int32) (piv : Int32) (bz_p0_code : Nat → Int32) (bz_p0_codeNumber : Nat → Int32) (H : Heap) (locs : List Loc) (ls : Array Slot) (hfu23 : piv.toInt ≤ (fu23 : Int)) (ho_fz_p0 : OKX9 fz_p0) (hf_fz_p0 : q_fr [4, 5, 6, 7, 8, 9, 10, 45, 47, 48] f_p0 fz_p0) (fr_fz_p0_1 : q_rf fz_p0 1 p0_text) (fh_fz_p0_3 : q_if fz_p0 3 siz) (fh_fz_p0_4 : q_if fz_p0 4 fk) (fh_fz_p0_6 : q_if fz_p0 6 at0) (fh_fz_p0_7 : q_if fz_p0 7 en) (fh_fz_p0_8 : q_if fz_p0 8 tk) (fr_fz_p0_38 : q_rf fz_p0 38 p0_code) (fr_fz_p0_39 : q_rf fz_p0 39 p0_codeNumber) (fr_fz_p0_40 : q_rf fz_p0 40 p0_eWhat) (fr_fz_p0_41 : q_rf fz_p0 41 p0_eSign) (fh_fz_p0_44 : q_if fz_p0 44 rb) (fv_fz_p0_45 : q_if fz_p0 45 cov) (tcov : (0) ≤ cov.toInt ∧ cov.toInt ≤ 1800) (fh_fz_p0_46 : q_if fz_p0 46 un) (fv_fz_p0_47 : q_if fz_p0 47 wiv) (twiv : (0) ≤ wiv.toInt ∧ wiv.toInt ≤ 7) (fv_fz_p0_48 : q_if fz_p0 48 piv) (tpiv : (0) ≤ piv.toInt ∧ piv.toInt ≤ 119) (hq23_0 : q_EI 1 piv.toInt.toNat rb.toInt cov.toInt un.toInt wiv.toInt bas b_p0_eWhat b_p0_eSign bz_p0_code) (hq23_1 : q_offc bas rb b_p0_code bz_p0_code) (hq23_2 : 1 ≤ piv.toInt ∧ piv.toInt ≤ pi.toInt), va_P (dC, dI) vwCl (zW_r_behindUnit p0 fz_p0 p0_code c_p0_code bz_p0_code p0_codeNumber c_p0_codeNumber bz_p0_codeNumber p0_eSign c_p0_eSign b_p0_eSign p0_eWhat c_p0_eWhat b_p0_eWhat p0_text c_p0_text b_p0_text) H → va_S A s.heap H locs → lv_has ls 2 [(1, .int r_1), (0, .ref p0)] → W p l e (headSpec zw_r_behindUnit { frames := 3, cells := 0, slots := 0, locals := 65 }).room s m ([.ref p0] : List Value).toArray below meth c H locs 0 0 (MQ below (q_Qi (dC, dI) (zG_r_behindUnit p0 f_p0 p0_code c_p0_code b_p0_code p0_codeNumber c_p0_codeNumber b_p0_codeNumber p0_eSign c_p0_eSign b_p0_eSign p0_eWhat c_p0_eWhat b_p0_eWhat p0_text c_p0_text b_p0_text at0 en tk siz fk co un wi pi rb bas) (zA_r_behindUnit p0 p0_code p0_codeNumber p0_eSign p0_eWhat p0_text) A) ([.ref p0] : List Value).toArray s 0 0 A) (F0 m 23 ls []) := by
      intro fu23
      induction fu23 using Nat.strongRecOn with
      | ind fu23 ih23 =>
        intro fz_p0 cov wiv piv bz_p0_code bz_p0_codeNumber H124 lo124 ls hfu23 ho_fz_p0 hf_fz_p0 fr_fz_p0_1 fh_fz_p0_3 fh_fz_p0_4 fh_fz_p0_6 fh_fz_p0_7 fh_fz_p0_8 fr_fz_p0_38 fr_fz_p0_39 fr_fz_p0_40 fr_fz_p0_41 fh_fz_p0_44 fv_fz_p0_45 tcov fh_fz_p0_46 fv_fz_p0_47 twiv fv_fz_p0_48 tpiv hq23_0 hq23_1 hq23_2 hP124 hS124 hl
        have hbd23 := hq23_0.bd
        refine lv_aload_n hx hb dX9_behindUnit_23 rfl (lv_at hl 1 rfl) (qg_X9_40 hx hb hts i_X9 hown hK hP124 0 rfl k_5 fr_fz_p0_40 dX9_behindUnit_24 (lv_aload_n hx hb dX9_behindUnit_27 rfl (lv_at hl 1 rfl) (qg_X9_48 hx hb hts i_X9 hown hK hP124 0 rfl k_4 fv_fz_p0_48 dX9_behindUnit_28 (lv_iconst (v := 1) hx hb dX9_behindUnit_31 (by decide) (lv_isub hx hb dX9_behindUnit_32 (lv_topi fun v_125 ev_125 => ?_))))))
        have tv_125 := q_sub ev_125 (by omega) (by omega)
        refine q_ild hx hb hK hP124 4 3 rfl rfl (q_in (by omega) (by omega)) dX9_behindUnit_33 (fun v_126 ev_126 => ?_)
        have kv_126 := q_ix (n := (piv.toInt - 1).toNat) ev_126 (by omega) (by omega)
        have uv_126 : v_126.toInt = (b_p0_eWhat (piv.toInt - 1).toNat).toInt := by rw [kv_126]
        have htopv_126 := (q_EI.cast hq23_0 (p' := (piv.toInt - 1).toNat + 1) (by omega) rfl rfl rfl).top kv_126
        refine lv_bipush (v := 6) hx hb dX9_behindUnit_34 (by decide) ?_
        refine lv_icmp_gt (tgt := 104) hx hb dX9_behindUnit_36 (by decide) (fun c_127 => ?_) (fun c_127 => ?_)
        · have tc_127 := q_gt c_127
          exact jn_4 fz_p0 cov wiv piv bz_p0_code bz_p0_codeNumber _ _ _ ho_fz_p0 hf_fz_p0 fr_fz_p0_1 fh_fz_p0_3 fh_fz_p0_4 fh_fz_p0_6 fh_fz_p0_7 fh_fz_p0_8 fr_fz_p0_38 fr_fz_p0_39 fr_fz_p0_40 fr_fz_p0_41 fh_fz_p0_44 fv_fz_p0_45 (by omega) fh_fz_p0_46 fv_fz_p0_47 (by omega) fv_fz_p0_48 (by omega) hq23_0 hq23_1 (by omega) (by omega) hP124 hS124 (lv_sub hl [0, 1] rfl)
        · have tc_127 := q_leN c_127
          refine lv_aload_n hx hb dX9_behindUnit_39 rfl (lv_at hl 1 rfl) (qg_X9_40 hx hb hts i_X9 hown hK hP124 0 rfl k_5 fr_fz_p0_40 dX9_behindUnit_40 (lv_aload_n hx hb dX9_behindUnit_43 rfl (lv_at hl 1 rfl) (qg_X9_48 hx hb hts i_X9 hown hK hP124 0 rfl k_4 fv_fz_p0_48 dX9_behindUnit_44 (lv_iconst (v := 1) hx hb dX9_behindUnit_47 (by decide) (lv_isub hx hb dX9_behindUnit_48 (lv_topi fun v_128 ev_128 => ?_))))))
          have tv_128 := q_sub ev_128 (by omega) (by omega)
          refine q_ild hx hb hK hP124 4 3 rfl rfl (q_in (by omega) (by omega)) dX9_behindUnit_49 (fun v_129 ev_129 => ?_)
          have kv_129 := q_ix (n := (piv.toInt - 1).toNat) ev_129 (by omega) (by omega)
          have uv_129 : v_129.toInt = (b_p0_eWhat (piv.toInt - 1).toNat).toInt := by rw [kv_129]
          have htopv_129 := (q_EI.cast hq23_0 (p' := (piv.toInt - 1).toNat + 1) (by omega) rfl rfl rfl).top kv_129
          refine lv_iload_n hx hb dX9_behindUnit_50 rfl (lv_at hl 0 rfl) ?_
          refine lv_icmp_lt (tgt := 104) hx hb dX9_behindUnit_51 (by decide) (fun c_130 => ?_) (fun c_130 => ?_)
          · have tc_130 := q_lt c_130
            exact jn_4 fz_p0 cov wiv piv bz_p0_code bz_p0_codeNumber _ _ _ ho_fz_p0 hf_fz_p0 fr_fz_p0_1 fh_fz_p0_3 fh_fz_p0_4 fh_fz_p0_6 fh_fz_p0_7 fh_fz_p0_8 fr_fz_p0_38 fr_fz_p0_39 fr_fz_p0_40 fr_fz_p0_41 fh_fz_p0_44 fv_fz_p0_45 (by omega) fh_fz_p0_46 fv_fz_p0_47 (by omega) fv_fz_p0_48 (by omega) hq23_0 hq23_1 (by omega) (by omega) hP124 hS124 (lv_sub hl [0, 1] rfl)
          · have tc_130 := q_geN c_130
            refine lv_aload_n hx hb dX9_behindUnit_54 rfl (lv_at hl 1 rfl) (lv_dup hx hb dX9_behindUnit_55 rfl (qg_X9_48 hx hb hts i_X9 hown hK hP124 0 rfl k_4 fv_fz_p0_48 dX9_behindUnit_56 (lv_iconst (v := 1) hx hb dX9_behindUnit_59 (by decide) (lv_isub hx hb dX9_behindUnit_60 (lv_topi fun v_131 ev_131 => ?_)))))
            have tv_131 := q_sub ev_131 (by omega) (by omega)
            refine qp_X9_48 hx hb hts i_X9 hown hK hP124 hDa za_r_behindUnit hS124 0 rfl k_4 (OKX9_l ho_fz_p0) dX9_behindUnit_61 (fun H132 lo132 fs132 efs132 (hP132 : va_P (dC, dI) vwCl (zW_r_behindUnit p0 fs132 p0_code c_p0_code bz_p0_code p0_codeNumber c_p0_codeNumber bz_p0_codeNumber p0_eSign c_p0_eSign b_p0_eSign p0_eWhat c_p0_eWhat b_p0_eWhat p0_text c_p0_text b_p0_text) H132) hS132 => ?_)
            have ho132 := OKX9_p48 ho_fz_p0 efs132
            clear hP124 hS124
            refine lv_aload_n hx hb dX9_behindUnit_64 rfl (lv_at hl 1 rfl) (qg_X9_40 hx hb hts i_X9 hown hK hP132 0 rfl k_5 (q_sn efs132 (by decide) fr_fz_p0_40) dX9_behindUnit_65 (lv_aload_n hx hb dX9_behindUnit_68 rfl (lv_at hl 1 rfl) (qg_X9_48 hx hb hts i_X9 hown hK hP132 0 rfl k_4 (q_sa efs132 (OKX9_l ho_fz_p0) (by decide)) dX9_behindUnit_69 (q_ild hx hb hK hP132 4 3 rfl rfl (q_in (by omega) (by omega)) dX9_behindUnit_72 (fun v_133 ev_133 => ?_)))))
            have kv_133 := q_ix (n := (piv.toInt - 1).toNat) ev_133 (by omega) (by omega)
            have uv_133 : v_133.toInt = (b_p0_eWhat (piv.toInt - 1).toNat).toInt := by rw [kv_133]
            have htopv_133 := (q_EI.cast hq23_0 (p' := (piv.toInt - 1).toNat + 1) (by omega) rfl rfl rfl).top kv_133
            refine lv_iconst (v := 3) hx hb dX9_behindUnit_73 (by decide) ?_
            refine lv_icmp_ne (tgt := 87) hx hb dX9_behindUnit_74 (by decide) (fun c_134 => ?_) (fun c_134 => ?_)
            · have tc_134 := q_ne c_134
              refine lv_aload_n hx hb dX9_behindUnit_87 rfl (lv_at hl 1 rfl) (lv_aload_n hx hb dX9_behindUnit_88 rfl (lv_at hl 1 rfl) (qg_X9_41 hx hb hts i_X9 hown hK hP132 0 rfl k_23 (q_sn efs132 (by decide) fr_fz_p0_41) dX9_behindUnit_89 (lv_aload_n hx hb dX9_behindUnit_92 rfl (lv_at hl 1 rfl) (qg_X9_48 hx hb hts i_X9 hown hK hP132 0 rfl k_4 (q_sa efs132 (OKX9_l ho_fz_p0) (by decide)) dX9_behindUnit_93 (q_ild hx hb hK hP132 3 2 rfl rfl (q_in (by omega) (by omega)) dX9_behindUnit_96 (fun v_135 ev_135 => ?_))))))
              have kv_135 := q_ix (n := (piv.toInt - 1).toNat) ev_135 (by omega) (by omega)
              have uv_135 : v_135.toInt = (b_p0_eSign (piv.toInt - 1).toNat).toInt := by rw [kv_135]
              refine lv_iconst (v := 0) hx hb dX9_behindUnit_97 (by decide) ?_
              refine q_cVv (As := [.int v_135, .int 0]) (rest := []) q_w0 trivial hK hP132 hDa za_r_behindUnit hS132 hA [0, 1, 2] [0, 1] (by decide +kernel) ⟨hx, hb, hml, hown, hts⟩ (r_emit l dC dI H132.size p0 fs132 p0_code c_p0_code bz_p0_code p0_codeNumber c_p0_codeNumber bz_p0_codeNumber v_135 0 cov ho132 ((q_sn efs132 (by decide) fr_fz_p0_38)) ((q_sn efs132 (by decide) fr_fz_p0_39)) ((q_sn efs132 (by decide) fv_fz_p0_45)) ((by omega))) rfl rfl (cwV 2 hts (p1_gV m_24 m_25 m_26 m_3 g_r_emit gz_r_emit) rfl rfl rfl (by decide +kernel) ⟨by decide, by decide⟩) (va_recv hK hP132 (ci := 8) (q0 := 0) rfl rfl) zm_r_emit rfl hl.1 rfl (Nat.le_of_ble_eq_true rfl) dX9_behindUnit_98 ⟨by decide, by decide⟩ (fun H137 lo137 hG137 hS137 => ?_)
              obtain ⟨o_138, o_139, o_140, o_141, ho_142, hf_143, z_144, z_145, z_146, hQ137⟩ := hG137
              have hP137 : va_P (dC, dI) vwCl (zW_r_behindUnit p0 o_138 p0_code c_p0_code o_139 p0_codeNumber c_p0_codeNumber o_140 p0_eSign c_p0_eSign b_p0_eSign p0_eWhat c_p0_eWhat b_p0_eWhat p0_text c_p0_text b_p0_text) H137 := hQ137
              clear hQ137 hP132 hS132
              refine lv_goto (tgt := 23) hx hb dX9_behindUnit_101 (by decide) ?_
              have hEn := q_EI.cast (q_EI.pop (p := (piv.toInt - 1).toNat) (wi' := wiv.toInt) (q_EI.cast hq23_0 (by omega) rfl rfl rfl) kv_133 kv_135 (by omega) z_146 (by rw [if_neg (by omega)])) (p' := v_131.toInt.toNat) (co' := o_141.toInt) (by omega) (by omega) rfl rfl
              have hbn := hEn.bd
              exact ih23 (fu23 - 1) (by omega) o_138 o_141 wiv v_131 o_139 o_140 _ _ _ (by omega) ho_142 ((hf_fz_p0.st efs132 (by decide)).tr hf_143 (by decide)) (hf_143.u (by decide) (q_sn efs132 (by decide) fr_fz_p0_1)) (hf_143.u (by decide) (q_sn efs132 (by decide) fh_fz_p0_3)) (hf_143.u (by decide) (q_sn efs132 (by decide) fh_fz_p0_4)) (hf_143.u (by decide) (q_sn efs132 (by decide) fh_fz_p0_6)) (hf_143.u (by decide) (q_sn efs132 (by decide) fh_fz_p0_7)) (hf_143.u (by decide) (q_sn efs132 (by decide) fh_fz_p0_8)) (hf_143.u (by decide) (q_sn efs132 (by decide) fr_fz_p0_38)) (hf_143.u (by decide) (q_sn efs132 (by decide) fr_fz_p0_39)) (hf_143.u (by decide) (q_sn efs132 (by decide) fr_fz_p0_40)) (hf_143.u (by decide) (q_sn efs132 (by decide) fr_fz_p0_41)) (hf_143.u (by decide) (q_sn efs132 (by decide) fh_fz_p0_44)) z_144 (by omega) (hf_143.u (by decide) (q_sn efs132 (by decide) fh_fz_p0_46)) (hf_143.u (by decide) (q_sn efs132 (by decide) fv_fz_p0_47)) (by omega) (hf_143.u (by decide) (q_sa efs132 (OKX9_l ho_fz_p0) (by decide))) (by omega) hEn (hq23_1.up z_146 (by omega) (by omega)) (by omega) hP137 hS137 (lv_sub hl [0, 1] rfl)
            · have tc_134 := q_eqN c_134
              refine lv_aload_n hx hb dX9_behindUnit_77 rfl (lv_at hl 1 rfl) (lv_dup hx hb dX9_behindUnit_78 rfl (qg_X9_47 hx hb hts i_X9 hown hK hP132 0 rfl k_6 (q_sn efs132 (by decide) fv_fz_p0_47) dX9_behindUnit_79 (lv_iconst (v := 1) hx hb dX9_behindUnit_82 (by decide) (lv_isub hx hb dX9_behindUnit_83 (lv_topi fun v_147 ev_147 => ?_)))))
              have tv_147 := q_sub ev_147 (by omega) (by omega)
              refine qp_X9_47 hx hb hts i_X9 hown hK hP132 hDa za_r_behindUnit hS132 0 rfl k_6 (OKX9_l ho132) dX9_behindUnit_84 (fun H148 lo148 fs148 efs148 (hP148 : va_P (dC, dI) vwCl (zW_r_behindUnit p0 fs148 p0_code c_p0_code bz_p0_code p0_codeNumber c_p0_codeNumber bz_p0_codeNumber p0_eSign c_p0_eSign b_p0_eSign p0_eWhat c_p0_eWhat b_p0_eWhat p0_text c_p0_text b_p0_text) H148) hS148 => ?_)
              have ho148 := OKX9_p47 ho132 efs148
              clear hP132 hS132
              refine lv_aload_n hx hb dX9_behindUnit_87 rfl (lv_at hl 1 rfl) (lv_aload_n hx hb dX9_behindUnit_88 rfl (lv_at hl 1 rfl) (qg_X9_41 hx hb hts i_X9 hown hK hP148 0 rfl k_23 (q_sn efs148 (by decide) (q_sn efs132 (by decide) fr_fz_p0_41)) dX9_behindUnit_89 (lv_aload_n hx hb dX9_behindUnit_92 rfl (lv_at hl 1 rfl) (qg_X9_48 hx hb hts i_X9 hown hK hP148 0 rfl k_4 (q_sn efs148 (by decide) (q_sa efs132 (OKX9_l ho_fz_p0) (by decide))) dX9_behindUnit_93 (q_ild hx hb hK hP148 3 2 rfl rfl (q_in (by omega) (by omega)) dX9_behindUnit_96 (fun v_149 ev_149 => ?_))))))
              have kv_149 := q_ix (n := (piv.toInt - 1).toNat) ev_149 (by omega) (by omega)
              have uv_149 : v_149.toInt = (b_p0_eSign (piv.toInt - 1).toNat).toInt := by rw [kv_149]
              refine lv_iconst (v := 0) hx hb dX9_behindUnit_97 (by decide) ?_
              refine q_cVv (As := [.int v_149, .int 0]) (rest := []) q_w0 trivial hK hP148 hDa za_r_behindUnit hS148 hA [0, 1, 2] [0, 1] (by decide +kernel) ⟨hx, hb, hml, hown, hts⟩ (r_emit l dC dI H148.size p0 fs148 p0_code c_p0_code bz_p0_code p0_codeNumber c_p0_codeNumber bz_p0_codeNumber v_149 0 cov ho148 ((q_sn efs148 (by decide) (q_sn efs132 (by decide) fr_fz_p0_38))) ((q_sn efs148 (by decide) (q_sn efs132 (by decide) fr_fz_p0_39))) ((q_sn efs148 (by decide) (q_sn efs132 (by decide) fv_fz_p0_45))) ((by omega))) rfl rfl (cwV 2 hts (p1_gV m_24 m_25 m_26 m_3 g_r_emit gz_r_emit) rfl rfl rfl (by decide +kernel) ⟨by decide, by decide⟩) (va_recv hK hP148 (ci := 8) (q0 := 0) rfl rfl) zm_r_emit rfl hl.1 rfl (Nat.le_of_ble_eq_true rfl) dX9_behindUnit_98 ⟨by decide, by decide⟩ (fun H151 lo151 hG151 hS151 => ?_)
              obtain ⟨o_152, o_153, o_154, o_155, ho_156, hf_157, z_158, z_159, z_160, hQ151⟩ := hG151
              have hP151 : va_P (dC, dI) vwCl (zW_r_behindUnit p0 o_152 p0_code c_p0_code o_153 p0_codeNumber c_p0_codeNumber o_154 p0_eSign c_p0_eSign b_p0_eSign p0_eWhat c_p0_eWhat b_p0_eWhat p0_text c_p0_text b_p0_text) H151 := hQ151
              clear hQ151 hP148 hS148
              refine lv_goto (tgt := 23) hx hb dX9_behindUnit_101 (by decide) ?_
              have hEn := q_EI.cast (q_EI.pop (p := (piv.toInt - 1).toNat) (wi' := v_147.toInt) (q_EI.cast hq23_0 (by omega) rfl rfl rfl) kv_133 kv_149 (by omega) z_160 (by rw [if_pos (by omega)]; omega)) (p' := v_131.toInt.toNat) (co' := o_155.toInt) (by omega) (by omega) rfl rfl
              have hbn := hEn.bd
              exact ih23 (fu23 - 1) (by omega) o_152 o_155 v_147 v_131 o_153 o_154 _ _ _ (by omega) ho_156 (((hf_fz_p0.st efs132 (by decide)).st efs148 (by decide)).tr hf_157 (by decide)) (hf_157.u (by decide) (q_sn efs148 (by decide) (q_sn efs132 (by decide) fr_fz_p0_1))) (hf_157.u (by decide) (q_sn efs148 (by decide) (q_sn efs132 (by decide) fh_fz_p0_3))) (hf_157.u (by decide) (q_sn efs148 (by decide) (q_sn efs132 (by decide) fh_fz_p0_4))) (hf_157.u (by decide) (q_sn efs148 (by decide) (q_sn efs132 (by decide) fh_fz_p0_6))) (hf_157.u (by decide) (q_sn efs148 (by decide) (q_sn efs132 (by decide) fh_fz_p0_7))) (hf_157.u (by decide) (q_sn efs148 (by decide) (q_sn efs132 (by decide) fh_fz_p0_8))) (hf_157.u (by decide) (q_sn efs148 (by decide) (q_sn efs132 (by decide) fr_fz_p0_38))) (hf_157.u (by decide) (q_sn efs148 (by decide) (q_sn efs132 (by decide) fr_fz_p0_39))) (hf_157.u (by decide) (q_sn efs148 (by decide) (q_sn efs132 (by decide) fr_fz_p0_40))) (hf_157.u (by decide) (q_sn efs148 (by decide) (q_sn efs132 (by decide) fr_fz_p0_41))) (hf_157.u (by decide) (q_sn efs148 (by decide) (q_sn efs132 (by decide) fh_fz_p0_44))) z_158 (by omega) (hf_157.u (by decide) (q_sn efs148 (by decide) (q_sn efs132 (by decide) fh_fz_p0_46))) (hf_157.u (by decide) (q_sa efs148 (OKX9_l ho132) (by decide))) (by omega) (hf_157.u (by decide) (q_sn efs148 (by decide) (q_sa efs132 (OKX9_l ho_fz_p0) (by decide)))) (by omega) hEn (hq23_1.up z_160 (by omega) (by omega)) (by omega) hP151 hS151 (lv_sub hl [0, 1] rfl)
    exact key23 119 f_p0 co wi pi b_p0_code b_p0_codeNumber _ _ _ (by omega) ho_p0 q_fr.rf fr_p0_1 pf_siz pf_fk pf_at0 pf_en pf_tk fr_p0_38 fr_p0_39 fr_p0_40 fr_p0_41 pf_rb pf_co (by omega) pf_un pf_wi (by omega) pf_pi (by omega) hEI q_offc.rf (by omega) hP2 hS2 (lv_sub hl [0, 1] rfl)
  · have tc_123 := q_eqN c_123
    refine lv_aload_n hx hb dX9_behindUnit_10 rfl (lv_at hl 1 rfl) ?_
    refine q_cVi (As := []) (rest := []) q_w0 trivial hK hP2 hDa za_r_behindUnit hS2 hA [0, 4] [3] (by decide +kernel) ⟨hx, hb, hml, hown, hts⟩ (r_isCompared l dC dI H2.size p0 f_p0 p0_eWhat c_p0_eWhat b_p0_eWhat pi ho_p0 fr_p0_40 pf_pi ((by omega)) hEI.h8) rfl rfl (cwV 0 hts (p1_gV m_27 m_28 m_29 m_3 g_r_isCompared gz_r_isCompared) rfl rfl rfl (by decide +kernel) ⟨by decide, by decide⟩) (va_recv hK hP2 (ci := 8) (q0 := 0) rfl rfl) zm_r_isCompared rfl hl.1 rfl (Nat.le_of_ble_eq_true rfl) dX9_behindUnit_11 ⟨by decide, by decide⟩ (fun r_161 H162 lo162 hG162 hS162 => ?_)
    obtain ⟨z_163, hQ162⟩ := hG162
    have hP162 : va_P (dC, dI) vwCl (zW_r_behindUnit p0 f_p0 p0_code c_p0_code b_p0_code p0_codeNumber c_p0_codeNumber b_p0_codeNumber p0_eSign c_p0_eSign b_p0_eSign p0_eWhat c_p0_eWhat b_p0_eWhat p0_text c_p0_text b_p0_text) H162 := hQ162
    clear hQ162 hP2 hS2
    rcases z_163 with ⟨rfl, z_163⟩ | ⟨rfl, z_163⟩
    · refine lv_if_eq (tgt := 23) hx hb dX9_behindUnit_14 (by decide) (fun c_164 => absurd c_164 (by decide)) (fun c_164 => ?_)
      refine lv_aload_n hx hb dX9_behindUnit_17 rfl (lv_at hl 1 rfl) ?_
      refine q_cVv (As := []) (rest := []) q_w0 trivial hK hP162 hDa za_r_behindUnit hS162 hA [0] [] (by decide +kernel) ⟨hx, hb, hml, hown, hts⟩ (r_misplaced l dC dI H162.size p0 f_p0 ho_p0) rfl rfl (cwV 0 hts (p1_gV m_30 m_31 m_32 m_3 g_r_misplaced gz_r_misplaced) rfl rfl rfl (by decide +kernel) ⟨by decide, by decide⟩) (va_recv hK hP162 (ci := 8) (q0 := 0) rfl rfl) zm_r_misplaced rfl hl.1 rfl (Nat.le_of_ble_eq_true rfl) dX9_behindUnit_18 ⟨by decide, by decide⟩ (fun H166 lo166 hG166 hS166 => ?_)
      obtain ⟨o_167, o_168, ho_169, hf_170, z_171, z_172, hQ166⟩ := hG166
      have to_168 := (OKX9_g4 ho_169).use z_171
      have hP166 : va_P (dC, dI) vwCl (zW_r_behindUnit p0 o_167 p0_code c_p0_code b_p0_code p0_codeNumber c_p0_codeNumber b_p0_codeNumber p0_eSign c_p0_eSign b_p0_eSign p0_eWhat c_p0_eWhat b_p0_eWhat p0_text c_p0_text b_p0_text) H166 := hQ166
      clear hQ166 hP162 hS162
      refine lv_iconst (v := 1) hx hb dX9_behindUnit_21 (by decide) ?_
      exact q_zret hx hb hr hlocks (by decide) hS166 dX9_behindUnit_22 ⟨o_167, b_p0_code, b_p0_codeNumber, b_p0_eSign, b_p0_eWhat, at0, en, tk, o_168, co, un, wi, pi, (Or.inl ⟨rfl, Or.inl (by omega)⟩), ho_169, (q_fr.rf.tr hf_170 (by decide)), (hf_170.u (by decide) pf_at0), (hf_170.u (by decide) pf_en), (hf_170.u (by decide) pf_tk), z_171, (hf_170.u (by decide) pf_co), (hf_170.u (by decide) pf_un), (hf_170.u (by decide) pf_wi), (hf_170.u (by decide) pf_pi), (by omega), (by omega), (by omega), q_offc.rf, (by omega), (by omega), hP166, za_r_behindUnit⟩
    · refine lv_if_eq (tgt := 23) hx hb dX9_behindUnit_14 (by decide) (fun c_173 => ?_) (fun c_173 => absurd c_173 (by decide))
      have key23 : ∀ (fu23 : Nat) (fz_p0 : List Value) (cov : Int32) (wiv : Int32) (piv : Int32) (bz_p0_code : Nat → Int32) (bz_p0_codeNumber : Nat → Int32) (H : Heap) (locs : List Loc) (ls : Array Slot) (hfu23 : piv.toInt ≤ (fu23 : Int)) (ho_fz_p0 : OKX9 fz_p0) (hf_fz_p0 : q_fr [4, 5, 6, 7, 8, 9, 10, 45, 47, 48] f_p0 fz_p0) (fr_fz_p0_1 : q_rf fz_p0 1 p0_text) (fh_fz_p0_3 : q_if fz_p0 3 siz) (fh_fz_p0_4 : q_if fz_p0 4 fk) (fh_fz_p0_6 : q_if fz_p0 6 at0) (fh_fz_p0_7 : q_if fz_p0 7 en) (fh_fz_p0_8 : q_if fz_p0 8 tk) (fr_fz_p0_38 : q_rf fz_p0 38 p0_code) (fr_fz_p0_39 : q_rf fz_p0 39 p0_codeNumber) (fr_fz_p0_40 : q_rf fz_p0 40 p0_eWhat) (fr_fz_p0_41 : q_rf fz_p0 41 p0_eSign) (fh_fz_p0_44 : q_if fz_p0 44 rb) (fv_fz_p0_45 : q_if fz_p0 45 cov) (tcov : (0) ≤ cov.toInt ∧ cov.toInt ≤ 1800) (fh_fz_p0_46 : q_if fz_p0 46 un) (fv_fz_p0_47 : q_if fz_p0 47 wiv) (twiv : (0) ≤ wiv.toInt ∧ wiv.toInt ≤ 7) (fv_fz_p0_48 : q_if fz_p0 48 piv) (tpiv : (0) ≤ piv.toInt ∧ piv.toInt ≤ 119) (hq23_0 : q_EI 1 piv.toInt.toNat rb.toInt cov.toInt un.toInt wiv.toInt bas b_p0_eWhat b_p0_eSign bz_p0_code) (hq23_1 : q_offc bas rb b_p0_code bz_p0_code) (hq23_2 : 1 ≤ piv.toInt ∧ piv.toInt ≤ pi.toInt), va_P (dC, dI) vwCl (zW_r_behindUnit p0 fz_p0 p0_code c_p0_code bz_p0_code p0_codeNumber c_p0_codeNumber bz_p0_codeNumber p0_eSign c_p0_eSign b_p0_eSign p0_eWhat c_p0_eWhat b_p0_eWhat p0_text c_p0_text b_p0_text) H → va_S A s.heap H locs → lv_has ls 2 [(1, .int r_1), (0, .ref p0)] → W p l e (headSpec zw_r_behindUnit { frames := 3, cells := 0, slots := 0, locals := 65 }).room s m ([.ref p0] : List Value).toArray below meth c H locs 0 0 (MQ below (q_Qi (dC, dI) (zG_r_behindUnit p0 f_p0 p0_code c_p0_code b_p0_code p0_codeNumber c_p0_codeNumber b_p0_codeNumber p0_eSign c_p0_eSign b_p0_eSign p0_eWhat c_p0_eWhat b_p0_eWhat p0_text c_p0_text b_p0_text at0 en tk siz fk co un wi pi rb bas) (zA_r_behindUnit p0 p0_code p0_codeNumber p0_eSign p0_eWhat p0_text) A) ([.ref p0] : List Value).toArray s 0 0 A) (F0 m 23 ls []) := by
        intro fu23
        induction fu23 using Nat.strongRecOn with
        | ind fu23 ih23 =>
          intro fz_p0 cov wiv piv bz_p0_code bz_p0_codeNumber H174 lo174 ls hfu23 ho_fz_p0 hf_fz_p0 fr_fz_p0_1 fh_fz_p0_3 fh_fz_p0_4 fh_fz_p0_6 fh_fz_p0_7 fh_fz_p0_8 fr_fz_p0_38 fr_fz_p0_39 fr_fz_p0_40 fr_fz_p0_41 fh_fz_p0_44 fv_fz_p0_45 tcov fh_fz_p0_46 fv_fz_p0_47 twiv fv_fz_p0_48 tpiv hq23_0 hq23_1 hq23_2 hP174 hS174 hl
          have hbd23 := hq23_0.bd
          refine lv_aload_n hx hb dX9_behindUnit_23 rfl (lv_at hl 1 rfl) (qg_X9_40 hx hb hts i_X9 hown hK hP174 0 rfl k_5 fr_fz_p0_40 dX9_behindUnit_24 (lv_aload_n hx hb dX9_behindUnit_27 rfl (lv_at hl 1 rfl) (qg_X9_48 hx hb hts i_X9 hown hK hP174 0 rfl k_4 fv_fz_p0_48 dX9_behindUnit_28 (lv_iconst (v := 1) hx hb dX9_behindUnit_31 (by decide) (lv_isub hx hb dX9_behindUnit_32 (lv_topi fun v_175 ev_175 => ?_))))))
          have tv_175 := q_sub ev_175 (by omega) (by omega)
          refine q_ild hx hb hK hP174 4 3 rfl rfl (q_in (by omega) (by omega)) dX9_behindUnit_33 (fun v_176 ev_176 => ?_)
          have kv_176 := q_ix (n := (piv.toInt - 1).toNat) ev_176 (by omega) (by omega)
          have uv_176 : v_176.toInt = (b_p0_eWhat (piv.toInt - 1).toNat).toInt := by rw [kv_176]
          have htopv_176 := (q_EI.cast hq23_0 (p' := (piv.toInt - 1).toNat + 1) (by omega) rfl rfl rfl).top kv_176
          refine lv_bipush (v := 6) hx hb dX9_behindUnit_34 (by decide) ?_
          refine lv_icmp_gt (tgt := 104) hx hb dX9_behindUnit_36 (by decide) (fun c_177 => ?_) (fun c_177 => ?_)
          · have tc_177 := q_gt c_177
            exact jn_4 fz_p0 cov wiv piv bz_p0_code bz_p0_codeNumber _ _ _ ho_fz_p0 hf_fz_p0 fr_fz_p0_1 fh_fz_p0_3 fh_fz_p0_4 fh_fz_p0_6 fh_fz_p0_7 fh_fz_p0_8 fr_fz_p0_38 fr_fz_p0_39 fr_fz_p0_40 fr_fz_p0_41 fh_fz_p0_44 fv_fz_p0_45 (by omega) fh_fz_p0_46 fv_fz_p0_47 (by omega) fv_fz_p0_48 (by omega) hq23_0 hq23_1 (by omega) (by omega) hP174 hS174 (lv_sub hl [0, 1] rfl)
          · have tc_177 := q_leN c_177
            refine lv_aload_n hx hb dX9_behindUnit_39 rfl (lv_at hl 1 rfl) (qg_X9_40 hx hb hts i_X9 hown hK hP174 0 rfl k_5 fr_fz_p0_40 dX9_behindUnit_40 (lv_aload_n hx hb dX9_behindUnit_43 rfl (lv_at hl 1 rfl) (qg_X9_48 hx hb hts i_X9 hown hK hP174 0 rfl k_4 fv_fz_p0_48 dX9_behindUnit_44 (lv_iconst (v := 1) hx hb dX9_behindUnit_47 (by decide) (lv_isub hx hb dX9_behindUnit_48 (lv_topi fun v_178 ev_178 => ?_))))))
            have tv_178 := q_sub ev_178 (by omega) (by omega)
            refine q_ild hx hb hK hP174 4 3 rfl rfl (q_in (by omega) (by omega)) dX9_behindUnit_49 (fun v_179 ev_179 => ?_)
            have kv_179 := q_ix (n := (piv.toInt - 1).toNat) ev_179 (by omega) (by omega)
            have uv_179 : v_179.toInt = (b_p0_eWhat (piv.toInt - 1).toNat).toInt := by rw [kv_179]
            have htopv_179 := (q_EI.cast hq23_0 (p' := (piv.toInt - 1).toNat + 1) (by omega) rfl rfl rfl).top kv_179
            refine lv_iload_n hx hb dX9_behindUnit_50 rfl (lv_at hl 0 rfl) ?_
            refine lv_icmp_lt (tgt := 104) hx hb dX9_behindUnit_51 (by decide) (fun c_180 => ?_) (fun c_180 => ?_)
            · have tc_180 := q_lt c_180
              exact jn_4 fz_p0 cov wiv piv bz_p0_code bz_p0_codeNumber _ _ _ ho_fz_p0 hf_fz_p0 fr_fz_p0_1 fh_fz_p0_3 fh_fz_p0_4 fh_fz_p0_6 fh_fz_p0_7 fh_fz_p0_8 fr_fz_p0_38 fr_fz_p0_39 fr_fz_p0_40 fr_fz_p0_41 fh_fz_p0_44 fv_fz_p0_45 (by omega) fh_fz_p0_46 fv_fz_p0_47 (by omega) fv_fz_p0_48 (by omega) hq23_0 hq23_1 (by omega) (by omega) hP174 hS174 (lv_sub hl [0, 1] rfl)
            · have tc_180 := q_geN c_180
              refine lv_aload_n hx hb dX9_behindUnit_54 rfl (lv_at hl 1 rfl) (lv_dup hx hb dX9_behindUnit_55 rfl (qg_X9_48 hx hb hts i_X9 hown hK hP174 0 rfl k_4 fv_fz_p0_48 dX9_behindUnit_56 (lv_iconst (v := 1) hx hb dX9_behindUnit_59 (by decide) (lv_isub hx hb dX9_behindUnit_60 (lv_topi fun v_181 ev_181 => ?_)))))
              have tv_181 := q_sub ev_181 (by omega) (by omega)
              refine qp_X9_48 hx hb hts i_X9 hown hK hP174 hDa za_r_behindUnit hS174 0 rfl k_4 (OKX9_l ho_fz_p0) dX9_behindUnit_61 (fun H182 lo182 fs182 efs182 (hP182 : va_P (dC, dI) vwCl (zW_r_behindUnit p0 fs182 p0_code c_p0_code bz_p0_code p0_codeNumber c_p0_codeNumber bz_p0_codeNumber p0_eSign c_p0_eSign b_p0_eSign p0_eWhat c_p0_eWhat b_p0_eWhat p0_text c_p0_text b_p0_text) H182) hS182 => ?_)
              have ho182 := OKX9_p48 ho_fz_p0 efs182
              clear hP174 hS174
              refine lv_aload_n hx hb dX9_behindUnit_64 rfl (lv_at hl 1 rfl) (qg_X9_40 hx hb hts i_X9 hown hK hP182 0 rfl k_5 (q_sn efs182 (by decide) fr_fz_p0_40) dX9_behindUnit_65 (lv_aload_n hx hb dX9_behindUnit_68 rfl (lv_at hl 1 rfl) (qg_X9_48 hx hb hts i_X9 hown hK hP182 0 rfl k_4 (q_sa efs182 (OKX9_l ho_fz_p0) (by decide)) dX9_behindUnit_69 (q_ild hx hb hK hP182 4 3 rfl rfl (q_in (by omega) (by omega)) dX9_behindUnit_72 (fun v_183 ev_183 => ?_)))))
              have kv_183 := q_ix (n := (piv.toInt - 1).toNat) ev_183 (by omega) (by omega)
              have uv_183 : v_183.toInt = (b_p0_eWhat (piv.toInt - 1).toNat).toInt := by rw [kv_183]
              have htopv_183 := (q_EI.cast hq23_0 (p' := (piv.toInt - 1).toNat + 1) (by omega) rfl rfl rfl).top kv_183
              refine lv_iconst (v := 3) hx hb dX9_behindUnit_73 (by decide) ?_
              refine lv_icmp_ne (tgt := 87) hx hb dX9_behindUnit_74 (by decide) (fun c_184 => ?_) (fun c_184 => ?_)
              · have tc_184 := q_ne c_184
                refine lv_aload_n hx hb dX9_behindUnit_87 rfl (lv_at hl 1 rfl) (lv_aload_n hx hb dX9_behindUnit_88 rfl (lv_at hl 1 rfl) (qg_X9_41 hx hb hts i_X9 hown hK hP182 0 rfl k_23 (q_sn efs182 (by decide) fr_fz_p0_41) dX9_behindUnit_89 (lv_aload_n hx hb dX9_behindUnit_92 rfl (lv_at hl 1 rfl) (qg_X9_48 hx hb hts i_X9 hown hK hP182 0 rfl k_4 (q_sa efs182 (OKX9_l ho_fz_p0) (by decide)) dX9_behindUnit_93 (q_ild hx hb hK hP182 3 2 rfl rfl (q_in (by omega) (by omega)) dX9_behindUnit_96 (fun v_185 ev_185 => ?_))))))
                have kv_185 := q_ix (n := (piv.toInt - 1).toNat) ev_185 (by omega) (by omega)
                have uv_185 : v_185.toInt = (b_p0_eSign (piv.toInt - 1).toNat).toInt := by rw [kv_185]
                refine lv_iconst (v := 0) hx hb dX9_behindUnit_97 (by decide) ?_
                refine q_cVv (As := [.int v_185, .int 0]) (rest := []) q_w0 trivial hK hP182 hDa za_r_behindUnit hS182 hA [0, 1, 2] [0, 1] (by decide +kernel) ⟨hx, hb, hml, hown, hts⟩ (r_emit l dC dI H182.size p0 fs182 p0_code c_p0_code bz_p0_code p0_codeNumber c_p0_codeNumber bz_p0_codeNumber v_185 0 cov ho182 ((q_sn efs182 (by decide) fr_fz_p0_38)) ((q_sn efs182 (by decide) fr_fz_p0_39)) ((q_sn efs182 (by decide) fv_fz_p0_45)) ((by omega))) rfl rfl (cwV 2 hts (p1_gV m_24 m_25 m_26 m_3 g_r_emit gz_r_emit) rfl rfl rfl (by decide +kernel) ⟨by decide, by decide⟩) (va_recv hK hP182 (ci := 8) (q0 := 0) rfl rfl) zm_r_emit rfl hl.1 rfl (Nat.le_of_ble_eq_true rfl) dX9_behindUnit_98 ⟨by decide, by decide⟩ (fun H187 lo187 hG187 hS187 => ?_)
                obtain ⟨o_188, o_189, o_190, o_191, ho_192, hf_193, z_194, z_195, z_196, hQ187⟩ := hG187
                have hP187 : va_P (dC, dI) vwCl (zW_r_behindUnit p0 o_188 p0_code c_p0_code o_189 p0_codeNumber c_p0_codeNumber o_190 p0_eSign c_p0_eSign b_p0_eSign p0_eWhat c_p0_eWhat b_p0_eWhat p0_text c_p0_text b_p0_text) H187 := hQ187
                clear hQ187 hP182 hS182
                refine lv_goto (tgt := 23) hx hb dX9_behindUnit_101 (by decide) ?_
                have hEn := q_EI.cast (q_EI.pop (p := (piv.toInt - 1).toNat) (wi' := wiv.toInt) (q_EI.cast hq23_0 (by omega) rfl rfl rfl) kv_183 kv_185 (by omega) z_196 (by rw [if_neg (by omega)])) (p' := v_181.toInt.toNat) (co' := o_191.toInt) (by omega) (by omega) rfl rfl
                have hbn := hEn.bd
                exact ih23 (fu23 - 1) (by omega) o_188 o_191 wiv v_181 o_189 o_190 _ _ _ (by omega) ho_192 ((hf_fz_p0.st efs182 (by decide)).tr hf_193 (by decide)) (hf_193.u (by decide) (q_sn efs182 (by decide) fr_fz_p0_1)) (hf_193.u (by decide) (q_sn efs182 (by decide) fh_fz_p0_3)) (hf_193.u (by decide) (q_sn efs182 (by decide) fh_fz_p0_4)) (hf_193.u (by decide) (q_sn efs182 (by decide) fh_fz_p0_6)) (hf_193.u (by decide) (q_sn efs182 (by decide) fh_fz_p0_7)) (hf_193.u (by decide) (q_sn efs182 (by decide) fh_fz_p0_8)) (hf_193.u (by decide) (q_sn efs182 (by decide) fr_fz_p0_38)) (hf_193.u (by decide) (q_sn efs182 (by decide) fr_fz_p0_39)) (hf_193.u (by decide) (q_sn efs182 (by decide) fr_fz_p0_40)) (hf_193.u (by decide) (q_sn efs182 (by decide) fr_fz_p0_41)) (hf_193.u (by decide) (q_sn efs182 (by decide) fh_fz_p0_44)) z_194 (by omega) (hf_193.u (by decide) (q_sn efs182 (by decide) fh_fz_p0_46)) (hf_193.u (by decide) (q_sn efs182 (by decide) fv_fz_p0_47)) (by omega) (hf_193.u (by decide) (q_sa efs182 (OKX9_l ho_fz_p0) (by decide))) (by omega) hEn (hq23_1.up z_196 (by omega) (by omega)) (by omega) hP187 hS187 (lv_sub hl [0, 1] rfl)
              · have tc_184 := q_eqN c_184
                refine lv_aload_n hx hb dX9_behindUnit_77 rfl (lv_at hl 1 rfl) (lv_dup hx hb dX9_behindUnit_78 rfl (qg_X9_47 hx hb hts i_X9 hown hK hP182 0 rfl k_6 (q_sn efs182 (by decide) fv_fz_p0_47) dX9_behindUnit_79 (lv_iconst (v := 1) hx hb dX9_behindUnit_82 (by decide) (lv_isub hx hb dX9_behindUnit_83 (lv_topi fun v_197 ev_197 => ?_)))))
                have tv_197 := q_sub ev_197 (by omega) (by omega)
                refine qp_X9_47 hx hb hts i_X9 hown hK hP182 hDa za_r_behindUnit hS182 0 rfl k_6 (OKX9_l ho182) dX9_behindUnit_84 (fun H198 lo198 fs198 efs198 (hP198 : va_P (dC, dI) vwCl (zW_r_behindUnit p0 fs198 p0_code c_p0_code bz_p0_code p0_codeNumber c_p0_codeNumber bz_p0_codeNumber p0_eSign c_p0_eSign b_p0_eSign p0_eWhat c_p0_eWhat b_p0_eWhat p0_text c_p0_text b_p0_text) H198) hS198 => ?_)
                have ho198 := OKX9_p47 ho182 efs198
                clear hP182 hS182
                refine lv_aload_n hx hb dX9_behindUnit_87 rfl (lv_at hl 1 rfl) (lv_aload_n hx hb dX9_behindUnit_88 rfl (lv_at hl 1 rfl) (qg_X9_41 hx hb hts i_X9 hown hK hP198 0 rfl k_23 (q_sn efs198 (by decide) (q_sn efs182 (by decide) fr_fz_p0_41)) dX9_behindUnit_89 (lv_aload_n hx hb dX9_behindUnit_92 rfl (lv_at hl 1 rfl) (qg_X9_48 hx hb hts i_X9 hown hK hP198 0 rfl k_4 (q_sn efs198 (by decide) (q_sa efs182 (OKX9_l ho_fz_p0) (by decide))) dX9_behindUnit_93 (q_ild hx hb hK hP198 3 2 rfl rfl (q_in (by omega) (by omega)) dX9_behindUnit_96 (fun v_199 ev_199 => ?_))))))
                have kv_199 := q_ix (n := (piv.toInt - 1).toNat) ev_199 (by omega) (by omega)
                have uv_199 : v_199.toInt = (b_p0_eSign (piv.toInt - 1).toNat).toInt := by rw [kv_199]
                refine lv_iconst (v := 0) hx hb dX9_behindUnit_97 (by decide) ?_
                refine q_cVv (As := [.int v_199, .int 0]) (rest := []) q_w0 trivial hK hP198 hDa za_r_behindUnit hS198 hA [0, 1, 2] [0, 1] (by decide +kernel) ⟨hx, hb, hml, hown, hts⟩ (r_emit l dC dI H198.size p0 fs198 p0_code c_p0_code bz_p0_code p0_codeNumber c_p0_codeNumber bz_p0_codeNumber v_199 0 cov ho198 ((q_sn efs198 (by decide) (q_sn efs182 (by decide) fr_fz_p0_38))) ((q_sn efs198 (by decide) (q_sn efs182 (by decide) fr_fz_p0_39))) ((q_sn efs198 (by decide) (q_sn efs182 (by decide) fv_fz_p0_45))) ((by omega))) rfl rfl (cwV 2 hts (p1_gV m_24 m_25 m_26 m_3 g_r_emit gz_r_emit) rfl rfl rfl (by decide +kernel) ⟨by decide, by decide⟩) (va_recv hK hP198 (ci := 8) (q0 := 0) rfl rfl) zm_r_emit rfl hl.1 rfl (Nat.le_of_ble_eq_true rfl) dX9_behindUnit_98 ⟨by decide, by decide⟩ (fun H201 lo201 hG201 hS201 => ?_)
                obtain ⟨o_202, o_203, o_204, o_205, ho_206, hf_207, z_208, z_209, z_210, hQ201⟩ := hG201
                have hP201 : va_P (dC, dI) vwCl (zW_r_behindUnit p0 o_202 p0_code c_p0_code o_203 p0_codeNumber c_p0_codeNumber o_204 p0_eSign c_p0_eSign b_p0_eSign p0_eWhat c_p0_eWhat b_p0_eWhat p0_text c_p0_text b_p0_text) H201 := hQ201
                clear hQ201 hP198 hS198
                refine lv_goto (tgt := 23) hx hb dX9_behindUnit_101 (by decide) ?_
                have hEn := q_EI.cast (q_EI.pop (p := (piv.toInt - 1).toNat) (wi' := v_197.toInt) (q_EI.cast hq23_0 (by omega) rfl rfl rfl) kv_183 kv_199 (by omega) z_210 (by rw [if_pos (by omega)]; omega)) (p' := v_181.toInt.toNat) (co' := o_205.toInt) (by omega) (by omega) rfl rfl
                have hbn := hEn.bd
                exact ih23 (fu23 - 1) (by omega) o_202 o_205 v_197 v_181 o_203 o_204 _ _ _ (by omega) ho_206 (((hf_fz_p0.st efs182 (by decide)).st efs198 (by decide)).tr hf_207 (by decide)) (hf_207.u (by decide) (q_sn efs198 (by decide) (q_sn efs182 (by decide) fr_fz_p0_1))) (hf_207.u (by decide) (q_sn efs198 (by decide) (q_sn efs182 (by decide) fh_fz_p0_3))) (hf_207.u (by decide) (q_sn efs198 (by decide) (q_sn efs182 (by decide) fh_fz_p0_4))) (hf_207.u (by decide) (q_sn efs198 (by decide) (q_sn efs182 (by decide) fh_fz_p0_6))) (hf_207.u (by decide) (q_sn efs198 (by decide) (q_sn efs182 (by decide) fh_fz_p0_7))) (hf_207.u (by decide) (q_sn efs198 (by decide) (q_sn efs182 (by decide) fh_fz_p0_8))) (hf_207.u (by decide) (q_sn efs198 (by decide) (q_sn efs182 (by decide) fr_fz_p0_38))) (hf_207.u (by decide) (q_sn efs198 (by decide) (q_sn efs182 (by decide) fr_fz_p0_39))) (hf_207.u (by decide) (q_sn efs198 (by decide) (q_sn efs182 (by decide) fr_fz_p0_40))) (hf_207.u (by decide) (q_sn efs198 (by decide) (q_sn efs182 (by decide) fr_fz_p0_41))) (hf_207.u (by decide) (q_sn efs198 (by decide) (q_sn efs182 (by decide) fh_fz_p0_44))) z_208 (by omega) (hf_207.u (by decide) (q_sn efs198 (by decide) (q_sn efs182 (by decide) fh_fz_p0_46))) (hf_207.u (by decide) (q_sa efs198 (OKX9_l ho182) (by decide))) (by omega) (hf_207.u (by decide) (q_sn efs198 (by decide) (q_sa efs182 (OKX9_l ho_fz_p0) (by decide)))) (by omega) hEn (hq23_1.up z_210 (by omega) (by omega)) (by omega) hP201 hS201 (lv_sub hl [0, 1] rfl)
      exact key23 119 f_p0 co wi pi b_p0_code b_p0_codeNumber _ _ _ (by omega) ho_p0 q_fr.rf fr_p0_1 pf_siz pf_fk pf_at0 pf_en pf_tk fr_p0_38 fr_p0_39 fr_p0_40 fr_p0_41 pf_rb pf_co (by omega) pf_un pf_wi (by omega) pf_pi (by omega) hEI q_offc.rf (by omega) hP162 hS162 (lv_sub hl [0, 1] rfl)
