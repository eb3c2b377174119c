def zo_r_readKnot : List Cond := [.code yX9_readKnot cX9_readKnot 2 none, .fieldLink RX9 279 "BowWalkModel" "rb" "I", .fieldLink RX9 20 "BowWalkModel" "knots" "[I", .fieldLink RX9 52 "BowWalkModel" "kName" "[J", .methodLink RX9 325 yX9_fresh, .instanceMethod yX9_fresh, .selects RX9 yX9_fresh yX9_fresh, .initialized RX9, .fieldLink RX9 68 "BowWalkModel" "sides" "[I", .fieldLink RX9 71 "BowWalkModel" "crossings" "[I", .methodLink RX9 258 yX9_isGood, .instanceMethod yX9_isGood, .selects RX9 yX9_isGood yX9_isGood, .methodLink RX9 329 yX9_isSide, .instanceMethod yX9_isSide, .selects RX9 yX9_isSide yX9_isSide, .constantLong RX9 180 (504363246962), .methodLink RX9 268 yX9_isWord, .instanceMethod yX9_isWord, .selects RX9 yX9_isWord yX9_isWord, .methodLink RX9 262 yX9_goOn, .instanceMethod yX9_goOn, .selects RX9 yX9_goOn yX9_goOn, .methodLink RX9 265 yX9_misplaced, .instanceMethod yX9_misplaced, .selects RX9 yX9_misplaced yX9_misplaced]
def zw_r_readKnot : List Cond := zo_r_readKnot ++ (zw_r_fresh ++ (zw_r_isGood ++ (zw_r_isSide ++ (zw_r_isWord ++ (zw_r_goOn ++ (zw_r_misplaced ++ (wsX90 ++ [])))))))
theorem gz_r_readKnot : zw_r_readKnot.all goodWord = true := p1_ga (by decide +kernel) (p1_ga gz_r_fresh (p1_ga gz_r_isGood (p1_ga gz_r_isSide (p1_ga gz_r_isWord (p1_ga gz_r_goOn (p1_ga gz_r_misplaced (p1_ga gk_X9 p1_g0)))))))
theorem iz_r_readKnot : ∀ w ∈ zw_r_readKnot, w ∈ lw_tbl := p1_ia (p1_all [1354, 1081, 1048, 1058, 1355, 1357, 53, 116, 1063, 1064, 1327, 1329, 46, 1359, 1361, 54, 1301, 1339, 1341, 49, 1285, 1287, 44, 1343, 1345, 50] (by decide +kernel)) (p1_ia iz_r_fresh (p1_ia iz_r_isGood (p1_ia iz_r_isSide (p1_ia iz_r_isWord (p1_ia iz_r_goOn (p1_ia iz_r_misplaced (p1_ia ik_X9 p1_i0)))))))
def zW_r_readKnot (p0 : Nat) (f_p0 : List Value) (p0_crossings : Nat) (c_p0_crossings : ClassId) (b_p0_crossings : Nat → Int32) (p0_kName : Nat) (c_p0_kName : ClassId) (b_p0_kName : Nat → Int64) (p0_knots : Nat) (c_p0_knots : ClassId) (b_p0_knots : Nat → Int32) (p0_sides : Nat) (c_p0_sides : ClassId) (b_p0_sides : Nat → Int32) (p0_text : Nat) (c_p0_text : ClassId) (b_p0_text : Nat → Int32) : va_W := [(p0, .inr (8, f_p0)), (p0_crossings, .inl (c_p0_crossings, 12, .inl b_p0_crossings)), (p0_kName, .inl (c_p0_kName, 12, .inr (.inl b_p0_kName))), (p0_knots, .inl (c_p0_knots, 2, .inl b_p0_knots)), (p0_sides, .inl (c_p0_sides, 12, .inl b_p0_sides)), (p0_text, .inl (c_p0_text, 1600, .inl b_p0_text))]
def zT_r_readKnot (c_p0_crossings : ClassId) (c_p0_kName : ClassId) (c_p0_knots : ClassId) (c_p0_sides : ClassId) (c_p0_text : ClassId) : List (ClassId × FieldType) := [(c_p0_crossings, .int), (c_p0_kName, .long), (c_p0_knots, .int), (c_p0_sides, .int), (c_p0_text, .byte)]
def zA_r_readKnot (p0 : Nat) (p0_crossings : Nat) (p0_kName : Nat) (p0_knots : Nat) (p0_sides : Nat) (p0_text : Nat) : List Nat := [p0, p0_crossings, p0_kName, p0_knots, p0_sides, p0_text]
theorem za_r_readKnot {p0 : Nat} {f_p0 : List Value} {p0_crossings : Nat} {c_p0_crossings : ClassId} {b_p0_crossings : Nat → Int32} {p0_kName : Nat} {c_p0_kName : ClassId} {b_p0_kName : Nat → Int64} {p0_knots : Nat} {c_p0_knots : ClassId} {b_p0_knots : Nat → Int32} {p0_sides : Nat} {c_p0_sides : ClassId} {b_p0_sides : Nat → Int32} {p0_text : Nat} {c_p0_text : ClassId} {b_p0_text : Nat → Int32} : (zW_r_readKnot p0 f_p0 p0_crossings c_p0_crossings b_p0_crossings p0_kName c_p0_kName b_p0_kName p0_knots c_p0_knots b_p0_knots p0_sides c_p0_sides b_p0_sides p0_text c_p0_text b_p0_text).map Prod.fst = (zA_r_readKnot p0 p0_crossings p0_kName p0_knots p0_sides p0_text) := rfl
def zG_r_readKnot (p0 : Nat) (f_p0 : List Value) (p0_crossings : Nat) (c_p0_crossings : ClassId) (b_p0_crossings : Nat → Int32) (p0_kName : Nat) (c_p0_kName : ClassId) (b_p0_kName : Nat → Int64) (p0_knots : Nat) (c_p0_knots : ClassId) (b_p0_knots : Nat → Int32) (p0_sides : Nat) (c_p0_sides : ClassId) (b_p0_sides : Nat → Int32) (p0_text : Nat) (c_p0_text : ClassId) (b_p0_text : Nat → Int32) (at0 : Int32) (en : Int32) (tk : Int32) (sz : Int32) (fk : Int32) (rb : Int32) (X : va_W → Prop) : Prop := ∃ (y_p0 : List Value) (y_p0_crossings : Nat → Int32) (y_p0_kName : Nat → Int64) (y_p0_knots : Nat → Int32) (y_p0_sides : Nat → Int32) (at1 : Int32) (en1 : Int32) (tk1 : Int32) (fk1 : Int32), OKX9 y_p0 ∧ q_fr [4, 5, 6, 7, 8, 9, 10] f_p0 y_p0 ∧ (∀ k, k < 12 → (0) ≤ (y_p0_crossings k).toInt ∧ (y_p0_crossings k).toInt ≤ 12) ∧ (∀ k, k < 2 → (0) ≤ (y_p0_knots k).toInt ∧ (y_p0_knots k).toInt ≤ 6) ∧ y_p0[6]? = some (.int at1) ∧ y_p0[7]? = some (.int en1) ∧ y_p0[8]? = some (.int tk1) ∧ y_p0[4]? = some (.int fk1) ∧ (en1.toInt ≤ sz.toInt ∧ at0.toInt ≤ at1.toInt ∧ at1.toInt ≤ en1.toInt ∧ (tk1.toInt ≠ 3 ∨ at1.toInt < en1.toInt)) ∧ (fk.toInt = 0 ∨ 1 ≤ fk1.toInt) ∧ X (zW_r_readKnot p0 y_p0 p0_crossings c_p0_crossings y_p0_crossings p0_kName c_p0_kName y_p0_kName p0_knots c_p0_knots y_p0_knots p0_sides c_p0_sides y_p0_sides p0_text c_p0_text b_p0_text)
theorem zm_r_readKnot {p0 : Nat} {f_p0 : List Value} {p0_crossings : Nat} {c_p0_crossings : ClassId} {b_p0_crossings : Nat → Int32} {p0_kName : Nat} {c_p0_kName : ClassId} {b_p0_kName : Nat → Int64} {p0_knots : Nat} {c_p0_knots : ClassId} {b_p0_knots : Nat → Int32} {p0_sides : Nat} {c_p0_sides : ClassId} {b_p0_sides : Nat → Int32} {p0_text : Nat} {c_p0_text : ClassId} {b_p0_text : Nat → Int32} {at0 : Int32} {en : Int32} {tk : Int32} {sz : Int32} {fk : Int32} {rb : Int32} : ∀ X Y : va_W → Prop, (∀ w, X w → Y w) → zG_r_readKnot p0 f_p0 p0_crossings c_p0_crossings b_p0_crossings p0_kName c_p0_kName b_p0_kName p0_knots c_p0_knots b_p0_knots p0_sides c_p0_sides b_p0_sides p0_text c_p0_text b_p0_text at0 en tk sz fk rb X → zG_r_readKnot p0 f_p0 p0_crossings c_p0_crossings b_p0_crossings p0_kName c_p0_kName b_p0_kName p0_knots c_p0_knots b_p0_knots p0_sides c_p0_sides b_p0_sides p0_text c_p0_text b_p0_text at0 en tk sz fk rb Y := fun X Y h h1 => by obtain ⟨x0, x1, x2, x3, x4, x5, x6, x7, x8, x9, x10, x11, x12, x13, x14, x15, x16, x17, x18, hx⟩ := h1; exact ⟨x0, x1, x2, x3, x4, x5, x6, x7, x8, x9, x10, x11, x12, x13, x14, x15, x16, x17, x18, h _ hx⟩
set_option maxHeartbeats 4000000 in
set_option maxRecDepth 100000 in
theorem r_readKnot (l : Launch) (dC : Nat → ClassId) (dI : Nat → Nat → Nat) (sz : Nat) (p0 : Nat) (f_p0 : List Value) (p0_crossings : Nat) (c_p0_crossings : ClassId) (b_p0_crossings : Nat → Int32) (p0_kName : Nat) (c_p0_kName : ClassId) (b_p0_kName : Nat → Int64) (p0_knots : Nat) (c_p0_knots : ClassId) (b_p0_knots : Nat → Int32) (p0_sides : Nat) (c_p0_sides : ClassId) (b_p0_sides : Nat → Int32) (p0_text : Nat) (c_p0_text : ClassId) (b_p0_text : Nat → Int32) (at0 : Int32) (en : Int32) (tk : Int32) (sz : Int32) (fk : Int32) (rb : Int32) (ho_p0 : OKX9 f_p0) (fr_p0_1 : f_p0[1]? = some (.ref p0_text)) (fr_p0_11 : f_p0[11]? = some (.ref p0_knots)) (fr_p0_21 : f_p0[21]? = some (.ref p0_kName)) (fr_p0_26 : f_p0[26]? = some (.ref p0_sides)) (fr_p0_27 : f_p0[27]? = some (.ref p0_crossings)) (hr_p0_crossings : ∀ k, k < 12 → (0) ≤ (b_p0_crossings k).toInt ∧ (b_p0_crossings k).toInt ≤ 12) (hr_p0_knots : ∀ k, k < 2 → (0) ≤ (b_p0_knots k).toInt ∧ (b_p0_knots k).toInt ≤ 6) (pf_at0 : f_p0[6]? = some (.int at0)) (pf_en : f_p0[7]? = some (.int en)) (pf_tk : f_p0[8]? = some (.int tk)) (pf_sz : f_p0[3]? = some (.int sz)) (pf_fk : f_p0[4]? = some (.int fk)) (pf_rb : f_p0[44]? = some (.int rb)) (hR : en.toInt ≤ sz.toInt ∧ at0.toInt ≤ en.toInt ∧ (tk.toInt ≠ 3 ∨ at0.toInt < en.toInt)) (hk : (b_p0_knots rb.toNatClampNeg).toInt ≤ 5) : Met l yX9_readKnot zw_r_readKnot ({ frames := 3, cells := 0, slots := 0, locals := 69 }) (va_Pc [.ref p0] (q_pre (dC, dI) (zW_r_readKnot p0 f_p0 p0_crossings c_p0_crossings b_p0_crossings p0_kName c_p0_kName b_p0_kName p0_knots c_p0_knots b_p0_knots p0_sides c_p0_sides b_p0_sides p0_text c_p0_text b_p0_text) (zT_r_readKnot c_p0_crossings c_p0_kName c_p0_knots c_p0_sides c_p0_text) q_E0 sz)) (q_Qv (dC, dI) (zG_r_readKnot p0 f_p0 p0_crossings c_p0_crossings b_p0_crossings p0_kName c_p0_kName b_p0_kName p0_knots c_p0_knots b_p0_knots p0_sides c_p0_sides b_p0_sides p0_text c_p0_text b_p0_text at0 en tk sz fk rb) (zA_r_readKnot p0 p0_crossings p0_kName p0_knots p0_sides p0_text) (va_A (zW_r_readKnot p0 f_p0 p0_crossings c_p0_crossings b_p0_crossings p0_kName c_p0_kName b_p0_kName p0_knots c_p0_knots b_p0_knots p0_sides c_p0_sides b_p0_sides p0_text c_p0_text b_p0_text) sz)) 0 0 (va_A (zW_r_readKnot p0 f_p0 p0_crossings c_p0_crossings b_p0_crossings p0_kName c_p0_kName b_p0_kName p0_knots c_p0_knots b_p0_knots p0_sides c_p0_sides b_p0_sides p0_text c_p0_text b_p0_text) sz) := by
  refine Met.ofW (cc := cX9_readKnot) (maxL := 2) (ret := none) (by decide) rfl ?_
  intro p e s m args below meth c s₁ B hml hv
  obtain ⟨rfl, hsz, hP, hK, hD0, hE⟩ := hv
  have hx := B.exec
  have hb := B.bytes
  have hr := B.returns
  have hts := atoms_spec (ws := zw_r_readKnot) B.pre
  have hown : s.vm.findClass RX9 = some m.cls := findClass_of_methodNamed B.named
  have hlocks := B.notSynchronized
  subst hsz
  have hD := hD0.self (sz := s.heap.size)
  generalize hAe : va_A (zW_r_readKnot p0 f_p0 p0_crossings c_p0_crossings b_p0_crossings p0_kName c_p0_kName b_p0_kName p0_knots c_p0_knots b_p0_knots p0_sides c_p0_sides b_p0_sides p0_text c_p0_text b_p0_text) s.heap.size = A at hD hE ⊢
  have hA : ∀ q : Nat, s.heap.size ≤ q → A q := fun q h => by rw [← hAe]; exact Or.inr h
  have hDa : q_DA A (zA_r_readKnot p0 p0_crossings p0_kName p0_knots p0_sides p0_text) := q_DA.mk hD za_r_readKnot
  clear hAe hD0 hD
  have hS : va_S A s.heap s.heap [] := va_S.rf
  have m_0 : (.fieldLink RX9 279 "BowWalkModel" "rb" "I" : Cond) ∈ zw_r_readKnot := List.mem_append_left _ (List.mem_of_getElem? (i := 1) rfl)
  have k_0 := hts _ m_0
  have m_1 : (.fieldLink RX9 20 "BowWalkModel" "knots" "[I" : Cond) ∈ zw_r_readKnot := List.mem_append_left _ (List.mem_of_getElem? (i := 2) rfl)
  have k_1 := hts _ m_1
  have m_2 : (.fieldLink RX9 52 "BowWalkModel" "kName" "[J" : Cond) ∈ zw_r_readKnot := List.mem_append_left _ (List.mem_of_getElem? (i := 3) rfl)
  have k_2 := hts _ m_2
  have m_3 : (.methodLink RX9 325 yX9_fresh : Cond) ∈ zw_r_readKnot := List.mem_append_left _ (List.mem_of_getElem? (i := 4) rfl)
  have k_3 := hts _ m_3
  have m_4 : (.instanceMethod yX9_fresh : Cond) ∈ zw_r_readKnot := List.mem_append_left _ (List.mem_of_getElem? (i := 5) rfl)
  have k_4 := hts _ m_4
  have m_5 : (.selects RX9 yX9_fresh yX9_fresh : Cond) ∈ zw_r_readKnot := List.mem_append_left _ (List.mem_of_getElem? (i := 6) rfl)
  have k_5 := hts _ m_5
  have m_6 : (.initialized RX9 : Cond) ∈ zw_r_readKnot := List.mem_append_left _ (List.mem_of_getElem? (i := 7) rfl)
  have k_6 := hts _ m_6
  have m_7 : (.fieldLink RX9 68 "BowWalkModel" "sides" "[I" : Cond) ∈ zw_r_readKnot := List.mem_append_left _ (List.mem_of_getElem? (i := 8) rfl)
  have k_7 := hts _ m_7
  have m_8 : (.fieldLink RX9 71 "BowWalkModel" "crossings" "[I" : Cond) ∈ zw_r_readKnot := List.mem_append_left _ (List.mem_of_getElem? (i := 9) rfl)
  have k_8 := hts _ m_8
  have m_9 : (.methodLink RX9 258 yX9_isGood : Cond) ∈ zw_r_readKnot := List.mem_append_left _ (List.mem_of_getElem? (i := 10) rfl)
  have k_9 := hts _ m_9
  have m_10 : (.instanceMethod yX9_isGood : Cond) ∈ zw_r_readKnot := List.mem_append_left _ (List.mem_of_getElem? (i := 11) rfl)
  have k_10 := hts _ m_10
  have m_11 : (.selects RX9 yX9_isGood yX9_isGood : Cond) ∈ zw_r_readKnot := List.mem_append_left _ (List.mem_of_getElem? (i := 12) rfl)
  have k_11 := hts _ m_11
  have m_12 : (.methodLink RX9 329 yX9_isSide : Cond) ∈ zw_r_readKnot := List.mem_append_left _ (List.mem_of_getElem? (i := 13) rfl)
  have k_12 := hts _ m_12
  have m_13 : (.instanceMethod yX9_isSide : Cond) ∈ zw_r_readKnot := List.mem_append_left _ (List.mem_of_getElem? (i := 14) rfl)
  have k_13 := hts _ m_13
  have m_14 : (.selects RX9 yX9_isSide yX9_isSide : Cond) ∈ zw_r_readKnot := List.mem_append_left _ (List.mem_of_getElem? (i := 15) rfl)
  have k_14 := hts _ m_14
  have m_15 : (.constantLong RX9 180 (504363246962) : Cond) ∈ zw_r_readKnot := List.mem_append_left _ (List.mem_of_getElem? (i := 16) rfl)
  have k_15 := hts _ m_15
  have m_16 : (.methodLink RX9 268 yX9_isWord : Cond) ∈ zw_r_readKnot := List.mem_append_left _ (List.mem_of_getElem? (i := 17) rfl)
  have k_16 := hts _ m_16
  have m_17 : (.instanceMethod yX9_isWord : Cond) ∈ zw_r_readKnot := List.mem_append_left _ (List.mem_of_getElem? (i := 18) rfl)
  have k_17 := hts _ m_17
  have m_18 : (.selects RX9 yX9_isWord yX9_isWord : Cond) ∈ zw_r_readKnot := List.mem_append_left _ (List.mem_of_getElem? (i := 19) rfl)
  have k_18 := hts _ m_18
  have m_19 : (.methodLink RX9 262 yX9_goOn : Cond) ∈ zw_r_readKnot := List.mem_append_left _ (List.mem_of_getElem? (i := 20) rfl)
  have k_19 := hts _ m_19
  have m_20 : (.instanceMethod yX9_goOn : Cond) ∈ zw_r_readKnot := List.mem_append_left _ (List.mem_of_getElem? (i := 21) rfl)
  have k_20 := hts _ m_20
  have m_21 : (.selects RX9 yX9_goOn yX9_goOn : Cond) ∈ zw_r_readKnot := List.mem_append_left _ (List.mem_of_getElem? (i := 22) rfl)
  have k_21 := hts _ m_21
  have m_22 : (.methodLink RX9 265 yX9_misplaced : Cond) ∈ zw_r_readKnot := List.mem_append_left _ (List.mem_of_getElem? (i := 23) rfl)
  have k_22 := hts _ m_22
  have m_23 : (.instanceMethod yX9_misplaced : Cond) ∈ zw_r_readKnot := List.mem_append_left _ (List.mem_of_getElem? (i := 24) rfl)
  have k_23 := hts _ m_23
  have m_24 : (.selects RX9 yX9_misplaced yX9_misplaced : Cond) ∈ zw_r_readKnot := List.mem_append_left _ (List.mem_of_getElem? (i := 25) rfl)
  have k_24 := hts _ m_24
  have g_r_fresh : ∀ w ∈ zw_r_fresh, w ∈ zw_r_readKnot := fun w h => List.mem_append_right _ (List.mem_append_left _ h)
  have g_r_isGood : ∀ w ∈ zw_r_isGood, w ∈ zw_r_readKnot := fun w h => List.mem_append_right _ (List.mem_append_right _ (List.mem_append_left _ h))
  have g_r_isSide : ∀ w ∈ zw_r_isSide, w ∈ zw_r_readKnot := fun w h => List.mem_append_right _ (List.mem_append_right _ (List.mem_append_right _ (List.mem_append_left _ h)))
  have g_r_isWord : ∀ w ∈ zw_r_isWord, w ∈ zw_r_readKnot := fun w h => List.mem_append_right _ (List.mem_append_right _ (List.mem_append_right _ (List.mem_append_right _ (List.mem_append_left _ h))))
  have g_r_goOn : ∀ w ∈ zw_r_goOn, w ∈ zw_r_readKnot := fun w h => List.mem_append_right _ (List.mem_append_right _ (List.mem_append_right _ (List.mem_append_right _ (List.mem_append_right _ (List.mem_append_left _ h)))))
  have g_r_misplaced : ∀ w ∈ zw_r_misplaced, w ∈ zw_r_readKnot := fun w h => List.mem_append_right _ (List.mem_append_right _ (List.mem_append_right _ (List.mem_append_right _ (List.mem_append_right _ (List.mem_append_right _ (List.mem_append_left _ h))))))
  have i_X9 : ∀ w ∈ u_ws RX9 TX9 81, w ∈ zw_r_readKnot := fun w h => List.mem_append_right _ (List.mem_append_right _ (List.mem_append_right _ (List.mem_append_right _ (List.mem_append_right _ (List.mem_append_right _ (List.mem_append_right _ (List.mem_append_left _ h)))))))
  have lt_0 : (0 : Int32).toInt = 0 := by decide
  have lt_1 : (1 : Int32).toInt = 1 := by decide
  have lt_6 : (6 : Int32).toInt = 6 := by decide
  have lt_12 : (12 : Int32).toInt = 12 := by decide
  have hl := lv_entry ([.ref p0]) (n := 2) (Nat.le_of_ble_eq_true rfl)
  rw [lg_entry_eq]
  generalize (lg_sl ([.ref p0]) ++ List.replicate (2 - (lg_sl ([.ref p0])).length) Slot.unset).toArray = ls at hl ⊢
  have hl : lv_has ls 2 [(0, .ref p0)] := hl
  have tat0 := (OKX9_g6 ho_p0).use pf_at0
  have ten := (OKX9_g7 ho_p0).use pf_en
  have ttk := (OKX9_g8 ho_p0).use pf_tk
  have tsz := (OKX9_g3 ho_p0).use pf_sz
  have tfk := (OKX9_g4 ho_p0).use pf_fk
  have trb := (OKX9_g44 ho_p0).use pf_rb
  refine lv_bipush (v := 6) hx hb dX9_readKnot_0 (by decide) (lv_aload_n hx hb dX9_readKnot_2 rfl (lv_at hl 0 rfl) (qg_X9_44 hx hb hts i_X9 hown hK hP 0 rfl k_0 pf_rb dX9_readKnot_3 (lv_imul hx hb dX9_readKnot_6 (lv_topi fun v_1 ev_1 => ?_))))
  have tv_1 := q_mulc (c := 6) ev_1 (by decide) (by omega) (by omega)
  refine lv_aload_n hx hb dX9_readKnot_7 rfl (lv_at hl 0 rfl) (qg_X9_11 hx hb hts i_X9 hown hK hP 0 rfl k_1 fr_p0_11 dX9_readKnot_8 (lv_aload_n hx hb dX9_readKnot_11 rfl (lv_at hl 0 rfl) (qg_X9_44 hx hb hts i_X9 hown hK hP 0 rfl k_0 pf_rb dX9_readKnot_12 (q_ild hx hb hK hP 3 2 rfl rfl (q_in (by omega) (by omega)) dX9_readKnot_15 (fun v_2 ev_2 => ?_)))))
  have uv_2 : v_2.toInt = (b_p0_knots rb.toNatClampNeg).toInt := by rw [ev_2]
  have tv_2 := q_rd' hr_p0_knots (q_in (by omega) (by omega)) ev_2
  refine lv_iadd hx hb dX9_readKnot_16 (lv_topi fun v_3 ev_3 => ?_)
  have tv_3 := q_add ev_3 (by omega) (by omega)
  refine lv_istore_n (lv' := [(1, .int v_3), (0, .ref p0)]) hx hb dX9_readKnot_17 rfl hl (by decide) rfl (fun ls hl => ?_)
  refine lv_aload_n hx hb dX9_readKnot_18 rfl (lv_at hl 1 rfl) (qg_X9_21 hx hb hts i_X9 hown hK hP 0 rfl k_2 fr_p0_21 dX9_readKnot_19 (lv_iload_n hx hb dX9_readKnot_22 rfl (lv_at hl 0 rfl) (lv_aload_n hx hb dX9_readKnot_23 rfl (lv_at hl 1 rfl) (lv_aload_n hx hb dX9_readKnot_24 rfl (lv_at hl 1 rfl) (qg_X9_21 hx hb hts i_X9 hown hK hP 0 rfl k_2 fr_p0_21 dX9_readKnot_25 (lv_bipush (v := 6) hx hb dX9_readKnot_28 (by decide) (lv_aload_n hx hb dX9_readKnot_30 rfl (lv_at hl 1 rfl) ?_)))))))
  refine qg_X9_44 hx hb hts i_X9 hown hK hP 0 rfl k_0 pf_rb dX9_readKnot_31 (lv_imul hx hb dX9_readKnot_34 (lv_topi fun v_4 ev_4 => ?_))
  have tv_4 := q_mulc (c := 6) ev_4 (by decide) (by omega) (by omega)
  refine lv_aload_n hx hb dX9_readKnot_35 rfl (lv_at hl 1 rfl) (qg_X9_11 hx hb hts i_X9 hown hK hP 0 rfl k_1 fr_p0_11 dX9_readKnot_36 (lv_aload_n hx hb dX9_readKnot_39 rfl (lv_at hl 1 rfl) (qg_X9_44 hx hb hts i_X9 hown hK hP 0 rfl k_0 pf_rb dX9_readKnot_40 (q_ild hx hb hK hP 3 2 rfl rfl (q_in (by omega) (by omega)) dX9_readKnot_43 (fun v_5 ev_5 => ?_)))))
  have uv_5 : v_5.toInt = (b_p0_knots rb.toNatClampNeg).toInt := by rw [ev_5]
  have tv_5 := q_rd' hr_p0_knots (q_in (by omega) (by omega)) ev_5
  refine q_cVl (As := [.ref p0_kName, .int v_4, .int v_5]) (rest := [.int v_3, .ref p0_kName]) q_w0 trivial hK hP hDa za_r_readKnot hS hA [0, 5, 2] [4, 1] (by decide +kernel) ⟨hx, hb, hml, hown, hts⟩ (r_fresh l dC dI s.heap.size p0 f_p0 p0_text c_p0_text b_p0_text p0_kName c_p0_kName b_p0_kName 12 v_4 v_5 at0 en tk sz fk ho_p0 fr_p0_1 pf_at0 pf_en pf_tk pf_sz pf_fk ((by omega)) ((by omega)) ((by omega)) ((by omega))) rfl rfl (cwV 3 hts (p1_gV m_3 m_4 m_5 m_6 g_r_fresh gz_r_fresh) rfl rfl rfl (by decide +kernel) ⟨by decide, by decide⟩) (va_recv hK hP (ci := 8) (q0 := 0) rfl rfl) zm_r_fresh rfl hl.1 rfl (Nat.le_of_ble_eq_true rfl) dX9_readKnot_44 ⟨by decide, by decide⟩ (fun r_6 H7 lo7 hG7 hS7 => ?_)
  obtain ⟨o_8, o_9, o_10, o_11, o_12, ho_13, hf_14, z_15, z_16, z_17, z_18, z_19, z_20, hQ7⟩ := hG7
  have to_9 := (OKX9_g6 ho_13).use z_15
  have to_10 := (OKX9_g7 ho_13).use z_16
  have to_11 := (OKX9_g8 ho_13).use z_17
  have to_12 := (OKX9_g4 ho_13).use z_18
  have hP7 : va_P (dC, dI) vwCl (zW_r_readKnot p0 o_8 p0_crossings c_p0_crossings b_p0_crossings p0_kName c_p0_kName b_p0_kName p0_knots c_p0_knots b_p0_knots p0_sides c_p0_sides b_p0_sides p0_text c_p0_text b_p0_text) H7 := hQ7
  clear hQ7 hP hS
  refine q_lst hx hb hK hP7 hDa za_r_readKnot hS7 2 1 rfl rfl (q_in (by omega) (by omega)) dX9_readKnot_47 (fun H21 lo21 g21 eg21 (hP21 : va_P (dC, dI) vwCl (zW_r_readKnot p0 o_8 p0_crossings c_p0_crossings b_p0_crossings p0_kName c_p0_kName g21 p0_knots c_p0_knots b_p0_knots p0_sides c_p0_sides b_p0_sides p0_text c_p0_text b_p0_text) H21) hS21 => ?_)
  clear hP7 hS7
  refine lv_aload_n hx hb dX9_readKnot_48 rfl (lv_at hl 1 rfl) (qg_X9_26 hx hb hts i_X9 hown hK hP21 0 rfl k_7 (hf_14.u (by decide) fr_p0_26) dX9_readKnot_49 (lv_iload_n hx hb dX9_readKnot_52 rfl (lv_at hl 0 rfl) (lv_iconst (v := 0) hx hb dX9_readKnot_53 (by decide) (q_ist hx hb hK hP21 hDa za_r_readKnot hS21 4 3 rfl rfl (q_in (by omega) (by omega)) dX9_readKnot_54 (fun H22 lo22 g22 eg22 (hP22 : va_P (dC, dI) vwCl (zW_r_readKnot p0 o_8 p0_crossings c_p0_crossings b_p0_crossings p0_kName c_p0_kName g21 p0_knots c_p0_knots b_p0_knots p0_sides c_p0_sides g22 p0_text c_p0_text b_p0_text) H22) hS22 => ?_)))))
  clear hP21 hS21
  refine lv_aload_n hx hb dX9_readKnot_55 rfl (lv_at hl 1 rfl) (qg_X9_27 hx hb hts i_X9 hown hK hP22 0 rfl k_8 (hf_14.u (by decide) fr_p0_27) dX9_readKnot_56 (lv_iload_n hx hb dX9_readKnot_59 rfl (lv_at hl 0 rfl) (lv_iconst (v := 0) hx hb dX9_readKnot_60 (by decide) (q_ist hx hb hK hP22 hDa za_r_readKnot hS22 1 0 rfl rfl (q_in (by omega) (by omega)) dX9_readKnot_61 (fun H23 lo23 g23 eg23 (hP23 : va_P (dC, dI) vwCl (zW_r_readKnot p0 o_8 p0_crossings c_p0_crossings g23 p0_kName c_p0_kName g21 p0_knots c_p0_knots b_p0_knots p0_sides c_p0_sides g22 p0_text c_p0_text b_p0_text) H23) hS23 => ?_)))))
  clear hP22 hS22
  have hr_g23 := q_up' hr_p0_crossings eg23 ⟨by omega, by omega⟩
  have usg23 : (g23 v_3.toNatClampNeg).toInt = (0 : Int32).toInt := by rw [eg23, pk_us]
  refine lv_aload_n hx hb dX9_readKnot_62 rfl (lv_at hl 1 rfl) ?_
  refine q_cVi (As := []) (rest := []) q_w0 trivial hK hP23 hDa za_r_readKnot hS23 hA [0] [] (by decide +kernel) ⟨hx, hb, hml, hown, hts⟩ (r_isGood l dC dI H23.size p0 o_8 o_12 ho_13 z_18) rfl rfl (cwV 0 hts (p1_gV m_9 m_10 m_11 m_6 g_r_isGood gz_r_isGood) rfl rfl rfl (by decide +kernel) ⟨by decide, by decide⟩) (va_recv hK hP23 (ci := 8) (q0 := 0) rfl rfl) zm_r_isGood rfl hl.1 rfl (Nat.le_of_ble_eq_true rfl) dX9_readKnot_63 ⟨by decide, by decide⟩ (fun r_24 H25 lo25 hG25 hS25 => ?_)
  obtain ⟨z_26, hQ25⟩ := hG25
  have hP25 : va_P (dC, dI) vwCl (zW_r_readKnot p0 o_8 p0_crossings c_p0_crossings g23 p0_kName c_p0_kName g21 p0_knots c_p0_knots b_p0_knots p0_sides c_p0_sides g22 p0_text c_p0_text b_p0_text) H25 := hQ25
  clear hQ25 hP23 hS23
  rcases z_26 with ⟨rfl, z_26⟩ | ⟨rfl, z_26⟩
  · refine lv_if_eq (tgt := 80) hx hb dX9_readKnot_66 (by decide) (fun c_27 => absurd c_27 (by decide)) (fun c_27 => ?_)
    refine lv_aload_n hx hb dX9_readKnot_69 rfl (lv_at hl 1 rfl) ?_
    refine q_cVi (As := []) (rest := []) q_w0 trivial hK hP25 hDa za_r_readKnot hS25 hA [0] [] (by decide +kernel) ⟨hx, hb, hml, hown, hts⟩ (r_isSide l dC dI H25.size p0 o_8 ho_13) rfl rfl (cwV 0 hts (p1_gV m_12 m_13 m_14 m_6 g_r_isSide gz_r_isSide) rfl rfl rfl (by decide +kernel) ⟨by decide, by decide⟩) (va_recv hK hP25 (ci := 8) (q0 := 0) rfl rfl) zm_r_isSide rfl hl.1 rfl (Nat.le_of_ble_eq_true rfl) dX9_readKnot_70 ⟨by decide, by decide⟩ (fun r_28 H29 lo29 hG29 hS29 => ?_)
    obtain ⟨z_30, hQ29⟩ := hG29
    have hP29 : va_P (dC, dI) vwCl (zW_r_readKnot p0 o_8 p0_crossings c_p0_crossings g23 p0_kName c_p0_kName g21 p0_knots c_p0_knots b_p0_knots p0_sides c_p0_sides g22 p0_text c_p0_text b_p0_text) H29 := hQ29
    clear hQ29 hP25 hS25
    rcases z_30 with ⟨rfl, z_30⟩ | ⟨rfl, z_30⟩
    · refine lv_if_ne (tgt := 80) hx hb dX9_readKnot_73 (by decide) (fun c_31 => ?_) (fun c_31 => absurd c_31 (by decide))
      have key80 : ∀ (fu80 : Nat) (fz_p0 : List Value) (fkv : Int32) (atv : Int32) (env : Int32) (tkv : Int32) (bz_p0_crossings : Nat → Int32) (bz_p0_sides : Nat → Int32) (H : Heap) (locs : List Loc) (ls : Array Slot) (hfu80 : 13 - (bz_p0_crossings v_3.toNatClampNeg).toInt ≤ (fu80 : Int)) (ho_fz_p0 : OKX9 fz_p0) (hf_fz_p0 : q_fr [4, 5, 6, 7, 8, 9, 10] f_p0 fz_p0) (fr_fz_p0_1 : fz_p0[1]? = some (.ref p0_text)) (fh_fz_p0_3 : fz_p0[3]? = some (.int sz)) (fv_fz_p0_4 : fz_p0[4]? = some (.int fkv)) (tfkv : (0) ≤ fkv.toInt ∧ fkv.toInt ≤ 4) (fv_fz_p0_6 : fz_p0[6]? = some (.int atv)) (tatv : (0) ≤ atv.toInt ∧ atv.toInt ≤ 1600) (fv_fz_p0_7 : fz_p0[7]? = some (.int env)) (tenv : (0) ≤ env.toInt ∧ env.toInt ≤ 1601) (fv_fz_p0_8 : fz_p0[8]? = some (.int tkv)) (ttkv : (0) ≤ tkv.toInt ∧ tkv.toInt ≤ 5) (fr_fz_p0_11 : fz_p0[11]? = some (.ref p0_knots)) (fr_fz_p0_21 : fz_p0[21]? = some (.ref p0_kName)) (fr_fz_p0_26 : fz_p0[26]? = some (.ref p0_sides)) (fr_fz_p0_27 : fz_p0[27]? = some (.ref p0_crossings)) (fh_fz_p0_44 : fz_p0[44]? = some (.int rb)) (hr_bz_p0_crossings : ∀ k, k < 12 → (0) ≤ (bz_p0_crossings k).toInt ∧ (bz_p0_crossings k).toInt ≤ 12) (hq80_0 : env.toInt ≤ sz.toInt ∧ at0.toInt ≤ atv.toInt ∧ atv.toInt ≤ env.toInt ∧ (tkv.toInt ≠ 3 ∨ atv.toInt < env.toInt)) (hq80_1 : fk.toInt = 0 ∨ 1 ≤ fkv.toInt), va_P (dC, dI) vwCl (zW_r_readKnot p0 fz_p0 p0_crossings c_p0_crossings bz_p0_crossings p0_kName c_p0_kName g21 p0_knots c_p0_knots b_p0_knots p0_sides c_p0_sides bz_p0_sides p0_text c_p0_text b_p0_text) H → va_S A s.heap H locs → lv_has ls 2 [(1, .int v_3), (0, .ref p0)] → W p l e (headSpec zw_r_readKnot { frames := 3, cells := 0, slots := 0, locals := 69 }).room s m ([.ref p0] : List Value).toArray below meth c H locs 0 0 (MQ below (q_Qv (dC, dI) (zG_r_readKnot p0 f_p0 p0_crossings c_p0_crossings b_p0_crossings p0_kName c_p0_kName b_p0_kName p0_knots c_p0_knots b_p0_knots p0_sides c_p0_sides b_p0_sides p0_text c_p0_text b_p0_text at0 en tk sz fk rb) (zA_r_readKnot p0 p0_crossings p0_kName p0_knots p0_sides p0_text) A) ([.ref p0] : List Value).toArray s 0 0 A) (F0 m 80 ls []) := by
        intro fu80
        induction fu80 using Nat.strongRecOn with
        | ind fu80 ih80 =>
          intro fz_p0 fkv atv env tkv bz_p0_crossings bz_p0_sides H32 lo32 ls hfu80 ho_fz_p0 hf_fz_p0 fr_fz_p0_1 fh_fz_p0_3 fv_fz_p0_4 tfkv fv_fz_p0_6 tatv fv_fz_p0_7 tenv fv_fz_p0_8 ttkv fr_fz_p0_11 fr_fz_p0_21 fr_fz_p0_26 fr_fz_p0_27 fh_fz_p0_44 hr_bz_p0_crossings hq80_0 hq80_1 hP32 hS32 hl
          refine lv_aload_n hx hb dX9_readKnot_80 rfl (lv_at hl 1 rfl) ?_
          refine q_cVi (As := []) (rest := []) q_w0 trivial hK hP32 hDa za_r_readKnot hS32 hA [0] [] (by decide +kernel) ⟨hx, hb, hml, hown, hts⟩ (r_isGood l dC dI H32.size p0 fz_p0 fkv ho_fz_p0 fv_fz_p0_4) rfl rfl (cwV 0 hts (p1_gV m_9 m_10 m_11 m_6 g_r_isGood gz_r_isGood) rfl rfl rfl (by decide +kernel) ⟨by decide, by decide⟩) (va_recv hK hP32 (ci := 8) (q0 := 0) rfl rfl) zm_r_isGood rfl hl.1 rfl (Nat.le_of_ble_eq_true rfl) dX9_readKnot_81 ⟨by decide, by decide⟩ (fun r_33 H34 lo34 hG34 hS34 => ?_)
          obtain ⟨z_35, hQ34⟩ := hG34
          have hP34 : va_P (dC, dI) vwCl (zW_r_readKnot p0 fz_p0 p0_crossings c_p0_crossings bz_p0_crossings p0_kName c_p0_kName g21 p0_knots c_p0_knots b_p0_knots p0_sides c_p0_sides bz_p0_sides p0_text c_p0_text b_p0_text) H34 := hQ34
          clear hQ34 hP32 hS32
          rcases z_35 with ⟨rfl, z_35⟩ | ⟨rfl, z_35⟩
          · refine lv_if_eq (tgt := 165) hx hb dX9_readKnot_84 (by decide) (fun c_36 => absurd c_36 (by decide)) (fun c_36 => ?_)
            refine lv_aload_n hx hb dX9_readKnot_87 rfl (lv_at hl 1 rfl) ?_
            refine q_cVi (As := []) (rest := []) q_w0 trivial hK hP34 hDa za_r_readKnot hS34 hA [0] [] (by decide +kernel) ⟨hx, hb, hml, hown, hts⟩ (r_isSide l dC dI H34.size p0 fz_p0 ho_fz_p0) rfl rfl (cwV 0 hts (p1_gV m_12 m_13 m_14 m_6 g_r_isSide gz_r_isSide) rfl rfl rfl (by decide +kernel) ⟨by decide, by decide⟩) (va_recv hK hP34 (ci := 8) (q0 := 0) rfl rfl) zm_r_isSide rfl hl.1 rfl (Nat.le_of_ble_eq_true rfl) dX9_readKnot_88 ⟨by decide, by decide⟩ (fun r_37 H38 lo38 hG38 hS38 => ?_)
            obtain ⟨z_39, hQ38⟩ := hG38
            have hP38 : va_P (dC, dI) vwCl (zW_r_readKnot p0 fz_p0 p0_crossings c_p0_crossings bz_p0_crossings p0_kName c_p0_kName g21 p0_knots c_p0_knots b_p0_knots p0_sides c_p0_sides bz_p0_sides p0_text c_p0_text b_p0_text) H38 := hQ38
            clear hQ38 hP34 hS34
            rcases z_39 with ⟨rfl, z_39⟩ | ⟨rfl, z_39⟩
            · refine lv_if_eq (tgt := 165) hx hb dX9_readKnot_91 (by decide) (fun c_40 => absurd c_40 (by decide)) (fun c_40 => ?_)
              refine lv_aload_n hx hb dX9_readKnot_94 rfl (lv_at hl 1 rfl) (qg_X9_27 hx hb hts i_X9 hown hK hP38 0 rfl k_8 fr_fz_p0_27 dX9_readKnot_95 (lv_iload_n hx hb dX9_readKnot_98 rfl (lv_at hl 0 rfl) (q_ild hx hb hK hP38 1 0 rfl rfl (q_in (by omega) (by omega)) dX9_readKnot_99 (fun v_41 ev_41 => ?_))))
              have uv_41 : v_41.toInt = (bz_p0_crossings v_3.toNatClampNeg).toInt := by rw [ev_41]
              have tv_41 := q_rd' hr_bz_p0_crossings (q_in (by omega) (by omega)) ev_41
              refine lv_bipush (v := 12) hx hb dX9_readKnot_100 (by decide) ?_
              refine lv_icmp_ne (tgt := 109) hx hb dX9_readKnot_102 (by decide) (fun c_42 => ?_) (fun c_42 => ?_)
              · have tc_42 := q_ne c_42
                refine lv_aload_n hx hb dX9_readKnot_109 rfl (lv_at hl 1 rfl) ?_
                refine q_cVi (As := []) (rest := []) q_w0 trivial hK hP38 hDa za_r_readKnot hS38 hA [0] [] (by decide +kernel) ⟨hx, hb, hml, hown, hts⟩ (r_isGood l dC dI H38.size p0 fz_p0 fkv ho_fz_p0 fv_fz_p0_4) rfl rfl (cwV 0 hts (p1_gV m_9 m_10 m_11 m_6 g_r_isGood gz_r_isGood) rfl rfl rfl (by decide +kernel) ⟨by decide, by decide⟩) (va_recv hK hP38 (ci := 8) (q0 := 0) rfl rfl) zm_r_isGood rfl hl.1 rfl (Nat.le_of_ble_eq_true rfl) dX9_readKnot_110 ⟨by decide, by decide⟩ (fun r_43 H44 lo44 hG44 hS44 => ?_)
                obtain ⟨z_45, hQ44⟩ := hG44
                have hP44 : va_P (dC, dI) vwCl (zW_r_readKnot p0 fz_p0 p0_crossings c_p0_crossings bz_p0_crossings p0_kName c_p0_kName g21 p0_knots c_p0_knots b_p0_knots p0_sides c_p0_sides bz_p0_sides p0_text c_p0_text b_p0_text) H44 := hQ44
                clear hQ44 hP38 hS38
                rcases z_45 with ⟨rfl, z_45⟩ | ⟨rfl, z_45⟩
                · refine lv_if_ne (tgt := 117) hx hb dX9_readKnot_113 (by decide) (fun c_46 => ?_) (fun c_46 => absurd c_46 (by decide))
                  refine lv_aload_n hx hb dX9_readKnot_117 rfl (lv_at hl 1 rfl) (qg_X9_26 hx hb hts i_X9 hown hK hP44 0 rfl k_7 fr_fz_p0_26 dX9_readKnot_118 (lv_iload_n hx hb dX9_readKnot_121 rfl (lv_at hl 0 rfl) (lv_dup2_11 hx hb dX9_readKnot_122 rfl rfl (q_ild hx hb hK hP44 4 3 rfl rfl (q_in (by omega) (by omega)) dX9_readKnot_123 (fun v_47 ev_47 => ?_)))))
                  refine lv_aload_n hx hb dX9_readKnot_124 rfl (lv_at hl 1 rfl) (lv_ldc2 (v := 504363246962) hx hb hown k_15 dX9_readKnot_125 ?_)
                  obtain ⟨v_48, fv_48⟩ := OKX9_g10 ho_fz_p0
                  refine q_cVi (As := [.long 504363246962]) (rest := [.int v_47, .int v_3, .ref p0_sides]) q_w0 trivial hK hP44 hDa za_r_readKnot hS44 hA [0] [] (by decide +kernel) ⟨hx, hb, hml, hown, hts⟩ (r_isWord l dC dI H44.size p0 fz_p0 504363246962 tkv v_48 ho_fz_p0 fv_fz_p0_8 fv_48) rfl rfl (cwV 1 hts (p1_gV m_16 m_17 m_18 m_6 g_r_isWord gz_r_isWord) rfl rfl rfl (by decide +kernel) ⟨by decide, by decide⟩) (va_recv hK hP44 (ci := 8) (q0 := 0) rfl rfl) zm_r_isWord rfl hl.1 rfl (Nat.le_of_ble_eq_true rfl) dX9_readKnot_128 ⟨by decide, by decide⟩ (fun r_49 H50 lo50 hG50 hS50 => ?_)
                  obtain ⟨z_51, hQ50⟩ := hG50
                  have hP50 : va_P (dC, dI) vwCl (zW_r_readKnot p0 fz_p0 p0_crossings c_p0_crossings bz_p0_crossings p0_kName c_p0_kName g21 p0_knots c_p0_knots b_p0_knots p0_sides c_p0_sides bz_p0_sides p0_text c_p0_text b_p0_text) H50 := hQ50
                  clear hQ50 hP44 hS44
                  rcases z_51 with ⟨rfl, z_51⟩ | ⟨rfl, z_51⟩
                  · refine lv_if_eq (tgt := 145) hx hb dX9_readKnot_131 (by decide) (fun c_52 => absurd c_52 (by decide)) (fun c_52 => ?_)
                    refine lv_iconst (v := 1) hx hb dX9_readKnot_134 (by decide) (lv_aload_n hx hb dX9_readKnot_135 rfl (lv_at hl 1 rfl) (qg_X9_27 hx hb hts i_X9 hown hK hP50 0 rfl k_8 fr_fz_p0_27 dX9_readKnot_136 (lv_iload_n hx hb dX9_readKnot_139 rfl (lv_at hl 0 rfl) (q_ild hx hb hK hP50 1 0 rfl rfl (q_in (by omega) (by omega)) dX9_readKnot_140 (fun v_53 ev_53 => ?_)))))
                    have uv_53 : v_53.toInt = (bz_p0_crossings v_3.toNatClampNeg).toInt := by rw [ev_53]
                    have tv_53 := q_rd' hr_bz_p0_crossings (q_in (by omega) (by omega)) ev_53
                    refine lv_ishl hx hb dX9_readKnot_141 (lv_topi fun v_54 ev_54 => ?_)
                    have tv_54 : 1 ≤ v_54.toInt ∧ v_54.toInt ≤ 4096 := q_shl1 (k := 12) ev_54 (by omega) (by omega) (by decide)
                    refine lv_goto (tgt := 146) hx hb dX9_readKnot_142 (by decide) (lv_ior hx hb dX9_readKnot_146 (lv_topi fun v_55 ev_55 => q_ist hx hb hK hP50 hDa za_r_readKnot hS50 4 3 rfl rfl (q_in (by omega) (by omega)) dX9_readKnot_147 (fun H56 lo56 g56 eg56 (hP56 : va_P (dC, dI) vwCl (zW_r_readKnot p0 fz_p0 p0_crossings c_p0_crossings bz_p0_crossings p0_kName c_p0_kName g21 p0_knots c_p0_knots b_p0_knots p0_sides c_p0_sides g56 p0_text c_p0_text b_p0_text) H56) hS56 => ?_)))
                    clear hP50 hS50
                    refine lv_aload_n hx hb dX9_readKnot_148 rfl (lv_at hl 1 rfl) (qg_X9_27 hx hb hts i_X9 hown hK hP56 0 rfl k_8 fr_fz_p0_27 dX9_readKnot_149 (lv_iload_n hx hb dX9_readKnot_152 rfl (lv_at hl 0 rfl) (lv_dup2_11 hx hb dX9_readKnot_153 rfl rfl (q_ild hx hb hK hP56 1 0 rfl rfl (q_in (by omega) (by omega)) dX9_readKnot_154 (fun v_57 ev_57 => ?_)))))
                    have uv_57 : v_57.toInt = (bz_p0_crossings v_3.toNatClampNeg).toInt := by rw [ev_57]
                    have tv_57 := q_rd' hr_bz_p0_crossings (q_in (by omega) (by omega)) ev_57
                    refine lv_iconst (v := 1) hx hb dX9_readKnot_155 (by decide) (lv_iadd hx hb dX9_readKnot_156 (lv_topi fun v_58 ev_58 => ?_))
                    have tv_58 := q_add ev_58 (by omega) (by omega)
                    refine q_ist hx hb hK hP56 hDa za_r_readKnot hS56 1 0 rfl rfl (q_in (by omega) (by omega)) dX9_readKnot_157 (fun H59 lo59 g59 eg59 (hP59 : va_P (dC, dI) vwCl (zW_r_readKnot p0 fz_p0 p0_crossings c_p0_crossings g59 p0_kName c_p0_kName g21 p0_knots c_p0_knots b_p0_knots p0_sides c_p0_sides g56 p0_text c_p0_text b_p0_text) H59) hS59 => ?_)
                    clear hP56 hS56
                    have hr_g59 := q_up' hr_bz_p0_crossings eg59 ⟨by omega, by omega⟩
                    have usg59 : (g59 v_3.toNatClampNeg).toInt = v_58.toInt := by rw [eg59, pk_us]
                    refine lv_aload_n hx hb dX9_readKnot_158 rfl (lv_at hl 1 rfl) ?_
                    refine q_cVv (As := []) (rest := []) q_w0 trivial hK hP59 hDa za_r_readKnot hS59 hA [0, 5] [4] (by decide +kernel) ⟨hx, hb, hml, hown, hts⟩ (r_goOn l dC dI H59.size p0 fz_p0 p0_text c_p0_text b_p0_text atv env tkv sz ho_fz_p0 fr_fz_p0_1 fv_fz_p0_6 fv_fz_p0_7 fv_fz_p0_8 fh_fz_p0_3 ((by omega))) rfl rfl (cwV 0 hts (p1_gV m_19 m_20 m_21 m_6 g_r_goOn gz_r_goOn) rfl rfl rfl (by decide +kernel) ⟨by decide, by decide⟩) (va_recv hK hP59 (ci := 8) (q0 := 0) rfl rfl) zm_r_goOn rfl hl.1 rfl (Nat.le_of_ble_eq_true rfl) dX9_readKnot_159 ⟨by decide, by decide⟩ (fun H61 lo61 hG61 hS61 => ?_)
                    obtain ⟨o_62, o_63, o_64, o_65, ho_66, hf_67, z_68, z_69, z_70, z_71, hQ61⟩ := hG61
                    have to_63 := (OKX9_g6 ho_66).use z_68
                    have to_64 := (OKX9_g7 ho_66).use z_69
                    have to_65 := (OKX9_g8 ho_66).use z_70
                    have hP61 : va_P (dC, dI) vwCl (zW_r_readKnot p0 o_62 p0_crossings c_p0_crossings g59 p0_kName c_p0_kName g21 p0_knots c_p0_knots b_p0_knots p0_sides c_p0_sides g56 p0_text c_p0_text b_p0_text) H61 := hQ61
                    clear hQ61 hP59 hS59
                    refine lv_goto (tgt := 80) hx hb dX9_readKnot_162 (by decide) ?_
                    exact ih80 (fu80 - 1) (by omega) o_62 fkv o_63 o_64 o_65 g59 g56 _ _ _ (by omega) ho_66 (hf_fz_p0.tr hf_67 (by decide)) (hf_67.u (by decide) fr_fz_p0_1) (hf_67.u (by decide) fh_fz_p0_3) (hf_67.u (by decide) fv_fz_p0_4) (by omega) z_68 (by omega) z_69 (by omega) z_70 (by omega) (hf_67.u (by decide) fr_fz_p0_11) (hf_67.u (by decide) fr_fz_p0_21) (hf_67.u (by decide) fr_fz_p0_26) (hf_67.u (by decide) fr_fz_p0_27) (hf_67.u (by decide) fh_fz_p0_44) hr_g59 (by omega) (by omega) hP61 hS61 (lv_sub hl [0, 1] rfl)
                  · refine lv_if_eq (tgt := 145) hx hb dX9_readKnot_131 (by decide) (fun c_72 => ?_) (fun c_72 => absurd c_72 (by decide))
                    refine lv_iconst (v := 0) hx hb dX9_readKnot_145 (by decide) (lv_ior hx hb dX9_readKnot_146 (lv_topi fun v_73 ev_73 => q_ist hx hb hK hP50 hDa za_r_readKnot hS50 4 3 rfl rfl (q_in (by omega) (by omega)) dX9_readKnot_147 (fun H74 lo74 g74 eg74 (hP74 : va_P (dC, dI) vwCl (zW_r_readKnot p0 fz_p0 p0_crossings c_p0_crossings bz_p0_crossings p0_kName c_p0_kName g21 p0_knots c_p0_knots b_p0_knots p0_sides c_p0_sides g74 p0_text c_p0_text b_p0_text) H74) hS74 => ?_)))
                    clear hP50 hS50
                    refine lv_aload_n hx hb dX9_readKnot_148 rfl (lv_at hl 1 rfl) (qg_X9_27 hx hb hts i_X9 hown hK hP74 0 rfl k_8 fr_fz_p0_27 dX9_readKnot_149 (lv_iload_n hx hb dX9_readKnot_152 rfl (lv_at hl 0 rfl) (lv_dup2_11 hx hb dX9_readKnot_153 rfl rfl (q_ild hx hb hK hP74 1 0 rfl rfl (q_in (by omega) (by omega)) dX9_readKnot_154 (fun v_75 ev_75 => ?_)))))
                    have uv_75 : v_75.toInt = (bz_p0_crossings v_3.toNatClampNeg).toInt := by rw [ev_75]
                    have tv_75 := q_rd' hr_bz_p0_crossings (q_in (by omega) (by omega)) ev_75
                    refine lv_iconst (v := 1) hx hb dX9_readKnot_155 (by decide) (lv_iadd hx hb dX9_readKnot_156 (lv_topi fun v_76 ev_76 => ?_))
                    have tv_76 := q_add ev_76 (by omega) (by omega)
                    refine q_ist hx hb hK hP74 hDa za_r_readKnot hS74 1 0 rfl rfl (q_in (by omega) (by omega)) dX9_readKnot_157 (fun H77 lo77 g77 eg77 (hP77 : va_P (dC, dI) vwCl (zW_r_readKnot p0 fz_p0 p0_crossings c_p0_crossings g77 p0_kName c_p0_kName g21 p0_knots c_p0_knots b_p0_knots p0_sides c_p0_sides g74 p0_text c_p0_text b_p0_text) H77) hS77 => ?_)
                    clear hP74 hS74
                    have hr_g77 := q_up' hr_bz_p0_crossings eg77 ⟨by omega, by omega⟩
                    have usg77 : (g77 v_3.toNatClampNeg).toInt = v_76.toInt := by rw [eg77, pk_us]
                    refine lv_aload_n hx hb dX9_readKnot_158 rfl (lv_at hl 1 rfl) ?_
                    refine q_cVv (As := []) (rest := []) q_w0 trivial hK hP77 hDa za_r_readKnot hS77 hA [0, 5] [4] (by decide +kernel) ⟨hx, hb, hml, hown, hts⟩ (r_goOn l dC dI H77.size p0 fz_p0 p0_text c_p0_text b_p0_text atv env tkv sz ho_fz_p0 fr_fz_p0_1 fv_fz_p0_6 fv_fz_p0_7 fv_fz_p0_8 fh_fz_p0_3 ((by omega))) rfl rfl (cwV 0 hts (p1_gV m_19 m_20 m_21 m_6 g_r_goOn gz_r_goOn) rfl rfl rfl (by decide +kernel) ⟨by decide, by decide⟩) (va_recv hK hP77 (ci := 8) (q0 := 0) rfl rfl) zm_r_goOn rfl hl.1 rfl (Nat.le_of_ble_eq_true rfl) dX9_readKnot_159 ⟨by decide, by decide⟩ (fun H79 lo79 hG79 hS79 => ?_)
                    obtain ⟨o_80, o_81, o_82, o_83, ho_84, hf_85, z_86, z_87, z_88, z_89, hQ79⟩ := hG79
                    have to_81 := (OKX9_g6 ho_84).use z_86
                    have to_82 := (OKX9_g7 ho_84).use z_87
                    have to_83 := (OKX9_g8 ho_84).use z_88
                    have hP79 : va_P (dC, dI) vwCl (zW_r_readKnot p0 o_80 p0_crossings c_p0_crossings g77 p0_kName c_p0_kName g21 p0_knots c_p0_knots b_p0_knots p0_sides c_p0_sides g74 p0_text c_p0_text b_p0_text) H79 := hQ79
                    clear hQ79 hP77 hS77
                    refine lv_goto (tgt := 80) hx hb dX9_readKnot_162 (by decide) ?_
                    exact ih80 (fu80 - 1) (by omega) o_80 fkv o_81 o_82 o_83 g77 g74 _ _ _ (by omega) ho_84 (hf_fz_p0.tr hf_85 (by decide)) (hf_85.u (by decide) fr_fz_p0_1) (hf_85.u (by decide) fh_fz_p0_3) (hf_85.u (by decide) fv_fz_p0_4) (by omega) z_86 (by omega) z_87 (by omega) z_88 (by omega) (hf_85.u (by decide) fr_fz_p0_11) (hf_85.u (by decide) fr_fz_p0_21) (hf_85.u (by decide) fr_fz_p0_26) (hf_85.u (by decide) fr_fz_p0_27) (hf_85.u (by decide) fh_fz_p0_44) hr_g77 (by omega) (by omega) hP79 hS79 (lv_sub hl [0, 1] rfl)
                · refine lv_if_ne (tgt := 117) hx hb dX9_readKnot_113 (by decide) (fun c_90 => absurd c_90 (by decide)) (fun c_90 => ?_)
                  exact q_vret hx hb hr hlocks hS44 dX9_readKnot_116 ⟨fz_p0, bz_p0_crossings, g21, b_p0_knots, bz_p0_sides, atv, env, tkv, fkv, ho_fz_p0, hf_fz_p0, hr_bz_p0_crossings, hr_p0_knots, fv_fz_p0_6, fv_fz_p0_7, fv_fz_p0_8, fv_fz_p0_4, (by omega), (by omega), hP44, za_r_readKnot⟩
              · have tc_42 := q_eqN c_42
                refine lv_aload_n hx hb dX9_readKnot_105 rfl (lv_at hl 1 rfl) ?_
                refine q_cVv (As := []) (rest := []) q_w0 trivial hK hP38 hDa za_r_readKnot hS38 hA [0] [] (by decide +kernel) ⟨hx, hb, hml, hown, hts⟩ (r_misplaced l dC dI H38.size p0 fz_p0 ho_fz_p0) rfl rfl (cwV 0 hts (p1_gV m_22 m_23 m_24 m_6 g_r_misplaced gz_r_misplaced) rfl rfl rfl (by decide +kernel) ⟨by decide, by decide⟩) (va_recv hK hP38 (ci := 8) (q0 := 0) rfl rfl) zm_r_misplaced rfl hl.1 rfl (Nat.le_of_ble_eq_true rfl) dX9_readKnot_106 ⟨by decide, by decide⟩ (fun H92 lo92 hG92 hS92 => ?_)
                obtain ⟨o_93, o_94, ho_95, hf_96, z_97, z_98, hQ92⟩ := hG92
                have to_94 := (OKX9_g4 ho_95).use z_97
                have hP92 : va_P (dC, dI) vwCl (zW_r_readKnot p0 o_93 p0_crossings c_p0_crossings bz_p0_crossings p0_kName c_p0_kName g21 p0_knots c_p0_knots b_p0_knots p0_sides c_p0_sides bz_p0_sides p0_text c_p0_text b_p0_text) H92 := hQ92
                clear hQ92 hP38 hS38
                refine lv_aload_n hx hb dX9_readKnot_109 rfl (lv_at hl 1 rfl) ?_
                refine q_cVi (As := []) (rest := []) q_w0 trivial hK hP92 hDa za_r_readKnot hS92 hA [0] [] (by decide +kernel) ⟨hx, hb, hml, hown, hts⟩ (r_isGood l dC dI H92.size p0 o_93 o_94 ho_95 z_97) rfl rfl (cwV 0 hts (p1_gV m_9 m_10 m_11 m_6 g_r_isGood gz_r_isGood) rfl rfl rfl (by decide +kernel) ⟨by decide, by decide⟩) (va_recv hK hP92 (ci := 8) (q0 := 0) rfl rfl) zm_r_isGood rfl hl.1 rfl (Nat.le_of_ble_eq_true rfl) dX9_readKnot_110 ⟨by decide, by decide⟩ (fun r_99 H100 lo100 hG100 hS100 => ?_)
                obtain ⟨z_101, hQ100⟩ := hG100
                have hP100 : va_P (dC, dI) vwCl (zW_r_readKnot p0 o_93 p0_crossings c_p0_crossings bz_p0_crossings p0_kName c_p0_kName g21 p0_knots c_p0_knots b_p0_knots p0_sides c_p0_sides bz_p0_sides p0_text c_p0_text b_p0_text) H100 := hQ100
                clear hQ100 hP92 hS92
                rcases z_101 with ⟨rfl, z_101⟩ | ⟨rfl, z_101⟩
                · refine lv_if_ne (tgt := 117) hx hb dX9_readKnot_113 (by decide) (fun c_102 => ?_) (fun c_102 => absurd c_102 (by decide))
                  refine lv_aload_n hx hb dX9_readKnot_117 rfl (lv_at hl 1 rfl) (qg_X9_26 hx hb hts i_X9 hown hK hP100 0 rfl k_7 (hf_96.u (by decide) fr_fz_p0_26) dX9_readKnot_118 (lv_iload_n hx hb dX9_readKnot_121 rfl (lv_at hl 0 rfl) (lv_dup2_11 hx hb dX9_readKnot_122 rfl rfl (q_ild hx hb hK hP100 4 3 rfl rfl (q_in (by omega) (by omega)) dX9_readKnot_123 (fun v_103 ev_103 => ?_)))))
                  refine lv_aload_n hx hb dX9_readKnot_124 rfl (lv_at hl 1 rfl) (lv_ldc2 (v := 504363246962) hx hb hown k_15 dX9_readKnot_125 ?_)
                  obtain ⟨v_104, fv_104⟩ := OKX9_g10 ho_95
                  refine q_cVi (As := [.long 504363246962]) (rest := [.int v_103, .int v_3, .ref p0_sides]) q_w0 trivial hK hP100 hDa za_r_readKnot hS100 hA [0] [] (by decide +kernel) ⟨hx, hb, hml, hown, hts⟩ (r_isWord l dC dI H100.size p0 o_93 504363246962 tkv v_104 ho_95 ((hf_96.u (by decide) fv_fz_p0_8)) fv_104) rfl rfl (cwV 1 hts (p1_gV m_16 m_17 m_18 m_6 g_r_isWord gz_r_isWord) rfl rfl rfl (by decide +kernel) ⟨by decide, by decide⟩) (va_recv hK hP100 (ci := 8) (q0 := 0) rfl rfl) zm_r_isWord rfl hl.1 rfl (Nat.le_of_ble_eq_true rfl) dX9_readKnot_128 ⟨by decide, by decide⟩ (fun r_105 H106 lo106 hG106 hS106 => ?_)
                  obtain ⟨z_107, hQ106⟩ := hG106
                  have hP106 : va_P (dC, dI) vwCl (zW_r_readKnot p0 o_93 p0_crossings c_p0_crossings bz_p0_crossings p0_kName c_p0_kName g21 p0_knots c_p0_knots b_p0_knots p0_sides c_p0_sides bz_p0_sides p0_text c_p0_text b_p0_text) H106 := hQ106
                  clear hQ106 hP100 hS100
                  rcases z_107 with ⟨rfl, z_107⟩ | ⟨rfl, z_107⟩
                  · refine lv_if_eq (tgt := 145) hx hb dX9_readKnot_131 (by decide) (fun c_108 => absurd c_108 (by decide)) (fun c_108 => ?_)
                    refine lv_iconst (v := 1) hx hb dX9_readKnot_134 (by decide) (lv_aload_n hx hb dX9_readKnot_135 rfl (lv_at hl 1 rfl) (qg_X9_27 hx hb hts i_X9 hown hK hP106 0 rfl k_8 (hf_96.u (by decide) fr_fz_p0_27) dX9_readKnot_136 (lv_iload_n hx hb dX9_readKnot_139 rfl (lv_at hl 0 rfl) (q_ild hx hb hK hP106 1 0 rfl rfl (q_in (by omega) (by omega)) dX9_readKnot_140 (fun v_109 ev_109 => ?_)))))
                    have uv_109 : v_109.toInt = (bz_p0_crossings v_3.toNatClampNeg).toInt := by rw [ev_109]
                    have tv_109 := q_rd' hr_bz_p0_crossings (q_in (by omega) (by omega)) ev_109
                    refine lv_ishl hx hb dX9_readKnot_141 (lv_topi fun v_110 ev_110 => ?_)
                    have tv_110 : 1 ≤ v_110.toInt ∧ v_110.toInt ≤ 4096 := q_shl1 (k := 12) ev_110 (by omega) (by omega) (by decide)
                    refine lv_goto (tgt := 146) hx hb dX9_readKnot_142 (by decide) (lv_ior hx hb dX9_readKnot_146 (lv_topi fun v_111 ev_111 => q_ist hx hb hK hP106 hDa za_r_readKnot hS106 4 3 rfl rfl (q_in (by omega) (by omega)) dX9_readKnot_147 (fun H112 lo112 g112 eg112 (hP112 : va_P (dC, dI) vwCl (zW_r_readKnot p0 o_93 p0_crossings c_p0_crossings bz_p0_crossings p0_kName c_p0_kName g21 p0_knots c_p0_knots b_p0_knots p0_sides c_p0_sides g112 p0_text c_p0_text b_p0_text) H112) hS112 => ?_)))
                    clear hP106 hS106
                    refine lv_aload_n hx hb dX9_readKnot_148 rfl (lv_at hl 1 rfl) (qg_X9_27 hx hb hts i_X9 hown hK hP112 0 rfl k_8 (hf_96.u (by decide) fr_fz_p0_27) dX9_readKnot_149 (lv_iload_n hx hb dX9_readKnot_152 rfl (lv_at hl 0 rfl) (lv_dup2_11 hx hb dX9_readKnot_153 rfl rfl (q_ild hx hb hK hP112 1 0 rfl rfl (q_in (by omega) (by omega)) dX9_readKnot_154 (fun v_113 ev_113 => ?_)))))
                    have uv_113 : v_113.toInt = (bz_p0_crossings v_3.toNatClampNeg).toInt := by rw [ev_113]
                    have tv_113 := q_rd' hr_bz_p0_crossings (q_in (by omega) (by omega)) ev_113
                    refine lv_iconst (v := 1) hx hb dX9_readKnot_155 (by decide) (lv_iadd hx hb dX9_readKnot_156 (lv_topi fun v_114 ev_114 => ?_))
                    have tv_114 := q_add ev_114 (by omega) (by omega)
                    refine q_ist hx hb hK hP112 hDa za_r_readKnot hS112 1 0 rfl rfl (q_in (by omega) (by omega)) dX9_readKnot_157 (fun H115 lo115 g115 eg115 (hP115 : va_P (dC, dI) vwCl (zW_r_readKnot p0 o_93 p0_crossings c_p0_crossings g115 p0_kName c_p0_kName g21 p0_knots c_p0_knots b_p0_knots p0_sides c_p0_sides g112 p0_text c_p0_text b_p0_text) H115) hS115 => ?_)
                    clear hP112 hS112
                    have hr_g115 := q_up' hr_bz_p0_crossings eg115 ⟨by omega, by omega⟩
                    have usg115 : (g115 v_3.toNatClampNeg).toInt = v_114.toInt := by rw [eg115, pk_us]
                    refine lv_aload_n hx hb dX9_readKnot_158 rfl (lv_at hl 1 rfl) ?_
                    refine q_cVv (As := []) (rest := []) q_w0 trivial hK hP115 hDa za_r_readKnot hS115 hA [0, 5] [4] (by decide +kernel) ⟨hx, hb, hml, hown, hts⟩ (r_goOn l dC dI H115.size p0 o_93 p0_text c_p0_text b_p0_text atv env tkv sz ho_95 ((hf_96.u (by decide) fr_fz_p0_1)) ((hf_96.u (by decide) fv_fz_p0_6)) ((hf_96.u (by decide) fv_fz_p0_7)) ((hf_96.u (by decide) fv_fz_p0_8)) ((hf_96.u (by decide) fh_fz_p0_3)) ((by omega))) rfl rfl (cwV 0 hts (p1_gV m_19 m_20 m_21 m_6 g_r_goOn gz_r_goOn) rfl rfl rfl (by decide +kernel) ⟨by decide, by decide⟩) (va_recv hK hP115 (ci := 8) (q0 := 0) rfl rfl) zm_r_goOn rfl hl.1 rfl (Nat.le_of_ble_eq_true rfl) dX9_readKnot_159 ⟨by decide, by decide⟩ (fun H117 lo117 hG117 hS117 => ?_)
                    obtain ⟨o_118, o_119, o_120, o_121, ho_122, hf_123, z_124, z_125, z_126, z_127, hQ117⟩ := hG117
                    have to_119 := (OKX9_g6 ho_122).use z_124
                    have to_120 := (OKX9_g7 ho_122).use z_125
                    have to_121 := (OKX9_g8 ho_122).use z_126
                    have hP117 : va_P (dC, dI) vwCl (zW_r_readKnot p0 o_118 p0_crossings c_p0_crossings g115 p0_kName c_p0_kName g21 p0_knots c_p0_knots b_p0_knots p0_sides c_p0_sides g112 p0_text c_p0_text b_p0_text) H117 := hQ117
                    clear hQ117 hP115 hS115
                    refine lv_goto (tgt := 80) hx hb dX9_readKnot_162 (by decide) ?_
                    exact ih80 (fu80 - 1) (by omega) o_118 o_94 o_119 o_120 o_121 g115 g112 _ _ _ (by omega) ho_122 ((hf_fz_p0.tr hf_96 (by decide)).tr hf_123 (by decide)) (hf_123.u (by decide) (hf_96.u (by decide) fr_fz_p0_1)) (hf_123.u (by decide) (hf_96.u (by decide) fh_fz_p0_3)) (hf_123.u (by decide) z_97) (by omega) z_124 (by omega) z_125 (by omega) z_126 (by omega) (hf_123.u (by decide) (hf_96.u (by decide) fr_fz_p0_11)) (hf_123.u (by decide) (hf_96.u (by decide) fr_fz_p0_21)) (hf_123.u (by decide) (hf_96.u (by decide) fr_fz_p0_26)) (hf_123.u (by decide) (hf_96.u (by decide) fr_fz_p0_27)) (hf_123.u (by decide) (hf_96.u (by decide) fh_fz_p0_44)) hr_g115 (by omega) (by omega) hP117 hS117 (lv_sub hl [0, 1] rfl)
                  · refine lv_if_eq (tgt := 145) hx hb dX9_readKnot_131 (by decide) (fun c_128 => ?_) (fun c_128 => absurd c_128 (by decide))
                    refine lv_iconst (v := 0) hx hb dX9_readKnot_145 (by decide) (lv_ior hx hb dX9_readKnot_146 (lv_topi fun v_129 ev_129 => q_ist hx hb hK hP106 hDa za_r_readKnot hS106 4 3 rfl rfl (q_in (by omega) (by omega)) dX9_readKnot_147 (fun H130 lo130 g130 eg130 (hP130 : va_P (dC, dI) vwCl (zW_r_readKnot p0 o_93 p0_crossings c_p0_crossings bz_p0_crossings p0_kName c_p0_kName g21 p0_knots c_p0_knots b_p0_knots p0_sides c_p0_sides g130 p0_text c_p0_text b_p0_text) H130) hS130 => ?_)))
                    clear hP106 hS106
                    refine lv_aload_n hx hb dX9_readKnot_148 rfl (lv_at hl 1 rfl) (qg_X9_27 hx hb hts i_X9 hown hK hP130 0 rfl k_8 (hf_96.u (by decide) fr_fz_p0_27) dX9_readKnot_149 (lv_iload_n hx hb dX9_readKnot_152 rfl (lv_at hl 0 rfl) (lv_dup2_11 hx hb dX9_readKnot_153 rfl rfl (q_ild hx hb hK hP130 1 0 rfl rfl (q_in (by omega) (by omega)) dX9_readKnot_154 (fun v_131 ev_131 => ?_)))))
                    have uv_131 : v_131.toInt = (bz_p0_crossings v_3.toNatClampNeg).toInt := by rw [ev_131]
                    have tv_131 := q_rd' hr_bz_p0_crossings (q_in (by omega) (by omega)) ev_131
                    refine lv_iconst (v := 1) hx hb dX9_readKnot_155 (by decide) (lv_iadd hx hb dX9_readKnot_156 (lv_topi fun v_132 ev_132 => ?_))
                    have tv_132 := q_add ev_132 (by omega) (by omega)
                    refine q_ist hx hb hK hP130 hDa za_r_readKnot hS130 1 0 rfl rfl (q_in (by omega) (by omega)) dX9_readKnot_157 (fun H133 lo133 g133 eg133 (hP133 : va_P (dC, dI) vwCl (zW_r_readKnot p0 o_93 p0_crossings c_p0_crossings g133 p0_kName c_p0_kName g21 p0_knots c_p0_knots b_p0_knots p0_sides c_p0_sides g130 p0_text c_p0_text b_p0_text) H133) hS133 => ?_)
                    clear hP130 hS130
                    have hr_g133 := q_up' hr_bz_p0_crossings eg133 ⟨by omega, by omega⟩
                    have usg133 : (g133 v_3.toNatClampNeg).toInt = v_132.toInt := by rw [eg133, pk_us]
                    refine lv_aload_n hx hb dX9_readKnot_158 rfl (lv_at hl 1 rfl) ?_
                    refine q_cVv (As := []) (rest := []) q_w0 trivial hK hP133 hDa za_r_readKnot hS133 hA [0, 5] [4] (by decide +kernel) ⟨hx, hb, hml, hown, hts⟩ (r_goOn l dC dI H133.size p0 o_93 p0_text c_p0_text b_p0_text atv env tkv sz ho_95 ((hf_96.u (by decide) fr_fz_p0_1)) ((hf_96.u (by decide) fv_fz_p0_6)) ((hf_96.u (by decide) fv_fz_p0_7)) ((hf_96.u (by decide) fv_fz_p0_8)) ((hf_96.u (by decide) fh_fz_p0_3)) ((by omega))) rfl rfl (cwV 0 hts (p1_gV m_19 m_20 m_21 m_6 g_r_goOn gz_r_goOn) rfl rfl rfl (by decide +kernel) ⟨by decide, by decide⟩) (va_recv hK hP133 (ci := 8) (q0 := 0) rfl rfl) zm_r_goOn rfl hl.1 rfl (Nat.le_of_ble_eq_true rfl) dX9_readKnot_159 ⟨by decide, by decide⟩ (fun H135 lo135 hG135 hS135 => ?_)
                    obtain ⟨o_136, o_137, o_138, o_139, ho_140, hf_141, z_142, z_143, z_144, z_145, hQ135⟩ := hG135
                    have to_137 := (OKX9_g6 ho_140).use z_142
                    have to_138 := (OKX9_g7 ho_140).use z_143
                    have to_139 := (OKX9_g8 ho_140).use z_144
                    have hP135 : va_P (dC, dI) vwCl (zW_r_readKnot p0 o_136 p0_crossings c_p0_crossings g133 p0_kName c_p0_kName g21 p0_knots c_p0_knots b_p0_knots p0_sides c_p0_sides g130 p0_text c_p0_text b_p0_text) H135 := hQ135
                    clear hQ135 hP133 hS133
                    refine lv_goto (tgt := 80) hx hb dX9_readKnot_162 (by decide) ?_
                    exact ih80 (fu80 - 1) (by omega) o_136 o_94 o_137 o_138 o_139 g133 g130 _ _ _ (by omega) ho_140 ((hf_fz_p0.tr hf_96 (by decide)).tr hf_141 (by decide)) (hf_141.u (by decide) (hf_96.u (by decide) fr_fz_p0_1)) (hf_141.u (by decide) (hf_96.u (by decide) fh_fz_p0_3)) (hf_141.u (by decide) z_97) (by omega) z_142 (by omega) z_143 (by omega) z_144 (by omega) (hf_141.u (by decide) (hf_96.u (by decide) fr_fz_p0_11)) (hf_141.u (by decide) (hf_96.u (by decide) fr_fz_p0_21)) (hf_141.u (by decide) (hf_96.u (by decide) fr_fz_p0_26)) (hf_141.u (by decide) (hf_96.u (by decide) fr_fz_p0_27)) (hf_141.u (by decide) (hf_96.u (by decide) fh_fz_p0_44)) hr_g133 (by omega) (by omega) hP135 hS135 (lv_sub hl [0, 1] rfl)
                · refine lv_if_ne (tgt := 117) hx hb dX9_readKnot_113 (by decide) (fun c_146 => absurd c_146 (by decide)) (fun c_146 => ?_)
                  exact q_vret hx hb hr hlocks hS100 dX9_readKnot_116 ⟨o_93, bz_p0_crossings, g21, b_p0_knots, bz_p0_sides, atv, env, tkv, o_94, ho_95, (hf_fz_p0.tr hf_96 (by decide)), hr_bz_p0_crossings, hr_p0_knots, (hf_96.u (by decide) fv_fz_p0_6), (hf_96.u (by decide) fv_fz_p0_7), (hf_96.u (by decide) fv_fz_p0_8), z_97, (by omega), (by omega), hP100, za_r_readKnot⟩
            · refine lv_if_eq (tgt := 165) hx hb dX9_readKnot_91 (by decide) (fun c_147 => ?_) (fun c_147 => absurd c_147 (by decide))
              refine lv_aload_n hx hb dX9_readKnot_165 rfl (lv_at hl 1 rfl) (qg_X9_11 hx hb hts i_X9 hown hK hP38 0 rfl k_1 fr_fz_p0_11 dX9_readKnot_166 (lv_aload_n hx hb dX9_readKnot_169 rfl (lv_at hl 1 rfl) (qg_X9_44 hx hb hts i_X9 hown hK hP38 0 rfl k_0 fh_fz_p0_44 dX9_readKnot_170 (lv_dup2_11 hx hb dX9_readKnot_173 rfl rfl (q_ild hx hb hK hP38 3 2 rfl rfl (q_in (by omega) (by omega)) dX9_readKnot_174 (fun v_148 ev_148 => ?_))))))
              have uv_148 : v_148.toInt = (b_p0_knots rb.toNatClampNeg).toInt := by rw [ev_148]
              have tv_148 := q_rd' hr_p0_knots (q_in (by omega) (by omega)) ev_148
              refine lv_iconst (v := 1) hx hb dX9_readKnot_175 (by decide) (lv_iadd hx hb dX9_readKnot_176 (lv_topi fun v_149 ev_149 => ?_))
              have tv_149 := q_add ev_149 (by omega) (by omega)
              refine q_ist hx hb hK hP38 hDa za_r_readKnot hS38 3 2 rfl rfl (q_in (by omega) (by omega)) dX9_readKnot_177 (fun H150 lo150 g150 eg150 (hP150 : va_P (dC, dI) vwCl (zW_r_readKnot p0 fz_p0 p0_crossings c_p0_crossings bz_p0_crossings p0_kName c_p0_kName g21 p0_knots c_p0_knots g150 p0_sides c_p0_sides bz_p0_sides p0_text c_p0_text b_p0_text) H150) hS150 => ?_)
              clear hP38 hS38
              have hr_g150 := q_up' hr_p0_knots eg150 ⟨by omega, by omega⟩
              exact q_vret hx hb hr hlocks hS150 dX9_readKnot_178 ⟨fz_p0, bz_p0_crossings, g21, g150, bz_p0_sides, atv, env, tkv, fkv, ho_fz_p0, hf_fz_p0, hr_bz_p0_crossings, hr_g150, fv_fz_p0_6, fv_fz_p0_7, fv_fz_p0_8, fv_fz_p0_4, (by omega), (by omega), hP150, za_r_readKnot⟩
          · refine lv_if_eq (tgt := 165) hx hb dX9_readKnot_84 (by decide) (fun c_151 => ?_) (fun c_151 => absurd c_151 (by decide))
            refine lv_aload_n hx hb dX9_readKnot_165 rfl (lv_at hl 1 rfl) (qg_X9_11 hx hb hts i_X9 hown hK hP34 0 rfl k_1 fr_fz_p0_11 dX9_readKnot_166 (lv_aload_n hx hb dX9_readKnot_169 rfl (lv_at hl 1 rfl) (qg_X9_44 hx hb hts i_X9 hown hK hP34 0 rfl k_0 fh_fz_p0_44 dX9_readKnot_170 (lv_dup2_11 hx hb dX9_readKnot_173 rfl rfl (q_ild hx hb hK hP34 3 2 rfl rfl (q_in (by omega) (by omega)) dX9_readKnot_174 (fun v_152 ev_152 => ?_))))))
            have uv_152 : v_152.toInt = (b_p0_knots rb.toNatClampNeg).toInt := by rw [ev_152]
            have tv_152 := q_rd' hr_p0_knots (q_in (by omega) (by omega)) ev_152
            refine lv_iconst (v := 1) hx hb dX9_readKnot_175 (by decide) (lv_iadd hx hb dX9_readKnot_176 (lv_topi fun v_153 ev_153 => ?_))
            have tv_153 := q_add ev_153 (by omega) (by omega)
            refine q_ist hx hb hK hP34 hDa za_r_readKnot hS34 3 2 rfl rfl (q_in (by omega) (by omega)) dX9_readKnot_177 (fun H154 lo154 g154 eg154 (hP154 : va_P (dC, dI) vwCl (zW_r_readKnot p0 fz_p0 p0_crossings c_p0_crossings bz_p0_crossings p0_kName c_p0_kName g21 p0_knots c_p0_knots g154 p0_sides c_p0_sides bz_p0_sides p0_text c_p0_text b_p0_text) H154) hS154 => ?_)
            clear hP34 hS34
            have hr_g154 := q_up' hr_p0_knots eg154 ⟨by omega, by omega⟩
            exact q_vret hx hb hr hlocks hS154 dX9_readKnot_178 ⟨fz_p0, bz_p0_crossings, g21, g154, bz_p0_sides, atv, env, tkv, fkv, ho_fz_p0, hf_fz_p0, hr_bz_p0_crossings, hr_g154, fv_fz_p0_6, fv_fz_p0_7, fv_fz_p0_8, fv_fz_p0_4, (by omega), (by omega), hP154, za_r_readKnot⟩
      exact key80 13 o_8 o_12 o_9 o_10 o_11 g23 g22 _ _ _ (by omega) ho_13 (q_fr.rf.tr hf_14 (by decide)) (hf_14.u (by decide) fr_p0_1) (hf_14.u (by decide) pf_sz) z_18 (by omega) z_15 (by omega) z_16 (by omega) z_17 (by omega) (hf_14.u (by decide) fr_p0_11) (hf_14.u (by decide) fr_p0_21) (hf_14.u (by decide) fr_p0_26) (hf_14.u (by decide) fr_p0_27) (hf_14.u (by decide) pf_rb) hr_g23 (by omega) (by omega) hP29 hS29 (lv_sub hl [0, 1] rfl)
    · refine lv_if_ne (tgt := 80) hx hb dX9_readKnot_73 (by decide) (fun c_155 => absurd c_155 (by decide)) (fun c_155 => ?_)
      refine lv_aload_n hx hb dX9_readKnot_76 rfl (lv_at hl 1 rfl) ?_
      refine q_cVv (As := []) (rest := []) q_w0 trivial hK hP29 hDa za_r_readKnot hS29 hA [0] [] (by decide +kernel) ⟨hx, hb, hml, hown, hts⟩ (r_misplaced l dC dI H29.size p0 o_8 ho_13) rfl rfl (cwV 0 hts (p1_gV m_22 m_23 m_24 m_6 g_r_misplaced gz_r_misplaced) rfl rfl rfl (by decide +kernel) ⟨by decide, by decide⟩) (va_recv hK hP29 (ci := 8) (q0 := 0) rfl rfl) zm_r_misplaced rfl hl.1 rfl (Nat.le_of_ble_eq_true rfl) dX9_readKnot_77 ⟨by decide, by decide⟩ (fun H157 lo157 hG157 hS157 => ?_)
      obtain ⟨o_158, o_159, ho_160, hf_161, z_162, z_163, hQ157⟩ := hG157
      have to_159 := (OKX9_g4 ho_160).use z_162
      have hP157 : va_P (dC, dI) vwCl (zW_r_readKnot p0 o_158 p0_crossings c_p0_crossings g23 p0_kName c_p0_kName g21 p0_knots c_p0_knots b_p0_knots p0_sides c_p0_sides g22 p0_text c_p0_text b_p0_text) H157 := hQ157
      clear hQ157 hP29 hS29
      have key80 : ∀ (fu80 : Nat) (fz_p0 : List Value) (fkv : Int32) (atv : Int32) (env : Int32) (tkv : Int32) (bz_p0_crossings : Nat → Int32) (bz_p0_sides : Nat → Int32) (H : Heap) (locs : List Loc) (ls : Array Slot) (hfu80 : 13 - (bz_p0_crossings v_3.toNatClampNeg).toInt ≤ (fu80 : Int)) (ho_fz_p0 : OKX9 fz_p0) (hf_fz_p0 : q_fr [4, 5, 6, 7, 8, 9, 10] f_p0 fz_p0) (fr_fz_p0_1 : fz_p0[1]? = some (.ref p0_text)) (fh_fz_p0_3 : fz_p0[3]? = some (.int sz)) (fv_fz_p0_4 : fz_p0[4]? = some (.int fkv)) (tfkv : (0) ≤ fkv.toInt ∧ fkv.toInt ≤ 4) (fv_fz_p0_6 : fz_p0[6]? = some (.int atv)) (tatv : (0) ≤ atv.toInt ∧ atv.toInt ≤ 1600) (fv_fz_p0_7 : fz_p0[7]? = some (.int env)) (tenv : (0) ≤ env.toInt ∧ env.toInt ≤ 1601) (fv_fz_p0_8 : fz_p0[8]? = some (.int tkv)) (ttkv : (0) ≤ tkv.toInt ∧ tkv.toInt ≤ 5) (fr_fz_p0_11 : fz_p0[11]? = some (.ref p0_knots)) (fr_fz_p0_21 : fz_p0[21]? = some (.ref p0_kName)) (fr_fz_p0_26 : fz_p0[26]? = some (.ref p0_sides)) (fr_fz_p0_27 : fz_p0[27]? = some (.ref p0_crossings)) (fh_fz_p0_44 : fz_p0[44]? = some (.int rb)) (hr_bz_p0_crossings : ∀ k, k < 12 → (0) ≤ (bz_p0_crossings k).toInt ∧ (bz_p0_crossings k).toInt ≤ 12) (hq80_0 : env.toInt ≤ sz.toInt ∧ at0.toInt ≤ atv.toInt ∧ atv.toInt ≤ env.toInt ∧ (tkv.toInt ≠ 3 ∨ atv.toInt < env.toInt)) (hq80_1 : fk.toInt = 0 ∨ 1 ≤ fkv.toInt), va_P (dC, dI) vwCl (zW_r_readKnot p0 fz_p0 p0_crossings c_p0_crossings bz_p0_crossings p0_kName c_p0_kName g21 p0_knots c_p0_knots b_p0_knots p0_sides c_p0_sides bz_p0_sides p0_text c_p0_text b_p0_text) H → va_S A s.heap H locs → lv_has ls 2 [(1, .int v_3), (0, .ref p0)] → W p l e (headSpec zw_r_readKnot { frames := 3, cells := 0, slots := 0, locals := 69 }).room s m ([.ref p0] : List Value).toArray below meth c H locs 0 0 (MQ below (q_Qv (dC, dI) (zG_r_readKnot p0 f_p0 p0_crossings c_p0_crossings b_p0_crossings p0_kName c_p0_kName b_p0_kName p0_knots c_p0_knots b_p0_knots p0_sides c_p0_sides b_p0_sides p0_text c_p0_text b_p0_text at0 en tk sz fk rb) (zA_r_readKnot p0 p0_crossings p0_kName p0_knots p0_sides p0_text) A) ([.ref p0] : List Value).toArray s 0 0 A) (F0 m 80 ls []) := by
        intro fu80
        induction fu80 using Nat.strongRecOn with
        | ind fu80 ih80 =>
          intro fz_p0 fkv atv env tkv bz_p0_crossings bz_p0_sides H164 lo164 ls hfu80 ho_fz_p0 hf_fz_p0 fr_fz_p0_1 fh_fz_p0_3 fv_fz_p0_4 tfkv fv_fz_p0_6 tatv fv_fz_p0_7 tenv fv_fz_p0_8 ttkv fr_fz_p0_11 fr_fz_p0_21 fr_fz_p0_26 fr_fz_p0_27 fh_fz_p0_44 hr_bz_p0_crossings hq80_0 hq80_1 hP164 hS164 hl
          refine lv_aload_n hx hb dX9_readKnot_80 rfl (lv_at hl 1 rfl) ?_
          refine q_cVi (As := []) (rest := []) q_w0 trivial hK hP164 hDa za_r_readKnot hS164 hA [0] [] (by decide +kernel) ⟨hx, hb, hml, hown, hts⟩ (r_isGood l dC dI H164.size p0 fz_p0 fkv ho_fz_p0 fv_fz_p0_4) rfl rfl (cwV 0 hts (p1_gV m_9 m_10 m_11 m_6 g_r_isGood gz_r_isGood) rfl rfl rfl (by decide +kernel) ⟨by decide, by decide⟩) (va_recv hK hP164 (ci := 8) (q0 := 0) rfl rfl) zm_r_isGood rfl hl.1 rfl (Nat.le_of_ble_eq_true rfl) dX9_readKnot_81 ⟨by decide, by decide⟩ (fun r_165 H166 lo166 hG166 hS166 => ?_)
          obtain ⟨z_167, hQ166⟩ := hG166
          have hP166 : va_P (dC, dI) vwCl (zW_r_readKnot p0 fz_p0 p0_crossings c_p0_crossings bz_p0_crossings p0_kName c_p0_kName g21 p0_knots c_p0_knots b_p0_knots p0_sides c_p0_sides bz_p0_sides p0_text c_p0_text b_p0_text) H166 := hQ166
          clear hQ166 hP164 hS164
          rcases z_167 with ⟨rfl, z_167⟩ | ⟨rfl, z_167⟩
          · refine lv_if_eq (tgt := 165) hx hb dX9_readKnot_84 (by decide) (fun c_168 => absurd c_168 (by decide)) (fun c_168 => ?_)
            refine lv_aload_n hx hb dX9_readKnot_87 rfl (lv_at hl 1 rfl) ?_
            refine q_cVi (As := []) (rest := []) q_w0 trivial hK hP166 hDa za_r_readKnot hS166 hA [0] [] (by decide +kernel) ⟨hx, hb, hml, hown, hts⟩ (r_isSide l dC dI H166.size p0 fz_p0 ho_fz_p0) rfl rfl (cwV 0 hts (p1_gV m_12 m_13 m_14 m_6 g_r_isSide gz_r_isSide) rfl rfl rfl (by decide +kernel) ⟨by decide, by decide⟩) (va_recv hK hP166 (ci := 8) (q0 := 0) rfl rfl) zm_r_isSide rfl hl.1 rfl (Nat.le_of_ble_eq_true rfl) dX9_readKnot_88 ⟨by decide, by decide⟩ (fun r_169 H170 lo170 hG170 hS170 => ?_)
            obtain ⟨z_171, hQ170⟩ := hG170
            have hP170 : va_P (dC, dI) vwCl (zW_r_readKnot p0 fz_p0 p0_crossings c_p0_crossings bz_p0_crossings p0_kName c_p0_kName g21 p0_knots c_p0_knots b_p0_knots p0_sides c_p0_sides bz_p0_sides p0_text c_p0_text b_p0_text) H170 := hQ170
            clear hQ170 hP166 hS166
            rcases z_171 with ⟨rfl, z_171⟩ | ⟨rfl, z_171⟩
            · refine lv_if_eq (tgt := 165) hx hb dX9_readKnot_91 (by decide) (fun c_172 => absurd c_172 (by decide)) (fun c_172 => ?_)
              refine lv_aload_n hx hb dX9_readKnot_94 rfl (lv_at hl 1 rfl) (qg_X9_27 hx hb hts i_X9 hown hK hP170 0 rfl k_8 fr_fz_p0_27 dX9_readKnot_95 (lv_iload_n hx hb dX9_readKnot_98 rfl (lv_at hl 0 rfl) (q_ild hx hb hK hP170 1 0 rfl rfl (q_in (by omega) (by omega)) dX9_readKnot_99 (fun v_173 ev_173 => ?_))))
              have uv_173 : v_173.toInt = (bz_p0_crossings v_3.toNatClampNeg).toInt := by rw [ev_173]
              have tv_173 := q_rd' hr_bz_p0_crossings (q_in (by omega) (by omega)) ev_173
              refine lv_bipush (v := 12) hx hb dX9_readKnot_100 (by decide) ?_
              refine lv_icmp_ne (tgt := 109) hx hb dX9_readKnot_102 (by decide) (fun c_174 => ?_) (fun c_174 => ?_)
              · have tc_174 := q_ne c_174
                refine lv_aload_n hx hb dX9_readKnot_109 rfl (lv_at hl 1 rfl) ?_
                refine q_cVi (As := []) (rest := []) q_w0 trivial hK hP170 hDa za_r_readKnot hS170 hA [0] [] (by decide +kernel) ⟨hx, hb, hml, hown, hts⟩ (r_isGood l dC dI H170.size p0 fz_p0 fkv ho_fz_p0 fv_fz_p0_4) rfl rfl (cwV 0 hts (p1_gV m_9 m_10 m_11 m_6 g_r_isGood gz_r_isGood) rfl rfl rfl (by decide +kernel) ⟨by decide, by decide⟩) (va_recv hK hP170 (ci := 8) (q0 := 0) rfl rfl) zm_r_isGood rfl hl.1 rfl (Nat.le_of_ble_eq_true rfl) dX9_readKnot_110 ⟨by decide, by decide⟩ (fun r_175 H176 lo176 hG176 hS176 => ?_)
                obtain ⟨z_177, hQ176⟩ := hG176
                have hP176 : va_P (dC, dI) vwCl (zW_r_readKnot p0 fz_p0 p0_crossings c_p0_crossings bz_p0_crossings p0_kName c_p0_kName g21 p0_knots c_p0_knots b_p0_knots p0_sides c_p0_sides bz_p0_sides p0_text c_p0_text b_p0_text) H176 := hQ176
                clear hQ176 hP170 hS170
                rcases z_177 with ⟨rfl, z_177⟩ | ⟨rfl, z_177⟩
                · refine lv_if_ne (tgt := 117) hx hb dX9_readKnot_113 (by decide) (fun c_178 => ?_) (fun c_178 => absurd c_178 (by decide))
                  refine lv_aload_n hx hb dX9_readKnot_117 rfl (lv_at hl 1 rfl) (qg_X9_26 hx hb hts i_X9 hown hK hP176 0 rfl k_7 fr_fz_p0_26 dX9_readKnot_118 (lv_iload_n hx hb dX9_readKnot_121 rfl (lv_at hl 0 rfl) (lv_dup2_11 hx hb dX9_readKnot_122 rfl rfl (q_ild hx hb hK hP176 4 3 rfl rfl (q_in (by omega) (by omega)) dX9_readKnot_123 (fun v_179 ev_179 => ?_)))))
                  refine lv_aload_n hx hb dX9_readKnot_124 rfl (lv_at hl 1 rfl) (lv_ldc2 (v := 504363246962) hx hb hown k_15 dX9_readKnot_125 ?_)
                  obtain ⟨v_180, fv_180⟩ := OKX9_g10 ho_fz_p0
                  refine q_cVi (As := [.long 504363246962]) (rest := [.int v_179, .int v_3, .ref p0_sides]) q_w0 trivial hK hP176 hDa za_r_readKnot hS176 hA [0] [] (by decide +kernel) ⟨hx, hb, hml, hown, hts⟩ (r_isWord l dC dI H176.size p0 fz_p0 504363246962 tkv v_180 ho_fz_p0 fv_fz_p0_8 fv_180) rfl rfl (cwV 1 hts (p1_gV m_16 m_17 m_18 m_6 g_r_isWord gz_r_isWord) rfl rfl rfl (by decide +kernel) ⟨by decide, by decide⟩) (va_recv hK hP176 (ci := 8) (q0 := 0) rfl rfl) zm_r_isWord rfl hl.1 rfl (Nat.le_of_ble_eq_true rfl) dX9_readKnot_128 ⟨by decide, by decide⟩ (fun r_181 H182 lo182 hG182 hS182 => ?_)
                  obtain ⟨z_183, hQ182⟩ := hG182
                  have hP182 : va_P (dC, dI) vwCl (zW_r_readKnot p0 fz_p0 p0_crossings c_p0_crossings bz_p0_crossings p0_kName c_p0_kName g21 p0_knots c_p0_knots b_p0_knots p0_sides c_p0_sides bz_p0_sides p0_text c_p0_text b_p0_text) H182 := hQ182
                  clear hQ182 hP176 hS176
                  rcases z_183 with ⟨rfl, z_183⟩ | ⟨rfl, z_183⟩
                  · refine lv_if_eq (tgt := 145) hx hb dX9_readKnot_131 (by decide) (fun c_184 => absurd c_184 (by decide)) (fun c_184 => ?_)
                    refine lv_iconst (v := 1) hx hb dX9_readKnot_134 (by decide) (lv_aload_n hx hb dX9_readKnot_135 rfl (lv_at hl 1 rfl) (qg_X9_27 hx hb hts i_X9 hown hK hP182 0 rfl k_8 fr_fz_p0_27 dX9_readKnot_136 (lv_iload_n hx hb dX9_readKnot_139 rfl (lv_at hl 0 rfl) (q_ild hx hb hK hP182 1 0 rfl rfl (q_in (by omega) (by omega)) dX9_readKnot_140 (fun v_185 ev_185 => ?_)))))
                    have uv_185 : v_185.toInt = (bz_p0_crossings v_3.toNatClampNeg).toInt := by rw [ev_185]
                    have tv_185 := q_rd' hr_bz_p0_crossings (q_in (by omega) (by omega)) ev_185
                    refine lv_ishl hx hb dX9_readKnot_141 (lv_topi fun v_186 ev_186 => ?_)
                    have tv_186 : 1 ≤ v_186.toInt ∧ v_186.toInt ≤ 4096 := q_shl1 (k := 12) ev_186 (by omega) (by omega) (by decide)
                    refine lv_goto (tgt := 146) hx hb dX9_readKnot_142 (by decide) (lv_ior hx hb dX9_readKnot_146 (lv_topi fun v_187 ev_187 => q_ist hx hb hK hP182 hDa za_r_readKnot hS182 4 3 rfl rfl (q_in (by omega) (by omega)) dX9_readKnot_147 (fun H188 lo188 g188 eg188 (hP188 : va_P (dC, dI) vwCl (zW_r_readKnot p0 fz_p0 p0_crossings c_p0_crossings bz_p0_crossings p0_kName c_p0_kName g21 p0_knots c_p0_knots b_p0_knots p0_sides c_p0_sides g188 p0_text c_p0_text b_p0_text) H188) hS188 => ?_)))
                    clear hP182 hS182
                    refine lv_aload_n hx hb dX9_readKnot_148 rfl (lv_at hl 1 rfl) (qg_X9_27 hx hb hts i_X9 hown hK hP188 0 rfl k_8 fr_fz_p0_27 dX9_readKnot_149 (lv_iload_n hx hb dX9_readKnot_152 rfl (lv_at hl 0 rfl) (lv_dup2_11 hx hb dX9_readKnot_153 rfl rfl (q_ild hx hb hK hP188 1 0 rfl rfl (q_in (by omega) (by omega)) dX9_readKnot_154 (fun v_189 ev_189 => ?_)))))
                    have uv_189 : v_189.toInt = (bz_p0_crossings v_3.toNatClampNeg).toInt := by rw [ev_189]
                    have tv_189 := q_rd' hr_bz_p0_crossings (q_in (by omega) (by omega)) ev_189
                    refine lv_iconst (v := 1) hx hb dX9_readKnot_155 (by decide) (lv_iadd hx hb dX9_readKnot_156 (lv_topi fun v_190 ev_190 => ?_))
                    have tv_190 := q_add ev_190 (by omega) (by omega)
                    refine q_ist hx hb hK hP188 hDa za_r_readKnot hS188 1 0 rfl rfl (q_in (by omega) (by omega)) dX9_readKnot_157 (fun H191 lo191 g191 eg191 (hP191 : va_P (dC, dI) vwCl (zW_r_readKnot p0 fz_p0 p0_crossings c_p0_crossings g191 p0_kName c_p0_kName g21 p0_knots c_p0_knots b_p0_knots p0_sides c_p0_sides g188 p0_text c_p0_text b_p0_text) H191) hS191 => ?_)
                    clear hP188 hS188
                    have hr_g191 := q_up' hr_bz_p0_crossings eg191 ⟨by omega, by omega⟩
                    have usg191 : (g191 v_3.toNatClampNeg).toInt = v_190.toInt := by rw [eg191, pk_us]
                    refine lv_aload_n hx hb dX9_readKnot_158 rfl (lv_at hl 1 rfl) ?_
                    refine q_cVv (As := []) (rest := []) q_w0 trivial hK hP191 hDa za_r_readKnot hS191 hA [0, 5] [4] (by decide +kernel) ⟨hx, hb, hml, hown, hts⟩ (r_goOn l dC dI H191.size p0 fz_p0 p0_text c_p0_text b_p0_text atv env tkv sz ho_fz_p0 fr_fz_p0_1 fv_fz_p0_6 fv_fz_p0_7 fv_fz_p0_8 fh_fz_p0_3 ((by omega))) rfl rfl (cwV 0 hts (p1_gV m_19 m_20 m_21 m_6 g_r_goOn gz_r_goOn) rfl rfl rfl (by decide +kernel) ⟨by decide, by decide⟩) (va_recv hK hP191 (ci := 8) (q0 := 0) rfl rfl) zm_r_goOn rfl hl.1 rfl (Nat.le_of_ble_eq_true rfl) dX9_readKnot_159 ⟨by decide, by decide⟩ (fun H193 lo193 hG193 hS193 => ?_)
                    obtain ⟨o_194, o_195, o_196, o_197, ho_198, hf_199, z_200, z_201, z_202, z_203, hQ193⟩ := hG193
                    have to_195 := (OKX9_g6 ho_198).use z_200
                    have to_196 := (OKX9_g7 ho_198).use z_201
                    have to_197 := (OKX9_g8 ho_198).use z_202
                    have hP193 : va_P (dC, dI) vwCl (zW_r_readKnot p0 o_194 p0_crossings c_p0_crossings g191 p0_kName c_p0_kName g21 p0_knots c_p0_knots b_p0_knots p0_sides c_p0_sides g188 p0_text c_p0_text b_p0_text) H193 := hQ193
                    clear hQ193 hP191 hS191
                    refine lv_goto (tgt := 80) hx hb dX9_readKnot_162 (by decide) ?_
                    exact ih80 (fu80 - 1) (by omega) o_194 fkv o_195 o_196 o_197 g191 g188 _ _ _ (by omega) ho_198 (hf_fz_p0.tr hf_199 (by decide)) (hf_199.u (by decide) fr_fz_p0_1) (hf_199.u (by decide) fh_fz_p0_3) (hf_199.u (by decide) fv_fz_p0_4) (by omega) z_200 (by omega) z_201 (by omega) z_202 (by omega) (hf_199.u (by decide) fr_fz_p0_11) (hf_199.u (by decide) fr_fz_p0_21) (hf_199.u (by decide) fr_fz_p0_26) (hf_199.u (by decide) fr_fz_p0_27) (hf_199.u (by decide) fh_fz_p0_44) hr_g191 (by omega) (by omega) hP193 hS193 (lv_sub hl [0, 1] rfl)
                  · refine lv_if_eq (tgt := 145) hx hb dX9_readKnot_131 (by decide) (fun c_204 => ?_) (fun c_204 => absurd c_204 (by decide))
                    refine lv_iconst (v := 0) hx hb dX9_readKnot_145 (by decide) (lv_ior hx hb dX9_readKnot_146 (lv_topi fun v_205 ev_205 => q_ist hx hb hK hP182 hDa za_r_readKnot hS182 4 3 rfl rfl (q_in (by omega) (by omega)) dX9_readKnot_147 (fun H206 lo206 g206 eg206 (hP206 : va_P (dC, dI) vwCl (zW_r_readKnot p0 fz_p0 p0_crossings c_p0_crossings bz_p0_crossings p0_kName c_p0_kName g21 p0_knots c_p0_knots b_p0_knots p0_sides c_p0_sides g206 p0_text c_p0_text b_p0_text) H206) hS206 => ?_)))
                    clear hP182 hS182
                    refine lv_aload_n hx hb dX9_readKnot_148 rfl (lv_at hl 1 rfl) (qg_X9_27 hx hb hts i_X9 hown hK hP206 0 rfl k_8 fr_fz_p0_27 dX9_readKnot_149 (lv_iload_n hx hb dX9_readKnot_152 rfl (lv_at hl 0 rfl) (lv_dup2_11 hx hb dX9_readKnot_153 rfl rfl (q_ild hx hb hK hP206 1 0 rfl rfl (q_in (by omega) (by omega)) dX9_readKnot_154 (fun v_207 ev_207 => ?_)))))
                    have uv_207 : v_207.toInt = (bz_p0_crossings v_3.toNatClampNeg).toInt := by rw [ev_207]
                    have tv_207 := q_rd' hr_bz_p0_crossings (q_in (by omega) (by omega)) ev_207
                    refine lv_iconst (v := 1) hx hb dX9_readKnot_155 (by decide) (lv_iadd hx hb dX9_readKnot_156 (lv_topi fun v_208 ev_208 => ?_))
                    have tv_208 := q_add ev_208 (by omega) (by omega)
                    refine q_ist hx hb hK hP206 hDa za_r_readKnot hS206 1 0 rfl rfl (q_in (by omega) (by omega)) dX9_readKnot_157 (fun H209 lo209 g209 eg209 (hP209 : va_P (dC, dI) vwCl (zW_r_readKnot p0 fz_p0 p0_crossings c_p0_crossings g209 p0_kName c_p0_kName g21 p0_knots c_p0_knots b_p0_knots p0_sides c_p0_sides g206 p0_text c_p0_text b_p0_text) H209) hS209 => ?_)
                    clear hP206 hS206
                    have hr_g209 := q_up' hr_bz_p0_crossings eg209 ⟨by omega, by omega⟩
                    have usg209 : (g209 v_3.toNatClampNeg).toInt = v_208.toInt := by rw [eg209, pk_us]
                    refine lv_aload_n hx hb dX9_readKnot_158 rfl (lv_at hl 1 rfl) ?_
                    refine q_cVv (As := []) (rest := []) q_w0 trivial hK hP209 hDa za_r_readKnot hS209 hA [0, 5] [4] (by decide +kernel) ⟨hx, hb, hml, hown, hts⟩ (r_goOn l dC dI H209.size p0 fz_p0 p0_text c_p0_text b_p0_text atv env tkv sz ho_fz_p0 fr_fz_p0_1 fv_fz_p0_6 fv_fz_p0_7 fv_fz_p0_8 fh_fz_p0_3 ((by omega))) rfl rfl (cwV 0 hts (p1_gV m_19 m_20 m_21 m_6 g_r_goOn gz_r_goOn) rfl rfl rfl (by decide +kernel) ⟨by decide, by decide⟩) (va_recv hK hP209 (ci := 8) (q0 := 0) rfl rfl) zm_r_goOn rfl hl.1 rfl (Nat.le_of_ble_eq_true rfl) dX9_readKnot_159 ⟨by decide, by decide⟩ (fun H211 lo211 hG211 hS211 => ?_)
                    obtain ⟨o_212, o_213, o_214, o_215, ho_216, hf_217, z_218, z_219, z_220, z_221, hQ211⟩ := hG211
                    have to_213 := (OKX9_g6 ho_216).use z_218
                    have to_214 := (OKX9_g7 ho_216).use z_219
                    have to_215 := (OKX9_g8 ho_216).use z_220
                    have hP211 : va_P (dC, dI) vwCl (zW_r_readKnot p0 o_212 p0_crossings c_p0_crossings g209 p0_kName c_p0_kName g21 p0_knots c_p0_knots b_p0_knots p0_sides c_p0_sides g206 p0_text c_p0_text b_p0_text) H211 := hQ211
                    clear hQ211 hP209 hS209
                    refine lv_goto (tgt := 80) hx hb dX9_readKnot_162 (by decide) ?_
                    exact ih80 (fu80 - 1) (by omega) o_212 fkv o_213 o_214 o_215 g209 g206 _ _ _ (by omega) ho_216 (hf_fz_p0.tr hf_217 (by decide)) (hf_217.u (by decide) fr_fz_p0_1) (hf_217.u (by decide) fh_fz_p0_3) (hf_217.u (by decide) fv_fz_p0_4) (by omega) z_218 (by omega) z_219 (by omega) z_220 (by omega) (hf_217.u (by decide) fr_fz_p0_11) (hf_217.u (by decide) fr_fz_p0_21) (hf_217.u (by decide) fr_fz_p0_26) (hf_217.u (by decide) fr_fz_p0_27) (hf_217.u (by decide) fh_fz_p0_44) hr_g209 (by omega) (by omega) hP211 hS211 (lv_sub hl [0, 1] rfl)
                · refine lv_if_ne (tgt := 117) hx hb dX9_readKnot_113 (by decide) (fun c_222 => absurd c_222 (by decide)) (fun c_222 => ?_)
                  exact q_vret hx hb hr hlocks hS176 dX9_readKnot_116 ⟨fz_p0, bz_p0_crossings, g21, b_p0_knots, bz_p0_sides, atv, env, tkv, fkv, ho_fz_p0, hf_fz_p0, hr_bz_p0_crossings, hr_p0_knots, fv_fz_p0_6, fv_fz_p0_7, fv_fz_p0_8, fv_fz_p0_4, (by omega), (by omega), hP176, za_r_readKnot⟩
              · have tc_174 := q_eqN c_174
                refine lv_aload_n hx hb dX9_readKnot_105 rfl (lv_at hl 1 rfl) ?_
                refine q_cVv (As := []) (rest := []) q_w0 trivial hK hP170 hDa za_r_readKnot hS170 hA [0] [] (by decide +kernel) ⟨hx, hb, hml, hown, hts⟩ (r_misplaced l dC dI H170.size p0 fz_p0 ho_fz_p0) rfl rfl (cwV 0 hts (p1_gV m_22 m_23 m_24 m_6 g_r_misplaced gz_r_misplaced) rfl rfl rfl (by decide +kernel) ⟨by decide, by decide⟩) (va_recv hK hP170 (ci := 8) (q0 := 0) rfl rfl) zm_r_misplaced rfl hl.1 rfl (Nat.le_of_ble_eq_true rfl) dX9_readKnot_106 ⟨by decide, by decide⟩ (fun H224 lo224 hG224 hS224 => ?_)
                obtain ⟨o_225, o_226, ho_227, hf_228, z_229, z_230, hQ224⟩ := hG224
                have to_226 := (OKX9_g4 ho_227).use z_229
                have hP224 : va_P (dC, dI) vwCl (zW_r_readKnot p0 o_225 p0_crossings c_p0_crossings bz_p0_crossings p0_kName c_p0_kName g21 p0_knots c_p0_knots b_p0_knots p0_sides c_p0_sides bz_p0_sides p0_text c_p0_text b_p0_text) H224 := hQ224
                clear hQ224 hP170 hS170
                refine lv_aload_n hx hb dX9_readKnot_109 rfl (lv_at hl 1 rfl) ?_
                refine q_cVi (As := []) (rest := []) q_w0 trivial hK hP224 hDa za_r_readKnot hS224 hA [0] [] (by decide +kernel) ⟨hx, hb, hml, hown, hts⟩ (r_isGood l dC dI H224.size p0 o_225 o_226 ho_227 z_229) rfl rfl (cwV 0 hts (p1_gV m_9 m_10 m_11 m_6 g_r_isGood gz_r_isGood) rfl rfl rfl (by decide +kernel) ⟨by decide, by decide⟩) (va_recv hK hP224 (ci := 8) (q0 := 0) rfl rfl) zm_r_isGood rfl hl.1 rfl (Nat.le_of_ble_eq_true rfl) dX9_readKnot_110 ⟨by decide, by decide⟩ (fun r_231 H232 lo232 hG232 hS232 => ?_)
                obtain ⟨z_233, hQ232⟩ := hG232
                have hP232 : va_P (dC, dI) vwCl (zW_r_readKnot p0 o_225 p0_crossings c_p0_crossings bz_p0_crossings p0_kName c_p0_kName g21 p0_knots c_p0_knots b_p0_knots p0_sides c_p0_sides bz_p0_sides p0_text c_p0_text b_p0_text) H232 := hQ232
                clear hQ232 hP224 hS224
                rcases z_233 with ⟨rfl, z_233⟩ | ⟨rfl, z_233⟩
                · refine lv_if_ne (tgt := 117) hx hb dX9_readKnot_113 (by decide) (fun c_234 => ?_) (fun c_234 => absurd c_234 (by decide))
                  refine lv_aload_n hx hb dX9_readKnot_117 rfl (lv_at hl 1 rfl) (qg_X9_26 hx hb hts i_X9 hown hK hP232 0 rfl k_7 (hf_228.u (by decide) fr_fz_p0_26) dX9_readKnot_118 (lv_iload_n hx hb dX9_readKnot_121 rfl (lv_at hl 0 rfl) (lv_dup2_11 hx hb dX9_readKnot_122 rfl rfl (q_ild hx hb hK hP232 4 3 rfl rfl (q_in (by omega) (by omega)) dX9_readKnot_123 (fun v_235 ev_235 => ?_)))))
                  refine lv_aload_n hx hb dX9_readKnot_124 rfl (lv_at hl 1 rfl) (lv_ldc2 (v := 504363246962) hx hb hown k_15 dX9_readKnot_125 ?_)
                  obtain ⟨v_236, fv_236⟩ := OKX9_g10 ho_227
                  refine q_cVi (As := [.long 504363246962]) (rest := [.int v_235, .int v_3, .ref p0_sides]) q_w0 trivial hK hP232 hDa za_r_readKnot hS232 hA [0] [] (by decide +kernel) ⟨hx, hb, hml, hown, hts⟩ (r_isWord l dC dI H232.size p0 o_225 504363246962 tkv v_236 ho_227 ((hf_228.u (by decide) fv_fz_p0_8)) fv_236) rfl rfl (cwV 1 hts (p1_gV m_16 m_17 m_18 m_6 g_r_isWord gz_r_isWord) rfl rfl rfl (by decide +kernel) ⟨by decide, by decide⟩) (va_recv hK hP232 (ci := 8) (q0 := 0) rfl rfl) zm_r_isWord rfl hl.1 rfl (Nat.le_of_ble_eq_true rfl) dX9_readKnot_128 ⟨by decide, by decide⟩ (fun r_237 H238 lo238 hG238 hS238 => ?_)
                  obtain ⟨z_239, hQ238⟩ := hG238
                  have hP238 : va_P (dC, dI) vwCl (zW_r_readKnot p0 o_225 p0_crossings c_p0_crossings bz_p0_crossings p0_kName c_p0_kName g21 p0_knots c_p0_knots b_p0_knots p0_sides c_p0_sides bz_p0_sides p0_text c_p0_text b_p0_text) H238 := hQ238
                  clear hQ238 hP232 hS232
                  rcases z_239 with ⟨rfl, z_239⟩ | ⟨rfl, z_239⟩
                  · refine lv_if_eq (tgt := 145) hx hb dX9_readKnot_131 (by decide) (fun c_240 => absurd c_240 (by decide)) (fun c_240 => ?_)
                    refine lv_iconst (v := 1) hx hb dX9_readKnot_134 (by decide) (lv_aload_n hx hb dX9_readKnot_135 rfl (lv_at hl 1 rfl) (qg_X9_27 hx hb hts i_X9 hown hK hP238 0 rfl k_8 (hf_228.u (by decide) fr_fz_p0_27) dX9_readKnot_136 (lv_iload_n hx hb dX9_readKnot_139 rfl (lv_at hl 0 rfl) (q_ild hx hb hK hP238 1 0 rfl rfl (q_in (by omega) (by omega)) dX9_readKnot_140 (fun v_241 ev_241 => ?_)))))
                    have uv_241 : v_241.toInt = (bz_p0_crossings v_3.toNatClampNeg).toInt := by rw [ev_241]
                    have tv_241 := q_rd' hr_bz_p0_crossings (q_in (by omega) (by omega)) ev_241
                    refine lv_ishl hx hb dX9_readKnot_141 (lv_topi fun v_242 ev_242 => ?_)
                    have tv_242 : 1 ≤ v_242.toInt ∧ v_242.toInt ≤ 4096 := q_shl1 (k := 12) ev_242 (by omega) (by omega) (by decide)
                    refine lv_goto (tgt := 146) hx hb dX9_readKnot_142 (by decide) (lv_ior hx hb dX9_readKnot_146 (lv_topi fun v_243 ev_243 => q_ist hx hb hK hP238 hDa za_r_readKnot hS238 4 3 rfl rfl (q_in (by omega) (by omega)) dX9_readKnot_147 (fun H244 lo244 g244 eg244 (hP244 : va_P (dC, dI) vwCl (zW_r_readKnot p0 o_225 p0_crossings c_p0_crossings bz_p0_crossings p0_kName c_p0_kName g21 p0_knots c_p0_knots b_p0_knots p0_sides c_p0_sides g244 p0_text c_p0_text b_p0_text) H244) hS244 => ?_)))
                    clear hP238 hS238
                    refine lv_aload_n hx hb dX9_readKnot_148 rfl (lv_at hl 1 rfl) (qg_X9_27 hx hb hts i_X9 hown hK hP244 0 rfl k_8 (hf_228.u (by decide) fr_fz_p0_27) dX9_readKnot_149 (lv_iload_n hx hb dX9_readKnot_152 rfl (lv_at hl 0 rfl) (lv_dup2_11 hx hb dX9_readKnot_153 rfl rfl (q_ild hx hb hK hP244 1 0 rfl rfl (q_in (by omega) (by omega)) dX9_readKnot_154 (fun v_245 ev_245 => ?_)))))
                    have uv_245 : v_245.toInt = (bz_p0_crossings v_3.toNatClampNeg).toInt := by rw [ev_245]
                    have tv_245 := q_rd' hr_bz_p0_crossings (q_in (by omega) (by omega)) ev_245
                    refine lv_iconst (v := 1) hx hb dX9_readKnot_155 (by decide) (lv_iadd hx hb dX9_readKnot_156 (lv_topi fun v_246 ev_246 => ?_))
                    have tv_246 := q_add ev_246 (by omega) (by omega)
                    refine q_ist hx hb hK hP244 hDa za_r_readKnot hS244 1 0 rfl rfl (q_in (by omega) (by omega)) dX9_readKnot_157 (fun H247 lo247 g247 eg247 (hP247 : va_P (dC, dI) vwCl (zW_r_readKnot p0 o_225 p0_crossings c_p0_crossings g247 p0_kName c_p0_kName g21 p0_knots c_p0_knots b_p0_knots p0_sides c_p0_sides g244 p0_text c_p0_text b_p0_text) H247) hS247 => ?_)
                    clear hP244 hS244
                    have hr_g247 := q_up' hr_bz_p0_crossings eg247 ⟨by omega, by omega⟩
                    have usg247 : (g247 v_3.toNatClampNeg).toInt = v_246.toInt := by rw [eg247, pk_us]
                    refine lv_aload_n hx hb dX9_readKnot_158 rfl (lv_at hl 1 rfl) ?_
                    refine q_cVv (As := []) (rest := []) q_w0 trivial hK hP247 hDa za_r_readKnot hS247 hA [0, 5] [4] (by decide +kernel) ⟨hx, hb, hml, hown, hts⟩ (r_goOn l dC dI H247.size p0 o_225 p0_text c_p0_text b_p0_text atv env tkv sz ho_227 ((hf_228.u (by decide) fr_fz_p0_1)) ((hf_228.u (by decide) fv_fz_p0_6)) ((hf_228.u (by decide) fv_fz_p0_7)) ((hf_228.u (by decide) fv_fz_p0_8)) ((hf_228.u (by decide) fh_fz_p0_3)) ((by omega))) rfl rfl (cwV 0 hts (p1_gV m_19 m_20 m_21 m_6 g_r_goOn gz_r_goOn) rfl rfl rfl (by decide +kernel) ⟨by decide, by decide⟩) (va_recv hK hP247 (ci := 8) (q0 := 0) rfl rfl) zm_r_goOn rfl hl.1 rfl (Nat.le_of_ble_eq_true rfl) dX9_readKnot_159 ⟨by decide, by decide⟩ (fun H249 lo249 hG249 hS249 => ?_)
                    obtain ⟨o_250, o_251, o_252, o_253, ho_254, hf_255, z_256, z_257, z_258, z_259, hQ249⟩ := hG249
                    have to_251 := (OKX9_g6 ho_254).use z_256
                    have to_252 := (OKX9_g7 ho_254).use z_257
                    have to_253 := (OKX9_g8 ho_254).use z_258
                    have hP249 : va_P (dC, dI) vwCl (zW_r_readKnot p0 o_250 p0_crossings c_p0_crossings g247 p0_kName c_p0_kName g21 p0_knots c_p0_knots b_p0_knots p0_sides c_p0_sides g244 p0_text c_p0_text b_p0_text) H249 := hQ249
                    clear hQ249 hP247 hS247
                    refine lv_goto (tgt := 80) hx hb dX9_readKnot_162 (by decide) ?_
                    exact ih80 (fu80 - 1) (by omega) o_250 o_226 o_251 o_252 o_253 g247 g244 _ _ _ (by omega) ho_254 ((hf_fz_p0.tr hf_228 (by decide)).tr hf_255 (by decide)) (hf_255.u (by decide) (hf_228.u (by decide) fr_fz_p0_1)) (hf_255.u (by decide) (hf_228.u (by decide) fh_fz_p0_3)) (hf_255.u (by decide) z_229) (by omega) z_256 (by omega) z_257 (by omega) z_258 (by omega) (hf_255.u (by decide) (hf_228.u (by decide) fr_fz_p0_11)) (hf_255.u (by decide) (hf_228.u (by decide) fr_fz_p0_21)) (hf_255.u (by decide) (hf_228.u (by decide) fr_fz_p0_26)) (hf_255.u (by decide) (hf_228.u (by decide) fr_fz_p0_27)) (hf_255.u (by decide) (hf_228.u (by decide) fh_fz_p0_44)) hr_g247 (by omega) (by omega) hP249 hS249 (lv_sub hl [0, 1] rfl)
                  · refine lv_if_eq (tgt := 145) hx hb dX9_readKnot_131 (by decide) (fun c_260 => ?_) (fun c_260 => absurd c_260 (by decide))
                    refine lv_iconst (v := 0) hx hb dX9_readKnot_145 (by decide) (lv_ior hx hb dX9_readKnot_146 (lv_topi fun v_261 ev_261 => q_ist hx hb hK hP238 hDa za_r_readKnot hS238 4 3 rfl rfl (q_in (by omega) (by omega)) dX9_readKnot_147 (fun H262 lo262 g262 eg262 (hP262 : va_P (dC, dI) vwCl (zW_r_readKnot p0 o_225 p0_crossings c_p0_crossings bz_p0_crossings p0_kName c_p0_kName g21 p0_knots c_p0_knots b_p0_knots p0_sides c_p0_sides g262 p0_text c_p0_text b_p0_text) H262) hS262 => ?_)))
                    clear hP238 hS238
                    refine lv_aload_n hx hb dX9_readKnot_148 rfl (lv_at hl 1 rfl) (qg_X9_27 hx hb hts i_X9 hown hK hP262 0 rfl k_8 (hf_228.u (by decide) fr_fz_p0_27) dX9_readKnot_149 (lv_iload_n hx hb dX9_readKnot_152 rfl (lv_at hl 0 rfl) (lv_dup2_11 hx hb dX9_readKnot_153 rfl rfl (q_ild hx hb hK hP262 1 0 rfl rfl (q_in (by omega) (by omega)) dX9_readKnot_154 (fun v_263 ev_263 => ?_)))))
                    have uv_263 : v_263.toInt = (bz_p0_crossings v_3.toNatClampNeg).toInt := by rw [ev_263]
                    have tv_263 := q_rd' hr_bz_p0_crossings (q_in (by omega) (by omega)) ev_263
                    refine lv_iconst (v := 1) hx hb dX9_readKnot_155 (by decide) (lv_iadd hx hb dX9_readKnot_156 (lv_topi fun v_264 ev_264 => ?_))
                    have tv_264 := q_add ev_264 (by omega) (by omega)
                    refine q_ist hx hb hK hP262 hDa za_r_readKnot hS262 1 0 rfl rfl (q_in (by omega) (by omega)) dX9_readKnot_157 (fun H265 lo265 g265 eg265 (hP265 : va_P (dC, dI) vwCl (zW_r_readKnot p0 o_225 p0_crossings c_p0_crossings g265 p0_kName c_p0_kName g21 p0_knots c_p0_knots b_p0_knots p0_sides c_p0_sides g262 p0_text c_p0_text b_p0_text) H265) hS265 => ?_)
                    clear hP262 hS262
                    have hr_g265 := q_up' hr_bz_p0_crossings eg265 ⟨by omega, by omega⟩
                    have usg265 : (g265 v_3.toNatClampNeg).toInt = v_264.toInt := by rw [eg265, pk_us]
                    refine lv_aload_n hx hb dX9_readKnot_158 rfl (lv_at hl 1 rfl) ?_
                    refine q_cVv (As := []) (rest := []) q_w0 trivial hK hP265 hDa za_r_readKnot hS265 hA [0, 5] [4] (by decide +kernel) ⟨hx, hb, hml, hown, hts⟩ (r_goOn l dC dI H265.size p0 o_225 p0_text c_p0_text b_p0_text atv env tkv sz ho_227 ((hf_228.u (by decide) fr_fz_p0_1)) ((hf_228.u (by decide) fv_fz_p0_6)) ((hf_228.u (by decide) fv_fz_p0_7)) ((hf_228.u (by decide) fv_fz_p0_8)) ((hf_228.u (by decide) fh_fz_p0_3)) ((by omega))) rfl rfl (cwV 0 hts (p1_gV m_19 m_20 m_21 m_6 g_r_goOn gz_r_goOn) rfl rfl rfl (by decide +kernel) ⟨by decide, by decide⟩) (va_recv hK hP265 (ci := 8) (q0 := 0) rfl rfl) zm_r_goOn rfl hl.1 rfl (Nat.le_of_ble_eq_true rfl) dX9_readKnot_159 ⟨by decide, by decide⟩ (fun H267 lo267 hG267 hS267 => ?_)
                    obtain ⟨o_268, o_269, o_270, o_271, ho_272, hf_273, z_274, z_275, z_276, z_277, hQ267⟩ := hG267
                    have to_269 := (OKX9_g6 ho_272).use z_274
                    have to_270 := (OKX9_g7 ho_272).use z_275
                    have to_271 := (OKX9_g8 ho_272).use z_276
                    have hP267 : va_P (dC, dI) vwCl (zW_r_readKnot p0 o_268 p0_crossings c_p0_crossings g265 p0_kName c_p0_kName g21 p0_knots c_p0_knots b_p0_knots p0_sides c_p0_sides g262 p0_text c_p0_text b_p0_text) H267 := hQ267
                    clear hQ267 hP265 hS265
                    refine lv_goto (tgt := 80) hx hb dX9_readKnot_162 (by decide) ?_
                    exact ih80 (fu80 - 1) (by omega) o_268 o_226 o_269 o_270 o_271 g265 g262 _ _ _ (by omega) ho_272 ((hf_fz_p0.tr hf_228 (by decide)).tr hf_273 (by decide)) (hf_273.u (by decide) (hf_228.u (by decide) fr_fz_p0_1)) (hf_273.u (by decide) (hf_228.u (by decide) fh_fz_p0_3)) (hf_273.u (by decide) z_229) (by omega) z_274 (by omega) z_275 (by omega) z_276 (by omega) (hf_273.u (by decide) (hf_228.u (by decide) fr_fz_p0_11)) (hf_273.u (by decide) (hf_228.u (by decide) fr_fz_p0_21)) (hf_273.u (by decide) (hf_228.u (by decide) fr_fz_p0_26)) (hf_273.u (by decide) (hf_228.u (by decide) fr_fz_p0_27)) (hf_273.u (by decide) (hf_228.u (by decide) fh_fz_p0_44)) hr_g265 (by omega) (by omega) hP267 hS267 (lv_sub hl [0, 1] rfl)
                · refine lv_if_ne (tgt := 117) hx hb dX9_readKnot_113 (by decide) (fun c_278 => absurd c_278 (by decide)) (fun c_278 => ?_)
                  exact q_vret hx hb hr hlocks hS232 dX9_readKnot_116 ⟨o_225, bz_p0_crossings, g21, b_p0_knots, bz_p0_sides, atv, env, tkv, o_226, ho_227, (hf_fz_p0.tr hf_228 (by decide)), hr_bz_p0_crossings, hr_p0_knots, (hf_228.u (by decide) fv_fz_p0_6), (hf_228.u (by decide) fv_fz_p0_7), (hf_228.u (by decide) fv_fz_p0_8), z_229, (by omega), (by omega), hP232, za_r_readKnot⟩
            · refine lv_if_eq (tgt := 165) hx hb dX9_readKnot_91 (by decide) (fun c_279 => ?_) (fun c_279 => absurd c_279 (by decide))
              refine lv_aload_n hx hb dX9_readKnot_165 rfl (lv_at hl 1 rfl) (qg_X9_11 hx hb hts i_X9 hown hK hP170 0 rfl k_1 fr_fz_p0_11 dX9_readKnot_166 (lv_aload_n hx hb dX9_readKnot_169 rfl (lv_at hl 1 rfl) (qg_X9_44 hx hb hts i_X9 hown hK hP170 0 rfl k_0 fh_fz_p0_44 dX9_readKnot_170 (lv_dup2_11 hx hb dX9_readKnot_173 rfl rfl (q_ild hx hb hK hP170 3 2 rfl rfl (q_in (by omega) (by omega)) dX9_readKnot_174 (fun v_280 ev_280 => ?_))))))
              have uv_280 : v_280.toInt = (b_p0_knots rb.toNatClampNeg).toInt := by rw [ev_280]
              have tv_280 := q_rd' hr_p0_knots (q_in (by omega) (by omega)) ev_280
              refine lv_iconst (v := 1) hx hb dX9_readKnot_175 (by decide) (lv_iadd hx hb dX9_readKnot_176 (lv_topi fun v_281 ev_281 => ?_))
              have tv_281 := q_add ev_281 (by omega) (by omega)
              refine q_ist hx hb hK hP170 hDa za_r_readKnot hS170 3 2 rfl rfl (q_in (by omega) (by omega)) dX9_readKnot_177 (fun H282 lo282 g282 eg282 (hP282 : va_P (dC, dI) vwCl (zW_r_readKnot p0 fz_p0 p0_crossings c_p0_crossings bz_p0_crossings p0_kName c_p0_kName g21 p0_knots c_p0_knots g282 p0_sides c_p0_sides bz_p0_sides p0_text c_p0_text b_p0_text) H282) hS282 => ?_)
              clear hP170 hS170
              have hr_g282 := q_up' hr_p0_knots eg282 ⟨by omega, by omega⟩
              exact q_vret hx hb hr hlocks hS282 dX9_readKnot_178 ⟨fz_p0, bz_p0_crossings, g21, g282, bz_p0_sides, atv, env, tkv, fkv, ho_fz_p0, hf_fz_p0, hr_bz_p0_crossings, hr_g282, fv_fz_p0_6, fv_fz_p0_7, fv_fz_p0_8, fv_fz_p0_4, (by omega), (by omega), hP282, za_r_readKnot⟩
          · refine lv_if_eq (tgt := 165) hx hb dX9_readKnot_84 (by decide) (fun c_283 => ?_) (fun c_283 => absurd c_283 (by decide))
            refine lv_aload_n hx hb dX9_readKnot_165 rfl (lv_at hl 1 rfl) (qg_X9_11 hx hb hts i_X9 hown hK hP166 0 rfl k_1 fr_fz_p0_11 dX9_readKnot_166 (lv_aload_n hx hb dX9_readKnot_169 rfl (lv_at hl 1 rfl) (qg_X9_44 hx hb hts i_X9 hown hK hP166 0 rfl k_0 fh_fz_p0_44 dX9_readKnot_170 (lv_dup2_11 hx hb dX9_readKnot_173 rfl rfl (q_ild hx hb hK hP166 3 2 rfl rfl (q_in (by omega) (by omega)) dX9_readKnot_174 (fun v_284 ev_284 => ?_))))))
            have uv_284 : v_284.toInt = (b_p0_knots rb.toNatClampNeg).toInt := by rw [ev_284]
            have tv_284 := q_rd' hr_p0_knots (q_in (by omega) (by omega)) ev_284
            refine lv_iconst (v := 1) hx hb dX9_readKnot_175 (by decide) (lv_iadd hx hb dX9_readKnot_176 (lv_topi fun v_285 ev_285 => ?_))
            have tv_285 := q_add ev_285 (by omega) (by omega)
            refine q_ist hx hb hK hP166 hDa za_r_readKnot hS166 3 2 rfl rfl (q_in (by omega) (by omega)) dX9_readKnot_177 (fun H286 lo286 g286 eg286 (hP286 : va_P (dC, dI) vwCl (zW_r_readKnot p0 fz_p0 p0_crossings c_p0_crossings bz_p0_crossings p0_kName c_p0_kName g21 p0_knots c_p0_knots g286 p0_sides c_p0_sides bz_p0_sides p0_text c_p0_text b_p0_text) H286) hS286 => ?_)
            clear hP166 hS166
            have hr_g286 := q_up' hr_p0_knots eg286 ⟨by omega, by omega⟩
            exact q_vret hx hb hr hlocks hS286 dX9_readKnot_178 ⟨fz_p0, bz_p0_crossings, g21, g286, bz_p0_sides, atv, env, tkv, fkv, ho_fz_p0, hf_fz_p0, hr_bz_p0_crossings, hr_g286, fv_fz_p0_6, fv_fz_p0_7, fv_fz_p0_8, fv_fz_p0_4, (by omega), (by omega), hP286, za_r_readKnot⟩
      exact key80 13 o_158 o_159 o_9 o_10 o_11 g23 g22 _ _ _ (by omega) ho_160 ((q_fr.rf.tr hf_14 (by decide)).tr hf_161 (by decide)) (hf_161.u (by decide) (hf_14.u (by decide) fr_p0_1)) (hf_161.u (by decide) (hf_14.u (by decide) pf_sz)) z_162 (by omega) (hf_161.u (by decide) z_15) (by omega) (hf_161.u (by decide) z_16) (by omega) (hf_161.u (by decide) z_17) (by omega) (hf_161.u (by decide) (hf_14.u (by decide) fr_p0_11)) (hf_161.u (by decide) (hf_14.u (by decide) fr_p0_21)) (hf_161.u (by decide) (hf_14.u (by decide) fr_p0_26)) (hf_161.u (by decide) (hf_14.u (by decide) fr_p0_27)) (hf_161.u (by decide) (hf_14.u (by decide) pf_rb)) hr_g23 (by omega) (by omega) hP157 hS157 (lv_sub hl [0, 1] rfl)
  · refine lv_if_eq (tgt := 80) hx hb dX9_readKnot_66 (by decide) (fun c_287 => ?_) (fun c_287 => absurd c_287 (by decide))
    have key80 : ∀ (fu80 : Nat) (fz_p0 : List Value) (fkv : Int32) (atv : Int32) (env : Int32) (tkv : Int32) (bz_p0_crossings : Nat → Int32) (bz_p0_sides : Nat → Int32) (H : Heap) (locs : List Loc) (ls : Array Slot) (hfu80 : 13 - (bz_p0_crossings v_3.toNatClampNeg).toInt ≤ (fu80 : Int)) (ho_fz_p0 : OKX9 fz_p0) (hf_fz_p0 : q_fr [4, 5, 6, 7, 8, 9, 10] f_p0 fz_p0) (fr_fz_p0_1 : fz_p0[1]? = some (.ref p0_text)) (fh_fz_p0_3 : fz_p0[3]? = some (.int sz)) (fv_fz_p0_4 : fz_p0[4]? = some (.int fkv)) (tfkv : (0) ≤ fkv.toInt ∧ fkv.toInt ≤ 4) (fv_fz_p0_6 : fz_p0[6]? = some (.int atv)) (tatv : (0) ≤ atv.toInt ∧ atv.toInt ≤ 1600) (fv_fz_p0_7 : fz_p0[7]? = some (.int env)) (tenv : (0) ≤ env.toInt ∧ env.toInt ≤ 1601) (fv_fz_p0_8 : fz_p0[8]? = some (.int tkv)) (ttkv : (0) ≤ tkv.toInt ∧ tkv.toInt ≤ 5) (fr_fz_p0_11 : fz_p0[11]? = some (.ref p0_knots)) (fr_fz_p0_21 : fz_p0[21]? = some (.ref p0_kName)) (fr_fz_p0_26 : fz_p0[26]? = some (.ref p0_sides)) (fr_fz_p0_27 : fz_p0[27]? = some (.ref p0_crossings)) (fh_fz_p0_44 : fz_p0[44]? = some (.int rb)) (hr_bz_p0_crossings : ∀ k, k < 12 → (0) ≤ (bz_p0_crossings k).toInt ∧ (bz_p0_crossings k).toInt ≤ 12) (hq80_0 : env.toInt ≤ sz.toInt ∧ at0.toInt ≤ atv.toInt ∧ atv.toInt ≤ env.toInt ∧ (tkv.toInt ≠ 3 ∨ atv.toInt < env.toInt)) (hq80_1 : fk.toInt = 0 ∨ 1 ≤ fkv.toInt), va_P (dC, dI) vwCl (zW_r_readKnot p0 fz_p0 p0_crossings c_p0_crossings bz_p0_crossings p0_kName c_p0_kName g21 p0_knots c_p0_knots b_p0_knots p0_sides c_p0_sides bz_p0_sides p0_text c_p0_text b_p0_text) H → va_S A s.heap H locs → lv_has ls 2 [(1, .int v_3), (0, .ref p0)] → W p l e (headSpec zw_r_readKnot { frames := 3, cells := 0, slots := 0, locals := 69 }).room s m ([.ref p0] : List Value).toArray below meth c H locs 0 0 (MQ below (q_Qv (dC, dI) (zG_r_readKnot p0 f_p0 p0_crossings c_p0_crossings b_p0_crossings p0_kName c_p0_kName b_p0_kName p0_knots c_p0_knots b_p0_knots p0_sides c_p0_sides b_p0_sides p0_text c_p0_text b_p0_text at0 en tk sz fk rb) (zA_r_readKnot p0 p0_crossings p0_kName p0_knots p0_sides p0_text) A) ([.ref p0] : List Value).toArray s 0 0 A) (F0 m 80 ls []) := by
      intro fu80
      induction fu80 using Nat.strongRecOn with
      | ind fu80 ih80 =>
        intro fz_p0 fkv atv env tkv bz_p0_crossings bz_p0_sides H288 lo288 ls hfu80 ho_fz_p0 hf_fz_p0 fr_fz_p0_1 fh_fz_p0_3 fv_fz_p0_4 tfkv fv_fz_p0_6 tatv fv_fz_p0_7 tenv fv_fz_p0_8 ttkv fr_fz_p0_11 fr_fz_p0_21 fr_fz_p0_26 fr_fz_p0_27 fh_fz_p0_44 hr_bz_p0_crossings hq80_0 hq80_1 hP288 hS288 hl
        refine lv_aload_n hx hb dX9_readKnot_80 rfl (lv_at hl 1 rfl) ?_
        refine q_cVi (As := []) (rest := []) q_w0 trivial hK hP288 hDa za_r_readKnot hS288 hA [0] [] (by decide +kernel) ⟨hx, hb, hml, hown, hts⟩ (r_isGood l dC dI H288.size p0 fz_p0 fkv ho_fz_p0 fv_fz_p0_4) rfl rfl (cwV 0 hts (p1_gV m_9 m_10 m_11 m_6 g_r_isGood gz_r_isGood) rfl rfl rfl (by decide +kernel) ⟨by decide, by decide⟩) (va_recv hK hP288 (ci := 8) (q0 := 0) rfl rfl) zm_r_isGood rfl hl.1 rfl (Nat.le_of_ble_eq_true rfl) dX9_readKnot_81 ⟨by decide, by decide⟩ (fun r_289 H290 lo290 hG290 hS290 => ?_)
        obtain ⟨z_291, hQ290⟩ := hG290
        have hP290 : va_P (dC, dI) vwCl (zW_r_readKnot p0 fz_p0 p0_crossings c_p0_crossings bz_p0_crossings p0_kName c_p0_kName g21 p0_knots c_p0_knots b_p0_knots p0_sides c_p0_sides bz_p0_sides p0_text c_p0_text b_p0_text) H290 := hQ290
        clear hQ290 hP288 hS288
        rcases z_291 with ⟨rfl, z_291⟩ | ⟨rfl, z_291⟩
        · refine lv_if_eq (tgt := 165) hx hb dX9_readKnot_84 (by decide) (fun c_292 => absurd c_292 (by decide)) (fun c_292 => ?_)
          refine lv_aload_n hx hb dX9_readKnot_87 rfl (lv_at hl 1 rfl) ?_
          refine q_cVi (As := []) (rest := []) q_w0 trivial hK hP290 hDa za_r_readKnot hS290 hA [0] [] (by decide +kernel) ⟨hx, hb, hml, hown, hts⟩ (r_isSide l dC dI H290.size p0 fz_p0 ho_fz_p0) rfl rfl (cwV 0 hts (p1_gV m_12 m_13 m_14 m_6 g_r_isSide gz_r_isSide) rfl rfl rfl (by decide +kernel) ⟨by decide, by decide⟩) (va_recv hK hP290 (ci := 8) (q0 := 0) rfl rfl) zm_r_isSide rfl hl.1 rfl (Nat.le_of_ble_eq_true rfl) dX9_readKnot_88 ⟨by decide, by decide⟩ (fun r_293 H294 lo294 hG294 hS294 => ?_)
          obtain ⟨z_295, hQ294⟩ := hG294
          have hP294 : va_P (dC, dI) vwCl (zW_r_readKnot p0 fz_p0 p0_crossings c_p0_crossings bz_p0_crossings p0_kName c_p0_kName g21 p0_knots c_p0_knots b_p0_knots p0_sides c_p0_sides bz_p0_sides p0_text c_p0_text b_p0_text) H294 := hQ294
          clear hQ294 hP290 hS290
          rcases z_295 with ⟨rfl, z_295⟩ | ⟨rfl, z_295⟩
          · refine lv_if_eq (tgt := 165) hx hb dX9_readKnot_91 (by decide) (fun c_296 => absurd c_296 (by decide)) (fun c_296 => ?_)
            refine lv_aload_n hx hb dX9_readKnot_94 rfl (lv_at hl 1 rfl) (qg_X9_27 hx hb hts i_X9 hown hK hP294 0 rfl k_8 fr_fz_p0_27 dX9_readKnot_95 (lv_iload_n hx hb dX9_readKnot_98 rfl (lv_at hl 0 rfl) (q_ild hx hb hK hP294 1 0 rfl rfl (q_in (by omega) (by omega)) dX9_readKnot_99 (fun v_297 ev_297 => ?_))))
            have uv_297 : v_297.toInt = (bz_p0_crossings v_3.toNatClampNeg).toInt := by rw [ev_297]
            have tv_297 := q_rd' hr_bz_p0_crossings (q_in (by omega) (by omega)) ev_297
            refine lv_bipush (v := 12) hx hb dX9_readKnot_100 (by decide) ?_
            refine lv_icmp_ne (tgt := 109) hx hb dX9_readKnot_102 (by decide) (fun c_298 => ?_) (fun c_298 => ?_)
            · have tc_298 := q_ne c_298
              refine lv_aload_n hx hb dX9_readKnot_109 rfl (lv_at hl 1 rfl) ?_
              refine q_cVi (As := []) (rest := []) q_w0 trivial hK hP294 hDa za_r_readKnot hS294 hA [0] [] (by decide +kernel) ⟨hx, hb, hml, hown, hts⟩ (r_isGood l dC dI H294.size p0 fz_p0 fkv ho_fz_p0 fv_fz_p0_4) rfl rfl (cwV 0 hts (p1_gV m_9 m_10 m_11 m_6 g_r_isGood gz_r_isGood) rfl rfl rfl (by decide +kernel) ⟨by decide, by decide⟩) (va_recv hK hP294 (ci := 8) (q0 := 0) rfl rfl) zm_r_isGood rfl hl.1 rfl (Nat.le_of_ble_eq_true rfl) dX9_readKnot_110 ⟨by decide, by decide⟩ (fun r_299 H300 lo300 hG300 hS300 => ?_)
              obtain ⟨z_301, hQ300⟩ := hG300
              have hP300 : va_P (dC, dI) vwCl (zW_r_readKnot p0 fz_p0 p0_crossings c_p0_crossings bz_p0_crossings p0_kName c_p0_kName g21 p0_knots c_p0_knots b_p0_knots p0_sides c_p0_sides bz_p0_sides p0_text c_p0_text b_p0_text) H300 := hQ300
              clear hQ300 hP294 hS294
              rcases z_301 with ⟨rfl, z_301⟩ | ⟨rfl, z_301⟩
              · refine lv_if_ne (tgt := 117) hx hb dX9_readKnot_113 (by decide) (fun c_302 => ?_) (fun c_302 => absurd c_302 (by decide))
                refine lv_aload_n hx hb dX9_readKnot_117 rfl (lv_at hl 1 rfl) (qg_X9_26 hx hb hts i_X9 hown hK hP300 0 rfl k_7 fr_fz_p0_26 dX9_readKnot_118 (lv_iload_n hx hb dX9_readKnot_121 rfl (lv_at hl 0 rfl) (lv_dup2_11 hx hb dX9_readKnot_122 rfl rfl (q_ild hx hb hK hP300 4 3 rfl rfl (q_in (by omega) (by omega)) dX9_readKnot_123 (fun v_303 ev_303 => ?_)))))
                refine lv_aload_n hx hb dX9_readKnot_124 rfl (lv_at hl 1 rfl) (lv_ldc2 (v := 504363246962) hx hb hown k_15 dX9_readKnot_125 ?_)
                obtain ⟨v_304, fv_304⟩ := OKX9_g10 ho_fz_p0
                refine q_cVi (As := [.long 504363246962]) (rest := [.int v_303, .int v_3, .ref p0_sides]) q_w0 trivial hK hP300 hDa za_r_readKnot hS300 hA [0] [] (by decide +kernel) ⟨hx, hb, hml, hown, hts⟩ (r_isWord l dC dI H300.size p0 fz_p0 504363246962 tkv v_304 ho_fz_p0 fv_fz_p0_8 fv_304) rfl rfl (cwV 1 hts (p1_gV m_16 m_17 m_18 m_6 g_r_isWord gz_r_isWord) rfl rfl rfl (by decide +kernel) ⟨by decide, by decide⟩) (va_recv hK hP300 (ci := 8) (q0 := 0) rfl rfl) zm_r_isWord rfl hl.1 rfl (Nat.le_of_ble_eq_true rfl) dX9_readKnot_128 ⟨by decide, by decide⟩ (fun r_305 H306 lo306 hG306 hS306 => ?_)
                obtain ⟨z_307, hQ306⟩ := hG306
                have hP306 : va_P (dC, dI) vwCl (zW_r_readKnot p0 fz_p0 p0_crossings c_p0_crossings bz_p0_crossings p0_kName c_p0_kName g21 p0_knots c_p0_knots b_p0_knots p0_sides c_p0_sides bz_p0_sides p0_text c_p0_text b_p0_text) H306 := hQ306
                clear hQ306 hP300 hS300
                rcases z_307 with ⟨rfl, z_307⟩ | ⟨rfl, z_307⟩
                · refine lv_if_eq (tgt := 145) hx hb dX9_readKnot_131 (by decide) (fun c_308 => absurd c_308 (by decide)) (fun c_308 => ?_)
                  refine lv_iconst (v := 1) hx hb dX9_readKnot_134 (by decide) (lv_aload_n hx hb dX9_readKnot_135 rfl (lv_at hl 1 rfl) (qg_X9_27 hx hb hts i_X9 hown hK hP306 0 rfl k_8 fr_fz_p0_27 dX9_readKnot_136 (lv_iload_n hx hb dX9_readKnot_139 rfl (lv_at hl 0 rfl) (q_ild hx hb hK hP306 1 0 rfl rfl (q_in (by omega) (by omega)) dX9_readKnot_140 (fun v_309 ev_309 => ?_)))))
                  have uv_309 : v_309.toInt = (bz_p0_crossings v_3.toNatClampNeg).toInt := by rw [ev_309]
                  have tv_309 := q_rd' hr_bz_p0_crossings (q_in (by omega) (by omega)) ev_309
                  refine lv_ishl hx hb dX9_readKnot_141 (lv_topi fun v_310 ev_310 => ?_)
                  have tv_310 : 1 ≤ v_310.toInt ∧ v_310.toInt ≤ 4096 := q_shl1 (k := 12) ev_310 (by omega) (by omega) (by decide)
                  refine lv_goto (tgt := 146) hx hb dX9_readKnot_142 (by decide) (lv_ior hx hb dX9_readKnot_146 (lv_topi fun v_311 ev_311 => q_ist hx hb hK hP306 hDa za_r_readKnot hS306 4 3 rfl rfl (q_in (by omega) (by omega)) dX9_readKnot_147 (fun H312 lo312 g312 eg312 (hP312 : va_P (dC, dI) vwCl (zW_r_readKnot p0 fz_p0 p0_crossings c_p0_crossings bz_p0_crossings p0_kName c_p0_kName g21 p0_knots c_p0_knots b_p0_knots p0_sides c_p0_sides g312 p0_text c_p0_text b_p0_text) H312) hS312 => ?_)))
                  clear hP306 hS306
                  refine lv_aload_n hx hb dX9_readKnot_148 rfl (lv_at hl 1 rfl) (qg_X9_27 hx hb hts i_X9 hown hK hP312 0 rfl k_8 fr_fz_p0_27 dX9_readKnot_149 (lv_iload_n hx hb dX9_readKnot_152 rfl (lv_at hl 0 rfl) (lv_dup2_11 hx hb dX9_readKnot_153 rfl rfl (q_ild hx hb hK hP312 1 0 rfl rfl (q_in (by omega) (by omega)) dX9_readKnot_154 (fun v_313 ev_313 => ?_)))))
                  have uv_313 : v_313.toInt = (bz_p0_crossings v_3.toNatClampNeg).toInt := by rw [ev_313]
                  have tv_313 := q_rd' hr_bz_p0_crossings (q_in (by omega) (by omega)) ev_313
                  refine lv_iconst (v := 1) hx hb dX9_readKnot_155 (by decide) (lv_iadd hx hb dX9_readKnot_156 (lv_topi fun v_314 ev_314 => ?_))
                  have tv_314 := q_add ev_314 (by omega) (by omega)
                  refine q_ist hx hb hK hP312 hDa za_r_readKnot hS312 1 0 rfl rfl (q_in (by omega) (by omega)) dX9_readKnot_157 (fun H315 lo315 g315 eg315 (hP315 : va_P (dC, dI) vwCl (zW_r_readKnot p0 fz_p0 p0_crossings c_p0_crossings g315 p0_kName c_p0_kName g21 p0_knots c_p0_knots b_p0_knots p0_sides c_p0_sides g312 p0_text c_p0_text b_p0_text) H315) hS315 => ?_)
                  clear hP312 hS312
                  have hr_g315 := q_up' hr_bz_p0_crossings eg315 ⟨by omega, by omega⟩
                  have usg315 : (g315 v_3.toNatClampNeg).toInt = v_314.toInt := by rw [eg315, pk_us]
                  refine lv_aload_n hx hb dX9_readKnot_158 rfl (lv_at hl 1 rfl) ?_
                  refine q_cVv (As := []) (rest := []) q_w0 trivial hK hP315 hDa za_r_readKnot hS315 hA [0, 5] [4] (by decide +kernel) ⟨hx, hb, hml, hown, hts⟩ (r_goOn l dC dI H315.size p0 fz_p0 p0_text c_p0_text b_p0_text atv env tkv sz ho_fz_p0 fr_fz_p0_1 fv_fz_p0_6 fv_fz_p0_7 fv_fz_p0_8 fh_fz_p0_3 ((by omega))) rfl rfl (cwV 0 hts (p1_gV m_19 m_20 m_21 m_6 g_r_goOn gz_r_goOn) rfl rfl rfl (by decide +kernel) ⟨by decide, by decide⟩) (va_recv hK hP315 (ci := 8) (q0 := 0) rfl rfl) zm_r_goOn rfl hl.1 rfl (Nat.le_of_ble_eq_true rfl) dX9_readKnot_159 ⟨by decide, by decide⟩ (fun H317 lo317 hG317 hS317 => ?_)
                  obtain ⟨o_318, o_319, o_320, o_321, ho_322, hf_323, z_324, z_325, z_326, z_327, hQ317⟩ := hG317
                  have to_319 := (OKX9_g6 ho_322).use z_324
                  have to_320 := (OKX9_g7 ho_322).use z_325
                  have to_321 := (OKX9_g8 ho_322).use z_326
                  have hP317 : va_P (dC, dI) vwCl (zW_r_readKnot p0 o_318 p0_crossings c_p0_crossings g315 p0_kName c_p0_kName g21 p0_knots c_p0_knots b_p0_knots p0_sides c_p0_sides g312 p0_text c_p0_text b_p0_text) H317 := hQ317
                  clear hQ317 hP315 hS315
                  refine lv_goto (tgt := 80) hx hb dX9_readKnot_162 (by decide) ?_
                  exact ih80 (fu80 - 1) (by omega) o_318 fkv o_319 o_320 o_321 g315 g312 _ _ _ (by omega) ho_322 (hf_fz_p0.tr hf_323 (by decide)) (hf_323.u (by decide) fr_fz_p0_1) (hf_323.u (by decide) fh_fz_p0_3) (hf_323.u (by decide) fv_fz_p0_4) (by omega) z_324 (by omega) z_325 (by omega) z_326 (by omega) (hf_323.u (by decide) fr_fz_p0_11) (hf_323.u (by decide) fr_fz_p0_21) (hf_323.u (by decide) fr_fz_p0_26) (hf_323.u (by decide) fr_fz_p0_27) (hf_323.u (by decide) fh_fz_p0_44) hr_g315 (by omega) (by omega) hP317 hS317 (lv_sub hl [0, 1] rfl)
                · refine lv_if_eq (tgt := 145) hx hb dX9_readKnot_131 (by decide) (fun c_328 => ?_) (fun c_328 => absurd c_328 (by decide))
                  refine lv_iconst (v := 0) hx hb dX9_readKnot_145 (by decide) (lv_ior hx hb dX9_readKnot_146 (lv_topi fun v_329 ev_329 => q_ist hx hb hK hP306 hDa za_r_readKnot hS306 4 3 rfl rfl (q_in (by omega) (by omega)) dX9_readKnot_147 (fun H330 lo330 g330 eg330 (hP330 : va_P (dC, dI) vwCl (zW_r_readKnot p0 fz_p0 p0_crossings c_p0_crossings bz_p0_crossings p0_kName c_p0_kName g21 p0_knots c_p0_knots b_p0_knots p0_sides c_p0_sides g330 p0_text c_p0_text b_p0_text) H330) hS330 => ?_)))
                  clear hP306 hS306
                  refine lv_aload_n hx hb dX9_readKnot_148 rfl (lv_at hl 1 rfl) (qg_X9_27 hx hb hts i_X9 hown hK hP330 0 rfl k_8 fr_fz_p0_27 dX9_readKnot_149 (lv_iload_n hx hb dX9_readKnot_152 rfl (lv_at hl 0 rfl) (lv_dup2_11 hx hb dX9_readKnot_153 rfl rfl (q_ild hx hb hK hP330 1 0 rfl rfl (q_in (by omega) (by omega)) dX9_readKnot_154 (fun v_331 ev_331 => ?_)))))
                  have uv_331 : v_331.toInt = (bz_p0_crossings v_3.toNatClampNeg).toInt := by rw [ev_331]
                  have tv_331 := q_rd' hr_bz_p0_crossings (q_in (by omega) (by omega)) ev_331
                  refine lv_iconst (v := 1) hx hb dX9_readKnot_155 (by decide) (lv_iadd hx hb dX9_readKnot_156 (lv_topi fun v_332 ev_332 => ?_))
                  have tv_332 := q_add ev_332 (by omega) (by omega)
                  refine q_ist hx hb hK hP330 hDa za_r_readKnot hS330 1 0 rfl rfl (q_in (by omega) (by omega)) dX9_readKnot_157 (fun H333 lo333 g333 eg333 (hP333 : va_P (dC, dI) vwCl (zW_r_readKnot p0 fz_p0 p0_crossings c_p0_crossings g333 p0_kName c_p0_kName g21 p0_knots c_p0_knots b_p0_knots p0_sides c_p0_sides g330 p0_text c_p0_text b_p0_text) H333) hS333 => ?_)
                  clear hP330 hS330
                  have hr_g333 := q_up' hr_bz_p0_crossings eg333 ⟨by omega, by omega⟩
                  have usg333 : (g333 v_3.toNatClampNeg).toInt = v_332.toInt := by rw [eg333, pk_us]
                  refine lv_aload_n hx hb dX9_readKnot_158 rfl (lv_at hl 1 rfl) ?_
                  refine q_cVv (As := []) (rest := []) q_w0 trivial hK hP333 hDa za_r_readKnot hS333 hA [0, 5] [4] (by decide +kernel) ⟨hx, hb, hml, hown, hts⟩ (r_goOn l dC dI H333.size p0 fz_p0 p0_text c_p0_text b_p0_text atv env tkv sz ho_fz_p0 fr_fz_p0_1 fv_fz_p0_6 fv_fz_p0_7 fv_fz_p0_8 fh_fz_p0_3 ((by omega))) rfl rfl (cwV 0 hts (p1_gV m_19 m_20 m_21 m_6 g_r_goOn gz_r_goOn) rfl rfl rfl (by decide +kernel) ⟨by decide, by decide⟩) (va_recv hK hP333 (ci := 8) (q0 := 0) rfl rfl) zm_r_goOn rfl hl.1 rfl (Nat.le_of_ble_eq_true rfl) dX9_readKnot_159 ⟨by decide, by decide⟩ (fun H335 lo335 hG335 hS335 => ?_)
                  obtain ⟨o_336, o_337, o_338, o_339, ho_340, hf_341, z_342, z_343, z_344, z_345, hQ335⟩ := hG335
                  have to_337 := (OKX9_g6 ho_340).use z_342
                  have to_338 := (OKX9_g7 ho_340).use z_343
                  have to_339 := (OKX9_g8 ho_340).use z_344
                  have hP335 : va_P (dC, dI) vwCl (zW_r_readKnot p0 o_336 p0_crossings c_p0_crossings g333 p0_kName c_p0_kName g21 p0_knots c_p0_knots b_p0_knots p0_sides c_p0_sides g330 p0_text c_p0_text b_p0_text) H335 := hQ335
                  clear hQ335 hP333 hS333
                  refine lv_goto (tgt := 80) hx hb dX9_readKnot_162 (by decide) ?_
                  exact ih80 (fu80 - 1) (by omega) o_336 fkv o_337 o_338 o_339 g333 g330 _ _ _ (by omega) ho_340 (hf_fz_p0.tr hf_341 (by decide)) (hf_341.u (by decide) fr_fz_p0_1) (hf_341.u (by decide) fh_fz_p0_3) (hf_341.u (by decide) fv_fz_p0_4) (by omega) z_342 (by omega) z_343 (by omega) z_344 (by omega) (hf_341.u (by decide) fr_fz_p0_11) (hf_341.u (by decide) fr_fz_p0_21) (hf_341.u (by decide) fr_fz_p0_26) (hf_341.u (by decide) fr_fz_p0_27) (hf_341.u (by decide) fh_fz_p0_44) hr_g333 (by omega) (by omega) hP335 hS335 (lv_sub hl [0, 1] rfl)
              · refine lv_if_ne (tgt := 117) hx hb dX9_readKnot_113 (by decide) (fun c_346 => absurd c_346 (by decide)) (fun c_346 => ?_)
                exact q_vret hx hb hr hlocks hS300 dX9_readKnot_116 ⟨fz_p0, bz_p0_crossings, g21, b_p0_knots, bz_p0_sides, atv, env, tkv, fkv, ho_fz_p0, hf_fz_p0, hr_bz_p0_crossings, hr_p0_knots, fv_fz_p0_6, fv_fz_p0_7, fv_fz_p0_8, fv_fz_p0_4, (by omega), (by omega), hP300, za_r_readKnot⟩
            · have tc_298 := q_eqN c_298
              refine lv_aload_n hx hb dX9_readKnot_105 rfl (lv_at hl 1 rfl) ?_
              refine q_cVv (As := []) (rest := []) q_w0 trivial hK hP294 hDa za_r_readKnot hS294 hA [0] [] (by decide +kernel) ⟨hx, hb, hml, hown, hts⟩ (r_misplaced l dC dI H294.size p0 fz_p0 ho_fz_p0) rfl rfl (cwV 0 hts (p1_gV m_22 m_23 m_24 m_6 g_r_misplaced gz_r_misplaced) rfl rfl rfl (by decide +kernel) ⟨by decide, by decide⟩) (va_recv hK hP294 (ci := 8) (q0 := 0) rfl rfl) zm_r_misplaced rfl hl.1 rfl (Nat.le_of_ble_eq_true rfl) dX9_readKnot_106 ⟨by decide, by decide⟩ (fun H348 lo348 hG348 hS348 => ?_)
              obtain ⟨o_349, o_350, ho_351, hf_352, z_353, z_354, hQ348⟩ := hG348
              have to_350 := (OKX9_g4 ho_351).use z_353
              have hP348 : va_P (dC, dI) vwCl (zW_r_readKnot p0 o_349 p0_crossings c_p0_crossings bz_p0_crossings p0_kName c_p0_kName g21 p0_knots c_p0_knots b_p0_knots p0_sides c_p0_sides bz_p0_sides p0_text c_p0_text b_p0_text) H348 := hQ348
              clear hQ348 hP294 hS294
              refine lv_aload_n hx hb dX9_readKnot_109 rfl (lv_at hl 1 rfl) ?_
              refine q_cVi (As := []) (rest := []) q_w0 trivial hK hP348 hDa za_r_readKnot hS348 hA [0] [] (by decide +kernel) ⟨hx, hb, hml, hown, hts⟩ (r_isGood l dC dI H348.size p0 o_349 o_350 ho_351 z_353) rfl rfl (cwV 0 hts (p1_gV m_9 m_10 m_11 m_6 g_r_isGood gz_r_isGood) rfl rfl rfl (by decide +kernel) ⟨by decide, by decide⟩) (va_recv hK hP348 (ci := 8) (q0 := 0) rfl rfl) zm_r_isGood rfl hl.1 rfl (Nat.le_of_ble_eq_true rfl) dX9_readKnot_110 ⟨by decide, by decide⟩ (fun r_355 H356 lo356 hG356 hS356 => ?_)
              obtain ⟨z_357, hQ356⟩ := hG356
              have hP356 : va_P (dC, dI) vwCl (zW_r_readKnot p0 o_349 p0_crossings c_p0_crossings bz_p0_crossings p0_kName c_p0_kName g21 p0_knots c_p0_knots b_p0_knots p0_sides c_p0_sides bz_p0_sides p0_text c_p0_text b_p0_text) H356 := hQ356
              clear hQ356 hP348 hS348
              rcases z_357 with ⟨rfl, z_357⟩ | ⟨rfl, z_357⟩
              · refine lv_if_ne (tgt := 117) hx hb dX9_readKnot_113 (by decide) (fun c_358 => ?_) (fun c_358 => absurd c_358 (by decide))
                refine lv_aload_n hx hb dX9_readKnot_117 rfl (lv_at hl 1 rfl) (qg_X9_26 hx hb hts i_X9 hown hK hP356 0 rfl k_7 (hf_352.u (by decide) fr_fz_p0_26) dX9_readKnot_118 (lv_iload_n hx hb dX9_readKnot_121 rfl (lv_at hl 0 rfl) (lv_dup2_11 hx hb dX9_readKnot_122 rfl rfl (q_ild hx hb hK hP356 4 3 rfl rfl (q_in (by omega) (by omega)) dX9_readKnot_123 (fun v_359 ev_359 => ?_)))))
                refine lv_aload_n hx hb dX9_readKnot_124 rfl (lv_at hl 1 rfl) (lv_ldc2 (v := 504363246962) hx hb hown k_15 dX9_readKnot_125 ?_)
                obtain ⟨v_360, fv_360⟩ := OKX9_g10 ho_351
                refine q_cVi (As := [.long 504363246962]) (rest := [.int v_359, .int v_3, .ref p0_sides]) q_w0 trivial hK hP356 hDa za_r_readKnot hS356 hA [0] [] (by decide +kernel) ⟨hx, hb, hml, hown, hts⟩ (r_isWord l dC dI H356.size p0 o_349 504363246962 tkv v_360 ho_351 ((hf_352.u (by decide) fv_fz_p0_8)) fv_360) rfl rfl (cwV 1 hts (p1_gV m_16 m_17 m_18 m_6 g_r_isWord gz_r_isWord) rfl rfl rfl (by decide +kernel) ⟨by decide, by decide⟩) (va_recv hK hP356 (ci := 8) (q0 := 0) rfl rfl) zm_r_isWord rfl hl.1 rfl (Nat.le_of_ble_eq_true rfl) dX9_readKnot_128 ⟨by decide, by decide⟩ (fun r_361 H362 lo362 hG362 hS362 => ?_)
                obtain ⟨z_363, hQ362⟩ := hG362
                have hP362 : va_P (dC, dI) vwCl (zW_r_readKnot p0 o_349 p0_crossings c_p0_crossings bz_p0_crossings p0_kName c_p0_kName g21 p0_knots c_p0_knots b_p0_knots p0_sides c_p0_sides bz_p0_sides p0_text c_p0_text b_p0_text) H362 := hQ362
                clear hQ362 hP356 hS356
                rcases z_363 with ⟨rfl, z_363⟩ | ⟨rfl, z_363⟩
                · refine lv_if_eq (tgt := 145) hx hb dX9_readKnot_131 (by decide) (fun c_364 => absurd c_364 (by decide)) (fun c_364 => ?_)
                  refine lv_iconst (v := 1) hx hb dX9_readKnot_134 (by decide) (lv_aload_n hx hb dX9_readKnot_135 rfl (lv_at hl 1 rfl) (qg_X9_27 hx hb hts i_X9 hown hK hP362 0 rfl k_8 (hf_352.u (by decide) fr_fz_p0_27) dX9_readKnot_136 (lv_iload_n hx hb dX9_readKnot_139 rfl (lv_at hl 0 rfl) (q_ild hx hb hK hP362 1 0 rfl rfl (q_in (by omega) (by omega)) dX9_readKnot_140 (fun v_365 ev_365 => ?_)))))
                  have uv_365 : v_365.toInt = (bz_p0_crossings v_3.toNatClampNeg).toInt := by rw [ev_365]
                  have tv_365 := q_rd' hr_bz_p0_crossings (q_in (by omega) (by omega)) ev_365
                  refine lv_ishl hx hb dX9_readKnot_141 (lv_topi fun v_366 ev_366 => ?_)
                  have tv_366 : 1 ≤ v_366.toInt ∧ v_366.toInt ≤ 4096 := q_shl1 (k := 12) ev_366 (by omega) (by omega) (by decide)
                  refine lv_goto (tgt := 146) hx hb dX9_readKnot_142 (by decide) (lv_ior hx hb dX9_readKnot_146 (lv_topi fun v_367 ev_367 => q_ist hx hb hK hP362 hDa za_r_readKnot hS362 4 3 rfl rfl (q_in (by omega) (by omega)) dX9_readKnot_147 (fun H368 lo368 g368 eg368 (hP368 : va_P (dC, dI) vwCl (zW_r_readKnot p0 o_349 p0_crossings c_p0_crossings bz_p0_crossings p0_kName c_p0_kName g21 p0_knots c_p0_knots b_p0_knots p0_sides c_p0_sides g368 p0_text c_p0_text b_p0_text) H368) hS368 => ?_)))
                  clear hP362 hS362
                  refine lv_aload_n hx hb dX9_readKnot_148 rfl (lv_at hl 1 rfl) (qg_X9_27 hx hb hts i_X9 hown hK hP368 0 rfl k_8 (hf_352.u (by decide) fr_fz_p0_27) dX9_readKnot_149 (lv_iload_n hx hb dX9_readKnot_152 rfl (lv_at hl 0 rfl) (lv_dup2_11 hx hb dX9_readKnot_153 rfl rfl (q_ild hx hb hK hP368 1 0 rfl rfl (q_in (by omega) (by omega)) dX9_readKnot_154 (fun v_369 ev_369 => ?_)))))
                  have uv_369 : v_369.toInt = (bz_p0_crossings v_3.toNatClampNeg).toInt := by rw [ev_369]
                  have tv_369 := q_rd' hr_bz_p0_crossings (q_in (by omega) (by omega)) ev_369
                  refine lv_iconst (v := 1) hx hb dX9_readKnot_155 (by decide) (lv_iadd hx hb dX9_readKnot_156 (lv_topi fun v_370 ev_370 => ?_))
                  have tv_370 := q_add ev_370 (by omega) (by omega)
                  refine q_ist hx hb hK hP368 hDa za_r_readKnot hS368 1 0 rfl rfl (q_in (by omega) (by omega)) dX9_readKnot_157 (fun H371 lo371 g371 eg371 (hP371 : va_P (dC, dI) vwCl (zW_r_readKnot p0 o_349 p0_crossings c_p0_crossings g371 p0_kName c_p0_kName g21 p0_knots c_p0_knots b_p0_knots p0_sides c_p0_sides g368 p0_text c_p0_text b_p0_text) H371) hS371 => ?_)
                  clear hP368 hS368
                  have hr_g371 := q_up' hr_bz_p0_crossings eg371 ⟨by omega, by omega⟩
                  have usg371 : (g371 v_3.toNatClampNeg).toInt = v_370.toInt := by rw [eg371, pk_us]
                  refine lv_aload_n hx hb dX9_readKnot_158 rfl (lv_at hl 1 rfl) ?_
                  refine q_cVv (As := []) (rest := []) q_w0 trivial hK hP371 hDa za_r_readKnot hS371 hA [0, 5] [4] (by decide +kernel) ⟨hx, hb, hml, hown, hts⟩ (r_goOn l dC dI H371.size p0 o_349 p0_text c_p0_text b_p0_text atv env tkv sz ho_351 ((hf_352.u (by decide) fr_fz_p0_1)) ((hf_352.u (by decide) fv_fz_p0_6)) ((hf_352.u (by decide) fv_fz_p0_7)) ((hf_352.u (by decide) fv_fz_p0_8)) ((hf_352.u (by decide) fh_fz_p0_3)) ((by omega))) rfl rfl (cwV 0 hts (p1_gV m_19 m_20 m_21 m_6 g_r_goOn gz_r_goOn) rfl rfl rfl (by decide +kernel) ⟨by decide, by decide⟩) (va_recv hK hP371 (ci := 8) (q0 := 0) rfl rfl) zm_r_goOn rfl hl.1 rfl (Nat.le_of_ble_eq_true rfl) dX9_readKnot_159 ⟨by decide, by decide⟩ (fun H373 lo373 hG373 hS373 => ?_)
                  obtain ⟨o_374, o_375, o_376, o_377, ho_378, hf_379, z_380, z_381, z_382, z_383, hQ373⟩ := hG373
                  have to_375 := (OKX9_g6 ho_378).use z_380
                  have to_376 := (OKX9_g7 ho_378).use z_381
                  have to_377 := (OKX9_g8 ho_378).use z_382
                  have hP373 : va_P (dC, dI) vwCl (zW_r_readKnot p0 o_374 p0_crossings c_p0_crossings g371 p0_kName c_p0_kName g21 p0_knots c_p0_knots b_p0_knots p0_sides c_p0_sides g368 p0_text c_p0_text b_p0_text) H373 := hQ373
                  clear hQ373 hP371 hS371
                  refine lv_goto (tgt := 80) hx hb dX9_readKnot_162 (by decide) ?_
                  exact ih80 (fu80 - 1) (by omega) o_374 o_350 o_375 o_376 o_377 g371 g368 _ _ _ (by omega) ho_378 ((hf_fz_p0.tr hf_352 (by decide)).tr hf_379 (by decide)) (hf_379.u (by decide) (hf_352.u (by decide) fr_fz_p0_1)) (hf_379.u (by decide) (hf_352.u (by decide) fh_fz_p0_3)) (hf_379.u (by decide) z_353) (by omega) z_380 (by omega) z_381 (by omega) z_382 (by omega) (hf_379.u (by decide) (hf_352.u (by decide) fr_fz_p0_11)) (hf_379.u (by decide) (hf_352.u (by decide) fr_fz_p0_21)) (hf_379.u (by decide) (hf_352.u (by decide) fr_fz_p0_26)) (hf_379.u (by decide) (hf_352.u (by decide) fr_fz_p0_27)) (hf_379.u (by decide) (hf_352.u (by decide) fh_fz_p0_44)) hr_g371 (by omega) (by omega) hP373 hS373 (lv_sub hl [0, 1] rfl)
                · refine lv_if_eq (tgt := 145) hx hb dX9_readKnot_131 (by decide) (fun c_384 => ?_) (fun c_384 => absurd c_384 (by decide))
                  refine lv_iconst (v := 0) hx hb dX9_readKnot_145 (by decide) (lv_ior hx hb dX9_readKnot_146 (lv_topi fun v_385 ev_385 => q_ist hx hb hK hP362 hDa za_r_readKnot hS362 4 3 rfl rfl (q_in (by omega) (by omega)) dX9_readKnot_147 (fun H386 lo386 g386 eg386 (hP386 : va_P (dC, dI) vwCl (zW_r_readKnot p0 o_349 p0_crossings c_p0_crossings bz_p0_crossings p0_kName c_p0_kName g21 p0_knots c_p0_knots b_p0_knots p0_sides c_p0_sides g386 p0_text c_p0_text b_p0_text) H386) hS386 => ?_)))
                  clear hP362 hS362
                  refine lv_aload_n hx hb dX9_readKnot_148 rfl (lv_at hl 1 rfl) (qg_X9_27 hx hb hts i_X9 hown hK hP386 0 rfl k_8 (hf_352.u (by decide) fr_fz_p0_27) dX9_readKnot_149 (lv_iload_n hx hb dX9_readKnot_152 rfl (lv_at hl 0 rfl) (lv_dup2_11 hx hb dX9_readKnot_153 rfl rfl (q_ild hx hb hK hP386 1 0 rfl rfl (q_in (by omega) (by omega)) dX9_readKnot_154 (fun v_387 ev_387 => ?_)))))
                  have uv_387 : v_387.toInt = (bz_p0_crossings v_3.toNatClampNeg).toInt := by rw [ev_387]
                  have tv_387 := q_rd' hr_bz_p0_crossings (q_in (by omega) (by omega)) ev_387
                  refine lv_iconst (v := 1) hx hb dX9_readKnot_155 (by decide) (lv_iadd hx hb dX9_readKnot_156 (lv_topi fun v_388 ev_388 => ?_))
                  have tv_388 := q_add ev_388 (by omega) (by omega)
                  refine q_ist hx hb hK hP386 hDa za_r_readKnot hS386 1 0 rfl rfl (q_in (by omega) (by omega)) dX9_readKnot_157 (fun H389 lo389 g389 eg389 (hP389 : va_P (dC, dI) vwCl (zW_r_readKnot p0 o_349 p0_crossings c_p0_crossings g389 p0_kName c_p0_kName g21 p0_knots c_p0_knots b_p0_knots p0_sides c_p0_sides g386 p0_text c_p0_text b_p0_text) H389) hS389 => ?_)
                  clear hP386 hS386
                  have hr_g389 := q_up' hr_bz_p0_crossings eg389 ⟨by omega, by omega⟩
                  have usg389 : (g389 v_3.toNatClampNeg).toInt = v_388.toInt := by rw [eg389, pk_us]
                  refine lv_aload_n hx hb dX9_readKnot_158 rfl (lv_at hl 1 rfl) ?_
                  refine q_cVv (As := []) (rest := []) q_w0 trivial hK hP389 hDa za_r_readKnot hS389 hA [0, 5] [4] (by decide +kernel) ⟨hx, hb, hml, hown, hts⟩ (r_goOn l dC dI H389.size p0 o_349 p0_text c_p0_text b_p0_text atv env tkv sz ho_351 ((hf_352.u (by decide) fr_fz_p0_1)) ((hf_352.u (by decide) fv_fz_p0_6)) ((hf_352.u (by decide) fv_fz_p0_7)) ((hf_352.u (by decide) fv_fz_p0_8)) ((hf_352.u (by decide) fh_fz_p0_3)) ((by omega))) rfl rfl (cwV 0 hts (p1_gV m_19 m_20 m_21 m_6 g_r_goOn gz_r_goOn) rfl rfl rfl (by decide +kernel) ⟨by decide, by decide⟩) (va_recv hK hP389 (ci := 8) (q0 := 0) rfl rfl) zm_r_goOn rfl hl.1 rfl (Nat.le_of_ble_eq_true rfl) dX9_readKnot_159 ⟨by decide, by decide⟩ (fun H391 lo391 hG391 hS391 => ?_)
                  obtain ⟨o_392, o_393, o_394, o_395, ho_396, hf_397, z_398, z_399, z_400, z_401, hQ391⟩ := hG391
                  have to_393 := (OKX9_g6 ho_396).use z_398
                  have to_394 := (OKX9_g7 ho_396).use z_399
                  have to_395 := (OKX9_g8 ho_396).use z_400
                  have hP391 : va_P (dC, dI) vwCl (zW_r_readKnot p0 o_392 p0_crossings c_p0_crossings g389 p0_kName c_p0_kName g21 p0_knots c_p0_knots b_p0_knots p0_sides c_p0_sides g386 p0_text c_p0_text b_p0_text) H391 := hQ391
                  clear hQ391 hP389 hS389
                  refine lv_goto (tgt := 80) hx hb dX9_readKnot_162 (by decide) ?_
                  exact ih80 (fu80 - 1) (by omega) o_392 o_350 o_393 o_394 o_395 g389 g386 _ _ _ (by omega) ho_396 ((hf_fz_p0.tr hf_352 (by decide)).tr hf_397 (by decide)) (hf_397.u (by decide) (hf_352.u (by decide) fr_fz_p0_1)) (hf_397.u (by decide) (hf_352.u (by decide) fh_fz_p0_3)) (hf_397.u (by decide) z_353) (by omega) z_398 (by omega) z_399 (by omega) z_400 (by omega) (hf_397.u (by decide) (hf_352.u (by decide) fr_fz_p0_11)) (hf_397.u (by decide) (hf_352.u (by decide) fr_fz_p0_21)) (hf_397.u (by decide) (hf_352.u (by decide) fr_fz_p0_26)) (hf_397.u (by decide) (hf_352.u (by decide) fr_fz_p0_27)) (hf_397.u (by decide) (hf_352.u (by decide) fh_fz_p0_44)) hr_g389 (by omega) (by omega) hP391 hS391 (lv_sub hl [0, 1] rfl)
              · refine lv_if_ne (tgt := 117) hx hb dX9_readKnot_113 (by decide) (fun c_402 => absurd c_402 (by decide)) (fun c_402 => ?_)
                exact q_vret hx hb hr hlocks hS356 dX9_readKnot_116 ⟨o_349, bz_p0_crossings, g21, b_p0_knots, bz_p0_sides, atv, env, tkv, o_350, ho_351, (hf_fz_p0.tr hf_352 (by decide)), hr_bz_p0_crossings, hr_p0_knots, (hf_352.u (by decide) fv_fz_p0_6), (hf_352.u (by decide) fv_fz_p0_7), (hf_352.u (by decide) fv_fz_p0_8), z_353, (by omega), (by omega), hP356, za_r_readKnot⟩
          · refine lv_if_eq (tgt := 165) hx hb dX9_readKnot_91 (by decide) (fun c_403 => ?_) (fun c_403 => absurd c_403 (by decide))
            refine lv_aload_n hx hb dX9_readKnot_165 rfl (lv_at hl 1 rfl) (qg_X9_11 hx hb hts i_X9 hown hK hP294 0 rfl k_1 fr_fz_p0_11 dX9_readKnot_166 (lv_aload_n hx hb dX9_readKnot_169 rfl (lv_at hl 1 rfl) (qg_X9_44 hx hb hts i_X9 hown hK hP294 0 rfl k_0 fh_fz_p0_44 dX9_readKnot_170 (lv_dup2_11 hx hb dX9_readKnot_173 rfl rfl (q_ild hx hb hK hP294 3 2 rfl rfl (q_in (by omega) (by omega)) dX9_readKnot_174 (fun v_404 ev_404 => ?_))))))
            have uv_404 : v_404.toInt = (b_p0_knots rb.toNatClampNeg).toInt := by rw [ev_404]
            have tv_404 := q_rd' hr_p0_knots (q_in (by omega) (by omega)) ev_404
            refine lv_iconst (v := 1) hx hb dX9_readKnot_175 (by decide) (lv_iadd hx hb dX9_readKnot_176 (lv_topi fun v_405 ev_405 => ?_))
            have tv_405 := q_add ev_405 (by omega) (by omega)
            refine q_ist hx hb hK hP294 hDa za_r_readKnot hS294 3 2 rfl rfl (q_in (by omega) (by omega)) dX9_readKnot_177 (fun H406 lo406 g406 eg406 (hP406 : va_P (dC, dI) vwCl (zW_r_readKnot p0 fz_p0 p0_crossings c_p0_crossings bz_p0_crossings p0_kName c_p0_kName g21 p0_knots c_p0_knots g406 p0_sides c_p0_sides bz_p0_sides p0_text c_p0_text b_p0_text) H406) hS406 => ?_)
            clear hP294 hS294
            have hr_g406 := q_up' hr_p0_knots eg406 ⟨by omega, by omega⟩
            exact q_vret hx hb hr hlocks hS406 dX9_readKnot_178 ⟨fz_p0, bz_p0_crossings, g21, g406, bz_p0_sides, atv, env, tkv, fkv, ho_fz_p0, hf_fz_p0, hr_bz_p0_crossings, hr_g406, fv_fz_p0_6, fv_fz_p0_7, fv_fz_p0_8, fv_fz_p0_4, (by omega), (by omega), hP406, za_r_readKnot⟩
        · refine lv_if_eq (tgt := 165) hx hb dX9_readKnot_84 (by decide) (fun c_407 => ?_) (fun c_407 => absurd c_407 (by decide))
          refine lv_aload_n hx hb dX9_readKnot_165 rfl (lv_at hl 1 rfl) (qg_X9_11 hx hb hts i_X9 hown hK hP290 0 rfl k_1 fr_fz_p0_11 dX9_readKnot_166 (lv_aload_n hx hb dX9_readKnot_169 rfl (lv_at hl 1 rfl) (qg_X9_44 hx hb hts i_X9 hown hK hP290 0 rfl k_0 fh_fz_p0_44 dX9_readKnot_170 (lv_dup2_11 hx hb dX9_readKnot_173 rfl rfl (q_ild hx hb hK hP290 3 2 rfl rfl (q_in (by omega) (by omega)) dX9_readKnot_174 (fun v_408 ev_408 => ?_))))))
          have uv_408 : v_408.toInt = (b_p0_knots rb.toNatClampNeg).toInt := by rw [ev_408]
          have tv_408 := q_rd' hr_p0_knots (q_in (by omega) (by omega)) ev_408
          refine lv_iconst (v := 1) hx hb dX9_readKnot_175 (by decide) (lv_iadd hx hb dX9_readKnot_176 (lv_topi fun v_409 ev_409 => ?_))
          have tv_409 := q_add ev_409 (by omega) (by omega)
          refine q_ist hx hb hK hP290 hDa za_r_readKnot hS290 3 2 rfl rfl (q_in (by omega) (by omega)) dX9_readKnot_177 (fun H410 lo410 g410 eg410 (hP410 : va_P (dC, dI) vwCl (zW_r_readKnot p0 fz_p0 p0_crossings c_p0_crossings bz_p0_crossings p0_kName c_p0_kName g21 p0_knots c_p0_knots g410 p0_sides c_p0_sides bz_p0_sides p0_text c_p0_text b_p0_text) H410) hS410 => ?_)
          clear hP290 hS290
          have hr_g410 := q_up' hr_p0_knots eg410 ⟨by omega, by omega⟩
          exact q_vret hx hb hr hlocks hS410 dX9_readKnot_178 ⟨fz_p0, bz_p0_crossings, g21, g410, bz_p0_sides, atv, env, tkv, fkv, ho_fz_p0, hf_fz_p0, hr_bz_p0_crossings, hr_g410, fv_fz_p0_6, fv_fz_p0_7, fv_fz_p0_8, fv_fz_p0_4, (by omega), (by omega), hP410, za_r_readKnot⟩
    exact key80 13 o_8 o_12 o_9 o_10 o_11 g23 g22 _ _ _ (by omega) ho_13 (q_fr.rf.tr hf_14 (by decide)) (hf_14.u (by decide) fr_p0_1) (hf_14.u (by decide) pf_sz) z_18 (by omega) z_15 (by omega) z_16 (by omega) z_17 (by omega) (hf_14.u (by decide) fr_p0_11) (hf_14.u (by decide) fr_p0_21) (hf_14.u (by decide) fr_p0_26) (hf_14.u (by decide) fr_p0_27) (hf_14.u (by decide) pf_rb) hr_g23 (by omega) (by omega) hP25 hS25 (lv_sub hl [0, 1] rfl)
def zo_r_readCord : List Cond := [.code yX9_readCord cX9_readCord 2 none, .fieldLink RX9 279 "BowWalkModel" "rb" "I", .fieldLink RX9 24 "BowWalkModel" "cords" "[I", .fieldLink RX9 56 "BowWalkModel" "cName" "[J", .methodLink RX9 325 yX9_fresh, .instanceMethod yX9_fresh, .selects RX9 yX9_fresh yX9_fresh, .initialized RX9, .fieldLink RX9 74 "BowWalkModel" "smooth" "[I", .constantLong RX9 184 (126913858204776), .methodLink RX9 332 yX9_after, .instanceMethod yX9_after, .selects RX9 yX9_after yX9_after, .fieldLink RX9 77 "BowWalkModel" "weight" "[I", .constantLong RX9 186 (131277443786868), .fieldLink RX9 80 "BowWalkModel" "longOf" "[I", .constantLong RX9 188 (1819242087)]
def zw_r_readCord : List Cond := zo_r_readCord ++ (zw_r_fresh ++ (zw_r_after ++ (wsX90 ++ [])))
theorem gz_r_readCord : zw_r_readCord.all goodWord = true := p1_ga (by decide +kernel) (p1_ga gz_r_fresh (p1_ga gz_r_after (p1_ga gk_X9 p1_g0)))
theorem iz_r_readCord : ∀ w ∈ zw_r_readCord, w ∈ lw_tbl := p1_ia (p1_all [1366, 1081, 1049, 1059, 1355, 1357, 53, 116, 1065, 1303, 1367, 1369, 56, 1066, 1304, 1067, 1305] (by decide +kernel)) (p1_ia iz_r_fresh (p1_ia iz_r_after (p1_ia ik_X9 p1_i0)))
def zW_r_readCord (p0 : Nat) (f_p0 : List Value) (p0_cName : Nat) (c_p0_cName : ClassId) (b_p0_cName : Nat → Int64) (p0_cords : Nat) (c_p0_cords : ClassId) (b_p0_cords : Nat → Int32) (p0_longOf : Nat) (c_p0_longOf : ClassId) (b_p0_longOf : Nat → Int32) (p0_smooth : Nat) (c_p0_smooth : ClassId) (b_p0_smooth : Nat → Int32) (p0_text : Nat) (c_p0_text : ClassId) (b_p0_text : Nat → Int32) (p0_weight : Nat) (c_p0_weight : ClassId) (b_p0_weight : Nat → Int32) : va_W := [(p0, .inr (8, f_p0)), (p0_cName, .inl (c_p0_cName, 8, .inr (.inl b_p0_cName))), (p0_cords, .inl (c_p0_cords, 2, .inl b_p0_cords)), (p0_longOf, .inl (c_p0_longOf, 8, .inl b_p0_longOf)), (p0_smooth, .inl (c_p0_smooth, 8, .inl b_p0_smooth)), (p0_text, .inl (c_p0_text, 1600, .inl b_p0_text)), (p0_weight, .inl (c_p0_weight, 8, .inl b_p0_weight))]
def zT_r_readCord (c_p0_cName : ClassId) (c_p0_cords : ClassId) (c_p0_longOf : ClassId) (c_p0_smooth : ClassId) (c_p0_text : ClassId) (c_p0_weight : ClassId) : List (ClassId × FieldType) := [(c_p0_cName, .long), (c_p0_cords, .int), (c_p0_longOf, .int), (c_p0_smooth, .int), (c_p0_text, .byte), (c_p0_weight, .int)]
def zA_r_readCord (p0 : Nat) (p0_cName : Nat) (p0_cords : Nat) (p0_longOf : Nat) (p0_smooth : Nat) (p0_text : Nat) (p0_weight : Nat) : List Nat := [p0, p0_cName, p0_cords, p0_longOf, p0_smooth, p0_text, p0_weight]
theorem za_r_readCord {p0 : Nat} {f_p0 : List Value} {p0_cName : Nat} {c_p0_cName : ClassId} {b_p0_cName : Nat → Int64} {p0_cords : Nat} {c_p0_cords : ClassId} {b_p0_cords : Nat → Int32} {p0_longOf : Nat} {c_p0_longOf : ClassId} {b_p0_longOf : Nat → Int32} {p0_smooth : Nat} {c_p0_smooth : ClassId} {b_p0_smooth : Nat → Int32} {p0_text : Nat} {c_p0_text : ClassId} {b_p0_text : Nat → Int32} {p0_weight : Nat} {c_p0_weight : ClassId} {b_p0_weight : Nat → Int32} : (zW_r_readCord p0 f_p0 p0_cName c_p0_cName b_p0_cName p0_cords c_p0_cords b_p0_cords p0_longOf c_p0_longOf b_p0_longOf p0_smooth c_p0_smooth b_p0_smooth p0_text c_p0_text b_p0_text p0_weight c_p0_weight b_p0_weight).map Prod.fst = (zA_r_readCord p0 p0_cName p0_cords p0_longOf p0_smooth p0_text p0_weight) := rfl
def zG_r_readCord (p0 : Nat) (f_p0 : List Value) (p0_cName : Nat) (c_p0_cName : ClassId) (b_p0_cName : Nat → Int64) (p0_cords : Nat) (c_p0_cords : ClassId) (b_p0_cords : Nat → Int32) (p0_longOf : Nat) (c_p0_longOf : ClassId) (b_p0_longOf : Nat → Int32) (p0_smooth : Nat) (c_p0_smooth : ClassId) (b_p0_smooth : Nat → Int32) (p0_text : Nat) (c_p0_text : ClassId) (b_p0_text : Nat → Int32) (p0_weight : Nat) (c_p0_weight : ClassId) (b_p0_weight : Nat → Int32) (at0 : Int32) (en : Int32) (tk : Int32) (sz : Int32) (fk : Int32) (rb : Int32) (X : va_W → Prop) : Prop := ∃ (y_p0 : List Value) (y_p0_cName : Nat → Int64) (y_p0_cords : Nat → Int32) (y_p0_longOf : Nat → Int32) (y_p0_smooth : Nat → Int32) (y_p0_weight : Nat → Int32) (at1 : Int32) (en1 : Int32) (tk1 : Int32) (fk1 : Int32), OKX9 y_p0 ∧ q_fr [4, 5, 6, 7, 8, 9, 10] f_p0 y_p0 ∧ (∀ k, k < 2 → (0) ≤ (y_p0_cords k).toInt ∧ (y_p0_cords k).toInt ≤ 4) ∧ y_p0[6]? = some (.int at1) ∧ y_p0[7]? = some (.int en1) ∧ y_p0[8]? = some (.int tk1) ∧ y_p0[4]? = some (.int fk1) ∧ (en1.toInt ≤ sz.toInt ∧ at0.toInt ≤ at1.toInt ∧ at1.toInt ≤ en1.toInt ∧ (tk1.toInt ≠ 3 ∨ at1.toInt < en1.toInt)) ∧ (fk.toInt = 0 ∨ 1 ≤ fk1.toInt) ∧ X (zW_r_readCord p0 y_p0 p0_cName c_p0_cName y_p0_cName p0_cords c_p0_cords y_p0_cords p0_longOf c_p0_longOf y_p0_longOf p0_smooth c_p0_smooth y_p0_smooth p0_text c_p0_text b_p0_text p0_weight c_p0_weight y_p0_weight)
theorem zm_r_readCord {p0 : Nat} {f_p0 : List Value} {p0_cName : Nat} {c_p0_cName : ClassId} {b_p0_cName : Nat → Int64} {p0_cords : Nat} {c_p0_cords : ClassId} {b_p0_cords : Nat → Int32} {p0_longOf : Nat} {c_p0_longOf : ClassId} {b_p0_longOf : Nat → Int32} {p0_smooth : Nat} {c_p0_smooth : ClassId} {b_p0_smooth : Nat → Int32} {p0_text : Nat} {c_p0_text : ClassId} {b_p0_text : Nat → Int32} {p0_weight : Nat} {c_p0_weight : ClassId} {b_p0_weight : Nat → Int32} {at0 : Int32} {en : Int32} {tk : Int32} {sz : Int32} {fk : Int32} {rb : Int32} : ∀ X Y : va_W → Prop, (∀ w, X w → Y w) → zG_r_readCord p0 f_p0 p0_cName c_p0_cName b_p0_cName p0_cords c_p0_cords b_p0_cords p0_longOf c_p0_longOf b_p0_longOf p0_smooth c_p0_smooth b_p0_smooth p0_text c_p0_text b_p0_text p0_weight c_p0_weight b_p0_weight at0 en tk sz fk rb X → zG_r_readCord p0 f_p0 p0_cName c_p0_cName b_p0_cName p0_cords c_p0_cords b_p0_cords p0_longOf c_p0_longOf b_p0_longOf p0_smooth c_p0_smooth b_p0_smooth p0_text c_p0_text b_p0_text p0_weight c_p0_weight b_p0_weight at0 en tk sz fk rb Y := fun X Y h h1 => by obtain ⟨x0, x1, x2, x3, x4, x5, x6, x7, x8, x9, x10, x11, x12, x13, x14, x15, x16, x17, x18, hx⟩ := h1; exact ⟨x0, x1, x2, x3, x4, x5, x6, x7, x8, x9, x10, x11, x12, x13, x14, x15, x16, x17, x18, h _ hx⟩
set_option maxHeartbeats 4000000 in
set_option maxRecDepth 100000 in
theorem r_readCord (l : Launch) (dC : Nat → ClassId) (dI : Nat → Nat → Nat) (sz : Nat) (p0 : Nat) (f_p0 : List Value) (p0_cName : Nat) (c_p0_cName : ClassId) (b_p0_cName : Nat → Int64) (p0_cords : Nat) (c_p0_cords : ClassId) (b_p0_cords : Nat → Int32) (p0_longOf : Nat) (c_p0_longOf : ClassId) (b_p0_longOf : Nat → Int32) (p0_smooth : Nat) (c_p0_smooth : ClassId) (b_p0_smooth : Nat → Int32) (p0_text : Nat) (c_p0_text : ClassId) (b_p0_text : Nat → Int32) (p0_weight : Nat) (c_p0_weight : ClassId) (b_p0_weight : Nat → Int32) (at0 : Int32) (en : Int32) (tk : Int32) (sz : Int32) (fk : Int32) (rb : Int32) (ho_p0 : OKX9 f_p0) (fr_p0_1 : f_p0[1]? = some (.ref p0_text)) (fr_p0_12 : f_p0[12]? = some (.ref p0_cords)) (fr_p0_22 : f_p0[22]? = some (.ref p0_cName)) (fr_p0_28 : f_p0[28]? = some (.ref p0_smooth)) (fr_p0_29 : f_p0[29]? = some (.ref p0_weight)) (fr_p0_30 : f_p0[30]? = some (.ref p0_longOf)) (hr_p0_cords : ∀ k, k < 2 → (0) ≤ (b_p0_cords k).toInt ∧ (b_p0_cords k).toInt ≤ 4) (pf_at0 : f_p0[6]? = some (.int at0)) (pf_en : f_p0[7]? = some (.int en)) (pf_tk : f_p0[8]? = some (.int tk)) (pf_sz : f_p0[3]? = some (.int sz)) (pf_fk : f_p0[4]? = some (.int fk)) (pf_rb : f_p0[44]? = some (.int rb)) (hR : en.toInt ≤ sz.toInt ∧ at0.toInt ≤ en.toInt ∧ (tk.toInt ≠ 3 ∨ at0.toInt < en.toInt)) (hk : (b_p0_cords rb.toNatClampNeg).toInt ≤ 3) : Met l yX9_readCord zw_r_readCord ({ frames := 4, cells := 0, slots := 0, locals := 91 }) (va_Pc [.ref p0] (q_pre (dC, dI) (zW_r_readCord p0 f_p0 p0_cName c_p0_cName b_p0_cName p0_cords c_p0_cords b_p0_cords p0_longOf c_p0_longOf b_p0_longOf p0_smooth c_p0_smooth b_p0_smooth p0_text c_p0_text b_p0_text p0_weight c_p0_weight b_p0_weight) (zT_r_readCord c_p0_cName c_p0_cords c_p0_longOf c_p0_smooth c_p0_text c_p0_weight) q_E0 sz)) (q_Qv (dC, dI) (zG_r_readCord p0 f_p0 p0_cName c_p0_cName b_p0_cName p0_cords c_p0_cords b_p0_cords p0_longOf c_p0_longOf b_p0_longOf p0_smooth c_p0_smooth b_p0_smooth p0_text c_p0_text b_p0_text p0_weight c_p0_weight b_p0_weight at0 en tk sz fk rb) (zA_r_readCord p0 p0_cName p0_cords p0_longOf p0_smooth p0_text p0_weight) (va_A (zW_r_readCord p0 f_p0 p0_cName c_p0_cName b_p0_cName p0_cords c_p0_cords b_p0_cords p0_longOf c_p0_longOf b_p0_longOf p0_smooth c_p0_smooth b_p0_smooth p0_text c_p0_text b_p0_text p0_weight c_p0_weight b_p0_weight) sz)) 0 0 (va_A (zW_r_readCord p0 f_p0 p0_cName c_p0_cName b_p0_cName p0_cords c_p0_cords b_p0_cords p0_longOf c_p0_longOf b_p0_longOf p0_smooth c_p0_smooth b_p0_smooth p0_text c_p0_text b_p0_text p0_weight c_p0_weight b_p0_weight) sz) := by
  refine Met.ofW (cc := cX9_readCord) (maxL := 2) (ret := none) (by decide) rfl ?_
  intro p e s m args below meth c s₁ B hml hv
  obtain ⟨rfl, hsz, hP, hK, hD0, hE⟩ := hv
  have hx := B.exec
  have hb := B.bytes
  have hr := B.returns
  have hts := atoms_spec (ws := zw_r_readCord) B.pre
  have hown : s.vm.findClass RX9 = some m.cls := findClass_of_methodNamed B.named
  have hlocks := B.notSynchronized
  subst hsz
  have hD := hD0.self (sz := s.heap.size)
  generalize hAe : va_A (zW_r_readCord p0 f_p0 p0_cName c_p0_cName b_p0_cName p0_cords c_p0_cords b_p0_cords p0_longOf c_p0_longOf b_p0_longOf p0_smooth c_p0_smooth b_p0_smooth p0_text c_p0_text b_p0_text p0_weight c_p0_weight b_p0_weight) s.heap.size = A at hD hE ⊢
  have hA : ∀ q : Nat, s.heap.size ≤ q → A q := fun q h => by rw [← hAe]; exact Or.inr h
  have hDa : q_DA A (zA_r_readCord p0 p0_cName p0_cords p0_longOf p0_smooth p0_text p0_weight) := q_DA.mk hD za_r_readCord
  clear hAe hD0 hD
  have hS : va_S A s.heap s.heap [] := va_S.rf
  have m_0 : (.fieldLink RX9 279 "BowWalkModel" "rb" "I" : Cond) ∈ zw_r_readCord := List.mem_append_left _ (List.mem_of_getElem? (i := 1) rfl)
  have k_0 := hts _ m_0
  have m_1 : (.fieldLink RX9 24 "BowWalkModel" "cords" "[I" : Cond) ∈ zw_r_readCord := List.mem_append_left _ (List.mem_of_getElem? (i := 2) rfl)
  have k_1 := hts _ m_1
  have m_2 : (.fieldLink RX9 56 "BowWalkModel" "cName" "[J" : Cond) ∈ zw_r_readCord := List.mem_append_left _ (List.mem_of_getElem? (i := 3) rfl)
  have k_2 := hts _ m_2
  have m_3 : (.methodLink RX9 325 yX9_fresh : Cond) ∈ zw_r_readCord := List.mem_append_left _ (List.mem_of_getElem? (i := 4) rfl)
  have k_3 := hts _ m_3
  have m_4 : (.instanceMethod yX9_fresh : Cond) ∈ zw_r_readCord := List.mem_append_left _ (List.mem_of_getElem? (i := 5) rfl)
  have k_4 := hts _ m_4
  have m_5 : (.selects RX9 yX9_fresh yX9_fresh : Cond) ∈ zw_r_readCord := List.mem_append_left _ (List.mem_of_getElem? (i := 6) rfl)
  have k_5 := hts _ m_5
  have m_6 : (.initialized RX9 : Cond) ∈ zw_r_readCord := List.mem_append_left _ (List.mem_of_getElem? (i := 7) rfl)
  have k_6 := hts _ m_6
  have m_7 : (.fieldLink RX9 74 "BowWalkModel" "smooth" "[I" : Cond) ∈ zw_r_readCord := List.mem_append_left _ (List.mem_of_getElem? (i := 8) rfl)
  have k_7 := hts _ m_7
  have m_8 : (.constantLong RX9 184 (126913858204776) : Cond) ∈ zw_r_readCord := List.mem_append_left _ (List.mem_of_getElem? (i := 9) rfl)
  have k_8 := hts _ m_8
  have m_9 : (.methodLink RX9 332 yX9_after : Cond) ∈ zw_r_readCord := List.mem_append_left _ (List.mem_of_getElem? (i := 10) rfl)
  have k_9 := hts _ m_9
  have m_10 : (.instanceMethod yX9_after : Cond) ∈ zw_r_readCord := List.mem_append_left _ (List.mem_of_getElem? (i := 11) rfl)
  have k_10 := hts _ m_10
  have m_11 : (.selects RX9 yX9_after yX9_after : Cond) ∈ zw_r_readCord := List.mem_append_left _ (List.mem_of_getElem? (i := 12) rfl)
  have k_11 := hts _ m_11
  have m_12 : (.fieldLink RX9 77 "BowWalkModel" "weight" "[I" : Cond) ∈ zw_r_readCord := List.mem_append_left _ (List.mem_of_getElem? (i := 13) rfl)
  have k_12 := hts _ m_12
  have m_13 : (.constantLong RX9 186 (131277443786868) : Cond) ∈ zw_r_readCord := List.mem_append_left _ (List.mem_of_getElem? (i := 14) rfl)
  have k_13 := hts _ m_13
  have m_14 : (.fieldLink RX9 80 "BowWalkModel" "longOf" "[I" : Cond) ∈ zw_r_readCord := List.mem_append_left _ (List.mem_of_getElem? (i := 15) rfl)
  have k_14 := hts _ m_14
  have m_15 : (.constantLong RX9 188 (1819242087) : Cond) ∈ zw_r_readCord := List.mem_append_left _ (List.mem_of_getElem? (i := 16) rfl)
  have k_15 := hts _ m_15
  have g_r_fresh : ∀ w ∈ zw_r_fresh, w ∈ zw_r_readCord := fun w h => List.mem_append_right _ (List.mem_append_left _ h)
  have g_r_after : ∀ w ∈ zw_r_after, w ∈ zw_r_readCord := fun w h => List.mem_append_right _ (List.mem_append_right _ (List.mem_append_left _ h))
  have i_X9 : ∀ w ∈ u_ws RX9 TX9 81, w ∈ zw_r_readCord := fun w h => List.mem_append_right _ (List.mem_append_right _ (List.mem_append_right _ (List.mem_append_left _ h)))
  have lt_0 : (0 : Int32).toInt = 0 := by decide
  have lt_1 : (1 : Int32).toInt = 1 := by decide
  have lt_4 : (4 : Int32).toInt = 4 := by decide
  have lt_99 : (99 : Int32).toInt = 99 := by decide
  have lt_999 : (999 : Int32).toInt = 999 := by decide
  have hl := lv_entry ([.ref p0]) (n := 2) (Nat.le_of_ble_eq_true rfl)
  rw [lg_entry_eq]
  generalize (lg_sl ([.ref p0]) ++ List.replicate (2 - (lg_sl ([.ref p0])).length) Slot.unset).toArray = ls at hl ⊢
  have hl : lv_has ls 2 [(0, .ref p0)] := hl
  have tat0 := (OKX9_g6 ho_p0).use pf_at0
  have ten := (OKX9_g7 ho_p0).use pf_en
  have ttk := (OKX9_g8 ho_p0).use pf_tk
  have tsz := (OKX9_g3 ho_p0).use pf_sz
  have tfk := (OKX9_g4 ho_p0).use pf_fk
  have trb := (OKX9_g44 ho_p0).use pf_rb
  refine lv_iconst (v := 4) hx hb dX9_readCord_0 (by decide) (lv_aload_n hx hb dX9_readCord_1 rfl (lv_at hl 0 rfl) (qg_X9_44 hx hb hts i_X9 hown hK hP 0 rfl k_0 pf_rb dX9_readCord_2 (lv_imul hx hb dX9_readCord_5 (lv_topi fun v_1 ev_1 => ?_))))
  have tv_1 := q_mulc (c := 4) ev_1 (by decide) (by omega) (by omega)
  refine lv_aload_n hx hb dX9_readCord_6 rfl (lv_at hl 0 rfl) (qg_X9_12 hx hb hts i_X9 hown hK hP 0 rfl k_1 fr_p0_12 dX9_readCord_7 (lv_aload_n hx hb dX9_readCord_10 rfl (lv_at hl 0 rfl) (qg_X9_44 hx hb hts i_X9 hown hK hP 0 rfl k_0 pf_rb dX9_readCord_11 (q_ild hx hb hK hP 2 1 rfl rfl (q_in (by omega) (by omega)) dX9_readCord_14 (fun v_2 ev_2 => ?_)))))
  have uv_2 : v_2.toInt = (b_p0_cords rb.toNatClampNeg).toInt := by rw [ev_2]
  have tv_2 := q_rd' hr_p0_cords (q_in (by omega) (by omega)) ev_2
  refine lv_iadd hx hb dX9_readCord_15 (lv_topi fun v_3 ev_3 => ?_)
  have tv_3 := q_add ev_3 (by omega) (by omega)
  refine lv_istore_n (lv' := [(1, .int v_3), (0, .ref p0)]) hx hb dX9_readCord_16 rfl hl (by decide) rfl (fun ls hl => ?_)
  refine lv_aload_n hx hb dX9_readCord_17 rfl (lv_at hl 1 rfl) (qg_X9_22 hx hb hts i_X9 hown hK hP 0 rfl k_2 fr_p0_22 dX9_readCord_18 (lv_iload_n hx hb dX9_readCord_21 rfl (lv_at hl 0 rfl) (lv_aload_n hx hb dX9_readCord_22 rfl (lv_at hl 1 rfl) (lv_aload_n hx hb dX9_readCord_23 rfl (lv_at hl 1 rfl) (qg_X9_22 hx hb hts i_X9 hown hK hP 0 rfl k_2 fr_p0_22 dX9_readCord_24 (lv_iconst (v := 4) hx hb dX9_readCord_27 (by decide) (lv_aload_n hx hb dX9_readCord_28 rfl (lv_at hl 1 rfl) ?_)))))))
  refine qg_X9_44 hx hb hts i_X9 hown hK hP 0 rfl k_0 pf_rb dX9_readCord_29 (lv_imul hx hb dX9_readCord_32 (lv_topi fun v_4 ev_4 => ?_))
  have tv_4 := q_mulc (c := 4) ev_4 (by decide) (by omega) (by omega)
  refine lv_aload_n hx hb dX9_readCord_33 rfl (lv_at hl 1 rfl) (qg_X9_12 hx hb hts i_X9 hown hK hP 0 rfl k_1 fr_p0_12 dX9_readCord_34 (lv_aload_n hx hb dX9_readCord_37 rfl (lv_at hl 1 rfl) (qg_X9_44 hx hb hts i_X9 hown hK hP 0 rfl k_0 pf_rb dX9_readCord_38 (q_ild hx hb hK hP 2 1 rfl rfl (q_in (by omega) (by omega)) dX9_readCord_41 (fun v_5 ev_5 => ?_)))))
  have uv_5 : v_5.toInt = (b_p0_cords rb.toNatClampNeg).toInt := by rw [ev_5]
  have tv_5 := q_rd' hr_p0_cords (q_in (by omega) (by omega)) ev_5
  refine q_cVl (As := [.ref p0_cName, .int v_4, .int v_5]) (rest := [.int v_3, .ref p0_cName]) q_w0 trivial hK hP hDa za_r_readCord hS hA [0, 5, 1] [4, 0] (by decide +kernel) ⟨hx, hb, hml, hown, hts⟩ (r_fresh l dC dI s.heap.size p0 f_p0 p0_text c_p0_text b_p0_text p0_cName c_p0_cName b_p0_cName 8 v_4 v_5 at0 en tk sz fk ho_p0 fr_p0_1 pf_at0 pf_en pf_tk pf_sz pf_fk ((by omega)) ((by omega)) ((by omega)) ((by omega))) rfl rfl (cwV 3 hts (p1_gV m_3 m_4 m_5 m_6 g_r_fresh gz_r_fresh) rfl rfl rfl (by decide +kernel) ⟨by decide, by decide⟩) (va_recv hK hP (ci := 8) (q0 := 0) rfl rfl) zm_r_fresh rfl hl.1 rfl (Nat.le_of_ble_eq_true rfl) dX9_readCord_42 ⟨by decide, by decide⟩ (fun r_6 H7 lo7 hG7 hS7 => ?_)
  obtain ⟨o_8, o_9, o_10, o_11, o_12, ho_13, hf_14, z_15, z_16, z_17, z_18, z_19, z_20, hQ7⟩ := hG7
  have to_9 := (OKX9_g6 ho_13).use z_15
  have to_10 := (OKX9_g7 ho_13).use z_16
  have to_11 := (OKX9_g8 ho_13).use z_17
  have to_12 := (OKX9_g4 ho_13).use z_18
  have hP7 : va_P (dC, dI) vwCl (zW_r_readCord p0 o_8 p0_cName c_p0_cName b_p0_cName p0_cords c_p0_cords b_p0_cords p0_longOf c_p0_longOf b_p0_longOf p0_smooth c_p0_smooth b_p0_smooth p0_text c_p0_text b_p0_text p0_weight c_p0_weight b_p0_weight) H7 := hQ7
  clear hQ7 hP hS
  refine q_lst hx hb hK hP7 hDa za_r_readCord hS7 1 0 rfl rfl (q_in (by omega) (by omega)) dX9_readCord_45 (fun H21 lo21 g21 eg21 (hP21 : va_P (dC, dI) vwCl (zW_r_readCord p0 o_8 p0_cName c_p0_cName g21 p0_cords c_p0_cords b_p0_cords p0_longOf c_p0_longOf b_p0_longOf p0_smooth c_p0_smooth b_p0_smooth p0_text c_p0_text b_p0_text p0_weight c_p0_weight b_p0_weight) H21) hS21 => ?_)
  clear hP7 hS7
  refine lv_aload_n hx hb dX9_readCord_46 rfl (lv_at hl 1 rfl) (qg_X9_28 hx hb hts i_X9 hown hK hP21 0 rfl k_7 (hf_14.u (by decide) fr_p0_28) dX9_readCord_47 (lv_iload_n hx hb dX9_readCord_50 rfl (lv_at hl 0 rfl) (lv_aload_n hx hb dX9_readCord_51 rfl (lv_at hl 1 rfl) (lv_ldc2 (v := 126913858204776) hx hb hown k_8 dX9_readCord_52 (lv_iconst (v := 0) hx hb dX9_readCord_55 (by decide) (lv_bipush (v := 99) hx hb dX9_readCord_56 (by decide) ?_))))))
  refine q_cVi (As := [.long 126913858204776, .int 0, .int 99]) (rest := [.int v_3, .ref p0_smooth]) q_w0 trivial hK hP21 hDa za_r_readCord hS21 hA [0, 5] [4] (by decide +kernel) ⟨hx, hb, hml, hown, hts⟩ (r_after l dC dI H21.size p0 o_8 p0_text c_p0_text b_p0_text 126913858204776 0 99 o_9 o_10 o_11 sz o_12 ho_13 ((hf_14.u (by decide) fr_p0_1)) z_15 z_16 z_17 ((hf_14.u (by decide) pf_sz)) z_18 ((by omega)) ((by omega))) rfl rfl (cwV 3 hts (p1_gV m_9 m_10 m_11 m_6 g_r_after gz_r_after) rfl rfl rfl (by decide +kernel) ⟨by decide, by decide⟩) (va_recv hK hP21 (ci := 8) (q0 := 0) rfl rfl) zm_r_after rfl hl.1 rfl (Nat.le_of_ble_eq_true rfl) dX9_readCord_58 ⟨by decide, by decide⟩ (fun r_22 H23 lo23 hG23 hS23 => ?_)
  obtain ⟨o_24, o_25, o_26, o_27, o_28, z_29, ho_30, hf_31, z_32, z_33, z_34, z_35, z_36, z_37, hQ23⟩ := hG23
  have to_25 := (OKX9_g6 ho_30).use z_32
  have to_26 := (OKX9_g7 ho_30).use z_33
  have to_27 := (OKX9_g8 ho_30).use z_34
  have to_28 := (OKX9_g4 ho_30).use z_35
  have hP23 : va_P (dC, dI) vwCl (zW_r_readCord p0 o_24 p0_cName c_p0_cName g21 p0_cords c_p0_cords b_p0_cords p0_longOf c_p0_longOf b_p0_longOf p0_smooth c_p0_smooth b_p0_smooth p0_text c_p0_text b_p0_text p0_weight c_p0_weight b_p0_weight) H23 := hQ23
  clear hQ23 hP21 hS21
  refine q_ist hx hb hK hP23 hDa za_r_readCord hS23 4 3 rfl rfl (q_in (by omega) (by omega)) dX9_readCord_61 (fun H38 lo38 g38 eg38 (hP38 : va_P (dC, dI) vwCl (zW_r_readCord p0 o_24 p0_cName c_p0_cName g21 p0_cords c_p0_cords b_p0_cords p0_longOf c_p0_longOf b_p0_longOf p0_smooth c_p0_smooth g38 p0_text c_p0_text b_p0_text p0_weight c_p0_weight b_p0_weight) H38) hS38 => ?_)
  clear hP23 hS23
  refine lv_aload_n hx hb dX9_readCord_62 rfl (lv_at hl 1 rfl) (qg_X9_29 hx hb hts i_X9 hown hK hP38 0 rfl k_12 (hf_31.u (by decide) (hf_14.u (by decide) fr_p0_29)) dX9_readCord_63 (lv_iload_n hx hb dX9_readCord_66 rfl (lv_at hl 0 rfl) (lv_aload_n hx hb dX9_readCord_67 rfl (lv_at hl 1 rfl) (lv_ldc2 (v := 131277443786868) hx hb hown k_13 dX9_readCord_68 (lv_iconst (v := 0) hx hb dX9_readCord_71 (by decide) (lv_bipush (v := 99) hx hb dX9_readCord_72 (by decide) ?_))))))
  refine q_cVi (As := [.long 131277443786868, .int 0, .int 99]) (rest := [.int v_3, .ref p0_weight]) q_w0 trivial hK hP38 hDa za_r_readCord hS38 hA [0, 5] [4] (by decide +kernel) ⟨hx, hb, hml, hown, hts⟩ (r_after l dC dI H38.size p0 o_24 p0_text c_p0_text b_p0_text 131277443786868 0 99 o_25 o_26 o_27 sz o_28 ho_30 ((hf_31.u (by decide) (hf_14.u (by decide) fr_p0_1))) z_32 z_33 z_34 ((hf_31.u (by decide) (hf_14.u (by decide) pf_sz))) z_35 ((by omega)) ((by omega))) rfl rfl (cwV 3 hts (p1_gV m_9 m_10 m_11 m_6 g_r_after gz_r_after) rfl rfl rfl (by decide +kernel) ⟨by decide, by decide⟩) (va_recv hK hP38 (ci := 8) (q0 := 0) rfl rfl) zm_r_after rfl hl.1 rfl (Nat.le_of_ble_eq_true rfl) dX9_readCord_74 ⟨by decide, by decide⟩ (fun r_39 H40 lo40 hG40 hS40 => ?_)
  obtain ⟨o_41, o_42, o_43, o_44, o_45, z_46, ho_47, hf_48, z_49, z_50, z_51, z_52, z_53, z_54, hQ40⟩ := hG40
  have to_42 := (OKX9_g6 ho_47).use z_49
  have to_43 := (OKX9_g7 ho_47).use z_50
  have to_44 := (OKX9_g8 ho_47).use z_51
  have to_45 := (OKX9_g4 ho_47).use z_52
  have hP40 : va_P (dC, dI) vwCl (zW_r_readCord p0 o_41 p0_cName c_p0_cName g21 p0_cords c_p0_cords b_p0_cords p0_longOf c_p0_longOf b_p0_longOf p0_smooth c_p0_smooth g38 p0_text c_p0_text b_p0_text p0_weight c_p0_weight b_p0_weight) H40 := hQ40
  clear hQ40 hP38 hS38
  refine q_ist hx hb hK hP40 hDa za_r_readCord hS40 6 5 rfl rfl (q_in (by omega) (by omega)) dX9_readCord_77 (fun H55 lo55 g55 eg55 (hP55 : va_P (dC, dI) vwCl (zW_r_readCord p0 o_41 p0_cName c_p0_cName g21 p0_cords c_p0_cords b_p0_cords p0_longOf c_p0_longOf b_p0_longOf p0_smooth c_p0_smooth g38 p0_text c_p0_text b_p0_text p0_weight c_p0_weight g55) H55) hS55 => ?_)
  clear hP40 hS40
  refine lv_aload_n hx hb dX9_readCord_78 rfl (lv_at hl 1 rfl) (qg_X9_30 hx hb hts i_X9 hown hK hP55 0 rfl k_14 (hf_48.u (by decide) (hf_31.u (by decide) (hf_14.u (by decide) fr_p0_30))) dX9_readCord_79 (lv_iload_n hx hb dX9_readCord_82 rfl (lv_at hl 0 rfl) (lv_aload_n hx hb dX9_readCord_83 rfl (lv_at hl 1 rfl) (lv_ldc2 (v := 1819242087) hx hb hown k_15 dX9_readCord_84 (lv_iconst (v := 1) hx hb dX9_readCord_87 (by decide) (lv_sipush (v := 999) hx hb dX9_readCord_88 (by decide) ?_))))))
  refine q_cVi (As := [.long 1819242087, .int 1, .int 999]) (rest := [.int v_3, .ref p0_longOf]) q_w0 trivial hK hP55 hDa za_r_readCord hS55 hA [0, 5] [4] (by decide +kernel) ⟨hx, hb, hml, hown, hts⟩ (r_after l dC dI H55.size p0 o_41 p0_text c_p0_text b_p0_text 1819242087 1 999 o_42 o_43 o_44 sz o_45 ho_47 ((hf_48.u (by decide) (hf_31.u (by decide) (hf_14.u (by decide) fr_p0_1)))) z_49 z_50 z_51 ((hf_48.u (by decide) (hf_31.u (by decide) (hf_14.u (by decide) pf_sz)))) z_52 ((by omega)) ((by omega))) rfl rfl (cwV 3 hts (p1_gV m_9 m_10 m_11 m_6 g_r_after gz_r_after) rfl rfl rfl (by decide +kernel) ⟨by decide, by decide⟩) (va_recv hK hP55 (ci := 8) (q0 := 0) rfl rfl) zm_r_after rfl hl.1 rfl (Nat.le_of_ble_eq_true rfl) dX9_readCord_91 ⟨by decide, by decide⟩ (fun r_56 H57 lo57 hG57 hS57 => ?_)
  obtain ⟨o_58, o_59, o_60, o_61, o_62, z_63, ho_64, hf_65, z_66, z_67, z_68, z_69, z_70, z_71, hQ57⟩ := hG57
  have to_59 := (OKX9_g6 ho_64).use z_66
  have to_60 := (OKX9_g7 ho_64).use z_67
  have to_61 := (OKX9_g8 ho_64).use z_68
  have to_62 := (OKX9_g4 ho_64).use z_69
  have hP57 : va_P (dC, dI) vwCl (zW_r_readCord p0 o_58 p0_cName c_p0_cName g21 p0_cords c_p0_cords b_p0_cords p0_longOf c_p0_longOf b_p0_longOf p0_smooth c_p0_smooth g38 p0_text c_p0_text b_p0_text p0_weight c_p0_weight g55) H57 := hQ57
  clear hQ57 hP55 hS55
  refine q_ist hx hb hK hP57 hDa za_r_readCord hS57 3 2 rfl rfl (q_in (by omega) (by omega)) dX9_readCord_94 (fun H72 lo72 g72 eg72 (hP72 : va_P (dC, dI) vwCl (zW_r_readCord p0 o_58 p0_cName c_p0_cName g21 p0_cords c_p0_cords b_p0_cords p0_longOf c_p0_longOf g72 p0_smooth c_p0_smooth g38 p0_text c_p0_text b_p0_text p0_weight c_p0_weight g55) H72) hS72 => ?_)
  clear hP57 hS57
  refine lv_aload_n hx hb dX9_readCord_95 rfl (lv_at hl 1 rfl) (qg_X9_12 hx hb hts i_X9 hown hK hP72 0 rfl k_1 (hf_65.u (by decide) (hf_48.u (by decide) (hf_31.u (by decide) (hf_14.u (by decide) fr_p0_12)))) dX9_readCord_96 (lv_aload_n hx hb dX9_readCord_99 rfl (lv_at hl 1 rfl) (qg_X9_44 hx hb hts i_X9 hown hK hP72 0 rfl k_0 (hf_65.u (by decide) (hf_48.u (by decide) (hf_31.u (by decide) (hf_14.u (by decide) pf_rb)))) dX9_readCord_100 (lv_dup2_11 hx hb dX9_readCord_103 rfl rfl (q_ild hx hb hK hP72 2 1 rfl rfl (q_in (by omega) (by omega)) dX9_readCord_104 (fun v_73 ev_73 => ?_))))))
  have uv_73 : v_73.toInt = (b_p0_cords rb.toNatClampNeg).toInt := by rw [ev_73]
  have tv_73 := q_rd' hr_p0_cords (q_in (by omega) (by omega)) ev_73
  refine lv_iconst (v := 1) hx hb dX9_readCord_105 (by decide) (lv_iadd hx hb dX9_readCord_106 (lv_topi fun v_74 ev_74 => ?_))
  have tv_74 := q_add ev_74 (by omega) (by omega)
  refine q_ist hx hb hK hP72 hDa za_r_readCord hS72 2 1 rfl rfl (q_in (by omega) (by omega)) dX9_readCord_107 (fun H75 lo75 g75 eg75 (hP75 : va_P (dC, dI) vwCl (zW_r_readCord p0 o_58 p0_cName c_p0_cName g21 p0_cords c_p0_cords g75 p0_longOf c_p0_longOf g72 p0_smooth c_p0_smooth g38 p0_text c_p0_text b_p0_text p0_weight c_p0_weight g55) H75) hS75 => ?_)
  clear hP72 hS72
  have hr_g75 := q_up' hr_p0_cords eg75 ⟨by omega, by omega⟩
  exact q_vret hx hb hr hlocks hS75 dX9_readCord_108 ⟨o_58, g21, g75, g72, g38, g55, o_59, o_60, o_61, o_62, ho_64, ((((q_fr.rf.tr hf_14 (by decide)).tr hf_31 (by decide)).tr hf_48 (by decide)).tr hf_65 (by decide)), hr_g75, z_66, z_67, z_68, z_69, (by omega), (by omega), hP75, za_r_readCord⟩
def zo_r_readWant : List Cond := [.code yX9_readWant cX9_readWant 2 none, .fieldLink RX9 279 "BowWalkModel" "rb" "I", .fieldLink RX9 33 "BowWalkModel" "wants" "[I", .fieldLink RX9 65 "BowWalkModel" "nName" "[J", .methodLink RX9 325 yX9_fresh, .instanceMethod yX9_fresh, .selects RX9 yX9_fresh yX9_fresh, .initialized RX9, .fieldLink RX9 92 "BowWalkModel" "wantHolds" "[I", .constantLong RX9 204 (448545973363), .methodLink RX9 332 yX9_after, .instanceMethod yX9_after, .selects RX9 yX9_after yX9_after, .fieldLink RX9 95 "BowWalkModel" "wantPull" "[I", .constantLong RX9 200 (1886743660)]
def zw_r_readWant : List Cond := zo_r_readWant ++ (zw_r_fresh ++ (zw_r_after ++ (wsX90 ++ [])))
theorem gz_r_readWant : zw_r_readWant.all goodWord = true := p1_ga (by decide +kernel) (p1_ga gz_r_fresh (p1_ga gz_r_after (p1_ga gk_X9 p1_g0)))
theorem iz_r_readWant : ∀ w ∈ zw_r_readWant, w ∈ lw_tbl := p1_ia (p1_all [1426, 1081, 1052, 1062, 1355, 1357, 53, 116, 1071, 1313, 1367, 1369, 56, 1072, 1311] (by decide +kernel)) (p1_ia iz_r_fresh (p1_ia iz_r_after (p1_ia ik_X9 p1_i0)))
def zW_r_readWant (p0 : Nat) (f_p0 : List Value) (p0_nName : Nat) (c_p0_nName : ClassId) (b_p0_nName : Nat → Int64) (p0_text : Nat) (c_p0_text : ClassId) (b_p0_text : Nat → Int32) (p0_wantHolds : Nat) (c_p0_wantHolds : ClassId) (b_p0_wantHolds : Nat → Int32) (p0_wantPull : Nat) (c_p0_wantPull : ClassId) (b_p0_wantPull : Nat → Int32) (p0_wants : Nat) (c_p0_wants : ClassId) (b_p0_wants : Nat → Int32) : va_W := [(p0, .inr (8, f_p0)), (p0_nName, .inl (c_p0_nName, 8, .inr (.inl b_p0_nName))), (p0_text, .inl (c_p0_text, 1600, .inl b_p0_text)), (p0_wantHolds, .inl (c_p0_wantHolds, 8, .inl b_p0_wantHolds)), (p0_wantPull, .inl (c_p0_wantPull, 8, .inl b_p0_wantPull)), (p0_wants, .inl (c_p0_wants, 2, .inl b_p0_wants))]
def zT_r_readWant (c_p0_nName : ClassId) (c_p0_text : ClassId) (c_p0_wantHolds : ClassId) (c_p0_wantPull : ClassId) (c_p0_wants : ClassId) : List (ClassId × FieldType) := [(c_p0_nName, .long), (c_p0_text, .byte), (c_p0_wantHolds, .int), (c_p0_wantPull, .int), (c_p0_wants, .int)]
def zA_r_readWant (p0 : Nat) (p0_nName : Nat) (p0_text : Nat) (p0_wantHolds : Nat) (p0_wantPull : Nat) (p0_wants : Nat) : List Nat := [p0, p0_nName, p0_text, p0_wantHolds, p0_wantPull, p0_wants]
theorem za_r_readWant {p0 : Nat} {f_p0 : List Value} {p0_nName : Nat} {c_p0_nName : ClassId} {b_p0_nName : Nat → Int64} {p0_text : Nat} {c_p0_text : ClassId} {b_p0_text : Nat → Int32} {p0_wantHolds : Nat} {c_p0_wantHolds : ClassId} {b_p0_wantHolds : Nat → Int32} {p0_wantPull : Nat} {c_p0_wantPull : ClassId} {b_p0_wantPull : Nat → Int32} {p0_wants : Nat} {c_p0_wants : ClassId} {b_p0_wants : Nat → Int32} : (zW_r_readWant p0 f_p0 p0_nName c_p0_nName b_p0_nName p0_text c_p0_text b_p0_text p0_wantHolds c_p0_wantHolds b_p0_wantHolds p0_wantPull c_p0_wantPull b_p0_wantPull p0_wants c_p0_wants b_p0_wants).map Prod.fst = (zA_r_readWant p0 p0_nName p0_text p0_wantHolds p0_wantPull p0_wants) := rfl
def zG_r_readWant (p0 : Nat) (f_p0 : List Value) (p0_nName : Nat) (c_p0_nName : ClassId) (b_p0_nName : Nat → Int64) (p0_text : Nat) (c_p0_text : ClassId) (b_p0_text : Nat → Int32) (p0_wantHolds : Nat) (c_p0_wantHolds : ClassId) (b_p0_wantHolds : Nat → Int32) (p0_wantPull : Nat) (c_p0_wantPull : ClassId) (b_p0_wantPull : Nat → Int32) (p0_wants : Nat) (c_p0_wants : ClassId) (b_p0_wants : Nat → Int32) (at0 : Int32) (en : Int32) (tk : Int32) (sz : Int32) (fk : Int32) (rb : Int32) (X : va_W → Prop) : Prop := ∃ (y_p0 : List Value) (y_p0_nName : Nat → Int64) (y_p0_wantHolds : Nat → Int32) (y_p0_wantPull : Nat → Int32) (y_p0_wants : Nat → Int32) (at1 : Int32) (en1 : Int32) (tk1 : Int32) (fk1 : Int32), OKX9 y_p0 ∧ q_fr [4, 5, 6, 7, 8, 9, 10] f_p0 y_p0 ∧ (∀ k, k < 2 → (0) ≤ (y_p0_wants k).toInt ∧ (y_p0_wants k).toInt ≤ 4) ∧ y_p0[6]? = some (.int at1) ∧ y_p0[7]? = some (.int en1) ∧ y_p0[8]? = some (.int tk1) ∧ y_p0[4]? = some (.int fk1) ∧ (en1.toInt ≤ sz.toInt ∧ at0.toInt ≤ at1.toInt ∧ at1.toInt ≤ en1.toInt ∧ (tk1.toInt ≠ 3 ∨ at1.toInt < en1.toInt)) ∧ (fk.toInt = 0 ∨ 1 ≤ fk1.toInt) ∧ X (zW_r_readWant p0 y_p0 p0_nName c_p0_nName y_p0_nName p0_text c_p0_text b_p0_text p0_wantHolds c_p0_wantHolds y_p0_wantHolds p0_wantPull c_p0_wantPull y_p0_wantPull p0_wants c_p0_wants y_p0_wants)
theorem zm_r_readWant {p0 : Nat} {f_p0 : List Value} {p0_nName : Nat} {c_p0_nName : ClassId} {b_p0_nName : Nat → Int64} {p0_text : Nat} {c_p0_text : ClassId} {b_p0_text : Nat → Int32} {p0_wantHolds : Nat} {c_p0_wantHolds : ClassId} {b_p0_wantHolds : Nat → Int32} {p0_wantPull : Nat} {c_p0_wantPull : ClassId} {b_p0_wantPull : Nat → Int32} {p0_wants : Nat} {c_p0_wants : ClassId} {b_p0_wants : Nat → Int32} {at0 : Int32} {en : Int32} {tk : Int32} {sz : Int32} {fk : Int32} {rb : Int32} : ∀ X Y : va_W → Prop, (∀ w, X w → Y w) → zG_r_readWant p0 f_p0 p0_nName c_p0_nName b_p0_nName p0_text c_p0_text b_p0_text p0_wantHolds c_p0_wantHolds b_p0_wantHolds p0_wantPull c_p0_wantPull b_p0_wantPull p0_wants c_p0_wants b_p0_wants at0 en tk sz fk rb X → zG_r_readWant p0 f_p0 p0_nName c_p0_nName b_p0_nName p0_text c_p0_text b_p0_text p0_wantHolds c_p0_wantHolds b_p0_wantHolds p0_wantPull c_p0_wantPull b_p0_wantPull p0_wants c_p0_wants b_p0_wants at0 en tk sz fk rb Y := fun X Y h h1 => by obtain ⟨x0, x1, x2, x3, x4, x5, x6, x7, x8, x9, x10, x11, x12, x13, x14, x15, x16, x17, hx⟩ := h1; exact ⟨x0, x1, x2, x3, x4, x5, x6, x7, x8, x9, x10, x11, x12, x13, x14, x15, x16, x17, h _ hx⟩
set_option maxHeartbeats 4000000 in
set_option maxRecDepth 100000 in
theorem r_readWant (l : Launch) (dC : Nat → ClassId) (dI : Nat → Nat → Nat) (sz : Nat) (p0 : Nat) (f_p0 : List Value) (p0_nName : Nat) (c_p0_nName : ClassId) (b_p0_nName : Nat → Int64) (p0_text : Nat) (c_p0_text : ClassId) (b_p0_text : Nat → Int32) (p0_wantHolds : Nat) (c_p0_wantHolds : ClassId) (b_p0_wantHolds : Nat → Int32) (p0_wantPull : Nat) (c_p0_wantPull : ClassId) (b_p0_wantPull : Nat → Int32) (p0_wants : Nat) (c_p0_wants : ClassId) (b_p0_wants : Nat → Int32) (at0 : Int32) (en : Int32) (tk : Int32) (sz : Int32) (fk : Int32) (rb : Int32) (ho_p0 : OKX9 f_p0) (fr_p0_1 : f_p0[1]? = some (.ref p0_text)) (fr_p0_15 : f_p0[15]? = some (.ref p0_wants)) (fr_p0_25 : f_p0[25]? = some (.ref p0_nName)) (fr_p0_34 : f_p0[34]? = some (.ref p0_wantHolds)) (fr_p0_35 : f_p0[35]? = some (.ref p0_wantPull)) (hr_p0_wants : ∀ k, k < 2 → (0) ≤ (b_p0_wants k).toInt ∧ (b_p0_wants k).toInt ≤ 4) (pf_at0 : f_p0[6]? = some (.int at0)) (pf_en : f_p0[7]? = some (.int en)) (pf_tk : f_p0[8]? = some (.int tk)) (pf_sz : f_p0[3]? = some (.int sz)) (pf_fk : f_p0[4]? = some (.int fk)) (pf_rb : f_p0[44]? = some (.int rb)) (hR : en.toInt ≤ sz.toInt ∧ at0.toInt ≤ en.toInt ∧ (tk.toInt ≠ 3 ∨ at0.toInt < en.toInt)) (hk : (b_p0_wants rb.toNatClampNeg).toInt ≤ 3) : Met l yX9_readWant zw_r_readWant ({ frames := 4, cells := 0, slots := 0, locals := 91 }) (va_Pc [.ref p0] (q_pre (dC, dI) (zW_r_readWant p0 f_p0 p0_nName c_p0_nName b_p0_nName p0_text c_p0_text b_p0_text p0_wantHolds c_p0_wantHolds b_p0_wantHolds p0_wantPull c_p0_wantPull b_p0_wantPull p0_wants c_p0_wants b_p0_wants) (zT_r_readWant c_p0_nName c_p0_text c_p0_wantHolds c_p0_wantPull c_p0_wants) q_E0 sz)) (q_Qv (dC, dI) (zG_r_readWant p0 f_p0 p0_nName c_p0_nName b_p0_nName p0_text c_p0_text b_p0_text p0_wantHolds c_p0_wantHolds b_p0_wantHolds p0_wantPull c_p0_wantPull b_p0_wantPull p0_wants c_p0_wants b_p0_wants at0 en tk sz fk rb) (zA_r_readWant p0 p0_nName p0_text p0_wantHolds p0_wantPull p0_wants) (va_A (zW_r_readWant p0 f_p0 p0_nName c_p0_nName b_p0_nName p0_text c_p0_text b_p0_text p0_wantHolds c_p0_wantHolds b_p0_wantHolds p0_wantPull c_p0_wantPull b_p0_wantPull p0_wants c_p0_wants b_p0_wants) sz)) 0 0 (va_A (zW_r_readWant p0 f_p0 p0_nName c_p0_nName b_p0_nName p0_text c_p0_text b_p0_text p0_wantHolds c_p0_wantHolds b_p0_wantHolds p0_wantPull c_p0_wantPull b_p0_wantPull p0_wants c_p0_wants b_p0_wants) sz) := by
  refine Met.ofW (cc := cX9_readWant) (maxL := 2) (ret := none) (by decide) rfl ?_
  intro p e s m args below meth c s₁ B hml hv
  obtain ⟨rfl, hsz, hP, hK, hD0, hE⟩ := hv
  have hx := B.exec
  have hb := B.bytes
  have hr := B.returns
  have hts := atoms_spec (ws := zw_r_readWant) B.pre
  have hown : s.vm.findClass RX9 = some m.cls := findClass_of_methodNamed B.named
  have hlocks := B.notSynchronized
  subst hsz
  have hD := hD0.self (sz := s.heap.size)
  generalize hAe : va_A (zW_r_readWant p0 f_p0 p0_nName c_p0_nName b_p0_nName p0_text c_p0_text b_p0_text p0_wantHolds c_p0_wantHolds b_p0_wantHolds p0_wantPull c_p0_wantPull b_p0_wantPull p0_wants c_p0_wants b_p0_wants) s.heap.size = A at hD hE ⊢
  have hA : ∀ q : Nat, s.heap.size ≤ q → A q := fun q h => by rw [← hAe]; exact Or.inr h
  have hDa : q_DA A (zA_r_readWant p0 p0_nName p0_text p0_wantHolds p0_wantPull p0_wants) := q_DA.mk hD za_r_readWant
  clear hAe hD0 hD
  have hS : va_S A s.heap s.heap [] := va_S.rf
  have m_0 : (.fieldLink RX9 279 "BowWalkModel" "rb" "I" : Cond) ∈ zw_r_readWant := List.mem_append_left _ (List.mem_of_getElem? (i := 1) rfl)
  have k_0 := hts _ m_0
  have m_1 : (.fieldLink RX9 33 "BowWalkModel" "wants" "[I" : Cond) ∈ zw_r_readWant := List.mem_append_left _ (List.mem_of_getElem? (i := 2) rfl)
  have k_1 := hts _ m_1
  have m_2 : (.fieldLink RX9 65 "BowWalkModel" "nName" "[J" : Cond) ∈ zw_r_readWant := List.mem_append_left _ (List.mem_of_getElem? (i := 3) rfl)
  have k_2 := hts _ m_2
  have m_3 : (.methodLink RX9 325 yX9_fresh : Cond) ∈ zw_r_readWant := List.mem_append_left _ (List.mem_of_getElem? (i := 4) rfl)
  have k_3 := hts _ m_3
  have m_4 : (.instanceMethod yX9_fresh : Cond) ∈ zw_r_readWant := List.mem_append_left _ (List.mem_of_getElem? (i := 5) rfl)
  have k_4 := hts _ m_4
  have m_5 : (.selects RX9 yX9_fresh yX9_fresh : Cond) ∈ zw_r_readWant := List.mem_append_left _ (List.mem_of_getElem? (i := 6) rfl)
  have k_5 := hts _ m_5
  have m_6 : (.initialized RX9 : Cond) ∈ zw_r_readWant := List.mem_append_left _ (List.mem_of_getElem? (i := 7) rfl)
  have k_6 := hts _ m_6
  have m_7 : (.fieldLink RX9 92 "BowWalkModel" "wantHolds" "[I" : Cond) ∈ zw_r_readWant := List.mem_append_left _ (List.mem_of_getElem? (i := 8) rfl)
  have k_7 := hts _ m_7
  have m_8 : (.constantLong RX9 204 (448545973363) : Cond) ∈ zw_r_readWant := List.mem_append_left _ (List.mem_of_getElem? (i := 9) rfl)
  have k_8 := hts _ m_8
  have m_9 : (.methodLink RX9 332 yX9_after : Cond) ∈ zw_r_readWant := List.mem_append_left _ (List.mem_of_getElem? (i := 10) rfl)
  have k_9 := hts _ m_9
  have m_10 : (.instanceMethod yX9_after : Cond) ∈ zw_r_readWant := List.mem_append_left _ (List.mem_of_getElem? (i := 11) rfl)
  have k_10 := hts _ m_10
  have m_11 : (.selects RX9 yX9_after yX9_after : Cond) ∈ zw_r_readWant := List.mem_append_left _ (List.mem_of_getElem? (i := 12) rfl)
  have k_11 := hts _ m_11
  have m_12 : (.fieldLink RX9 95 "BowWalkModel" "wantPull" "[I" : Cond) ∈ zw_r_readWant := List.mem_append_left _ (List.mem_of_getElem? (i := 13) rfl)
  have k_12 := hts _ m_12
  have m_13 : (.constantLong RX9 200 (1886743660) : Cond) ∈ zw_r_readWant := List.mem_append_left _ (List.mem_of_getElem? (i := 14) rfl)
  have k_13 := hts _ m_13
  have g_r_fresh : ∀ w ∈ zw_r_fresh, w ∈ zw_r_readWant := fun w h => List.mem_append_right _ (List.mem_append_left _ h)
  have g_r_after : ∀ w ∈ zw_r_after, w ∈ zw_r_readWant := fun w h => List.mem_append_right _ (List.mem_append_right _ (List.mem_append_left _ h))
  have i_X9 : ∀ w ∈ u_ws RX9 TX9 81, w ∈ zw_r_readWant := fun w h => List.mem_append_right _ (List.mem_append_right _ (List.mem_append_right _ (List.mem_append_left _ h)))
  have lt_0 : (0 : Int32).toInt = 0 := by decide
  have lt_1 : (1 : Int32).toInt = 1 := by decide
  have lt_4 : (4 : Int32).toInt = 4 := by decide
  have lt_999 : (999 : Int32).toInt = 999 := by decide
  have lt_2000 : (2000 : Int32).toInt = 2000 := by decide
  have hl := lv_entry ([.ref p0]) (n := 2) (Nat.le_of_ble_eq_true rfl)
  rw [lg_entry_eq]
  generalize (lg_sl ([.ref p0]) ++ List.replicate (2 - (lg_sl ([.ref p0])).length) Slot.unset).toArray = ls at hl ⊢
  have hl : lv_has ls 2 [(0, .ref p0)] := hl
  have tat0 := (OKX9_g6 ho_p0).use pf_at0
  have ten := (OKX9_g7 ho_p0).use pf_en
  have ttk := (OKX9_g8 ho_p0).use pf_tk
  have tsz := (OKX9_g3 ho_p0).use pf_sz
  have tfk := (OKX9_g4 ho_p0).use pf_fk
  have trb := (OKX9_g44 ho_p0).use pf_rb
  refine lv_iconst (v := 4) hx hb dX9_readWant_0 (by decide) (lv_aload_n hx hb dX9_readWant_1 rfl (lv_at hl 0 rfl) (qg_X9_44 hx hb hts i_X9 hown hK hP 0 rfl k_0 pf_rb dX9_readWant_2 (lv_imul hx hb dX9_readWant_5 (lv_topi fun v_1 ev_1 => ?_))))
  have tv_1 := q_mulc (c := 4) ev_1 (by decide) (by omega) (by omega)
  refine lv_aload_n hx hb dX9_readWant_6 rfl (lv_at hl 0 rfl) (qg_X9_15 hx hb hts i_X9 hown hK hP 0 rfl k_1 fr_p0_15 dX9_readWant_7 (lv_aload_n hx hb dX9_readWant_10 rfl (lv_at hl 0 rfl) (qg_X9_44 hx hb hts i_X9 hown hK hP 0 rfl k_0 pf_rb dX9_readWant_11 (q_ild hx hb hK hP 5 4 rfl rfl (q_in (by omega) (by omega)) dX9_readWant_14 (fun v_2 ev_2 => ?_)))))
  have uv_2 : v_2.toInt = (b_p0_wants rb.toNatClampNeg).toInt := by rw [ev_2]
  have tv_2 := q_rd' hr_p0_wants (q_in (by omega) (by omega)) ev_2
  refine lv_iadd hx hb dX9_readWant_15 (lv_topi fun v_3 ev_3 => ?_)
  have tv_3 := q_add ev_3 (by omega) (by omega)
  refine lv_istore_n (lv' := [(1, .int v_3), (0, .ref p0)]) hx hb dX9_readWant_16 rfl hl (by decide) rfl (fun ls hl => ?_)
  refine lv_aload_n hx hb dX9_readWant_17 rfl (lv_at hl 1 rfl) (qg_X9_25 hx hb hts i_X9 hown hK hP 0 rfl k_2 fr_p0_25 dX9_readWant_18 (lv_iload_n hx hb dX9_readWant_21 rfl (lv_at hl 0 rfl) (lv_aload_n hx hb dX9_readWant_22 rfl (lv_at hl 1 rfl) (lv_aload_n hx hb dX9_readWant_23 rfl (lv_at hl 1 rfl) (qg_X9_25 hx hb hts i_X9 hown hK hP 0 rfl k_2 fr_p0_25 dX9_readWant_24 (lv_iconst (v := 4) hx hb dX9_readWant_27 (by decide) (lv_aload_n hx hb dX9_readWant_28 rfl (lv_at hl 1 rfl) ?_)))))))
  refine qg_X9_44 hx hb hts i_X9 hown hK hP 0 rfl k_0 pf_rb dX9_readWant_29 (lv_imul hx hb dX9_readWant_32 (lv_topi fun v_4 ev_4 => ?_))
  have tv_4 := q_mulc (c := 4) ev_4 (by decide) (by omega) (by omega)
  refine lv_aload_n hx hb dX9_readWant_33 rfl (lv_at hl 1 rfl) (qg_X9_15 hx hb hts i_X9 hown hK hP 0 rfl k_1 fr_p0_15 dX9_readWant_34 (lv_aload_n hx hb dX9_readWant_37 rfl (lv_at hl 1 rfl) (qg_X9_44 hx hb hts i_X9 hown hK hP 0 rfl k_0 pf_rb dX9_readWant_38 (q_ild hx hb hK hP 5 4 rfl rfl (q_in (by omega) (by omega)) dX9_readWant_41 (fun v_5 ev_5 => ?_)))))
  have uv_5 : v_5.toInt = (b_p0_wants rb.toNatClampNeg).toInt := by rw [ev_5]
  have tv_5 := q_rd' hr_p0_wants (q_in (by omega) (by omega)) ev_5
  refine q_cVl (As := [.ref p0_nName, .int v_4, .int v_5]) (rest := [.int v_3, .ref p0_nName]) q_w0 trivial hK hP hDa za_r_readWant hS hA [0, 2, 1] [1, 0] (by decide +kernel) ⟨hx, hb, hml, hown, hts⟩ (r_fresh l dC dI s.heap.size p0 f_p0 p0_text c_p0_text b_p0_text p0_nName c_p0_nName b_p0_nName 8 v_4 v_5 at0 en tk sz fk ho_p0 fr_p0_1 pf_at0 pf_en pf_tk pf_sz pf_fk ((by omega)) ((by omega)) ((by omega)) ((by omega))) rfl rfl (cwV 3 hts (p1_gV m_3 m_4 m_5 m_6 g_r_fresh gz_r_fresh) rfl rfl rfl (by decide +kernel) ⟨by decide, by decide⟩) (va_recv hK hP (ci := 8) (q0 := 0) rfl rfl) zm_r_fresh rfl hl.1 rfl (Nat.le_of_ble_eq_true rfl) dX9_readWant_42 ⟨by decide, by decide⟩ (fun r_6 H7 lo7 hG7 hS7 => ?_)
  obtain ⟨o_8, o_9, o_10, o_11, o_12, ho_13, hf_14, z_15, z_16, z_17, z_18, z_19, z_20, hQ7⟩ := hG7
  have to_9 := (OKX9_g6 ho_13).use z_15
  have to_10 := (OKX9_g7 ho_13).use z_16
  have to_11 := (OKX9_g8 ho_13).use z_17
  have to_12 := (OKX9_g4 ho_13).use z_18
  have hP7 : va_P (dC, dI) vwCl (zW_r_readWant p0 o_8 p0_nName c_p0_nName b_p0_nName p0_text c_p0_text b_p0_text p0_wantHolds c_p0_wantHolds b_p0_wantHolds p0_wantPull c_p0_wantPull b_p0_wantPull p0_wants c_p0_wants b_p0_wants) H7 := hQ7
  clear hQ7 hP hS
  refine q_lst hx hb hK hP7 hDa za_r_readWant hS7 1 0 rfl rfl (q_in (by omega) (by omega)) dX9_readWant_45 (fun H21 lo21 g21 eg21 (hP21 : va_P (dC, dI) vwCl (zW_r_readWant p0 o_8 p0_nName c_p0_nName g21 p0_text c_p0_text b_p0_text p0_wantHolds c_p0_wantHolds b_p0_wantHolds p0_wantPull c_p0_wantPull b_p0_wantPull p0_wants c_p0_wants b_p0_wants) H21) hS21 => ?_)
  clear hP7 hS7
  refine lv_aload_n hx hb dX9_readWant_46 rfl (lv_at hl 1 rfl) (qg_X9_34 hx hb hts i_X9 hown hK hP21 0 rfl k_7 (hf_14.u (by decide) fr_p0_34) dX9_readWant_47 (lv_iload_n hx hb dX9_readWant_50 rfl (lv_at hl 0 rfl) (lv_aload_n hx hb dX9_readWant_51 rfl (lv_at hl 1 rfl) (lv_ldc2 (v := 448545973363) hx hb hown k_8 dX9_readWant_52 (lv_iconst (v := 1) hx hb dX9_readWant_55 (by decide) (lv_sipush (v := 2000) hx hb dX9_readWant_56 (by decide) ?_))))))
  refine q_cVi (As := [.long 448545973363, .int 1, .int 2000]) (rest := [.int v_3, .ref p0_wantHolds]) q_w0 trivial hK hP21 hDa za_r_readWant hS21 hA [0, 2] [1] (by decide +kernel) ⟨hx, hb, hml, hown, hts⟩ (r_after l dC dI H21.size p0 o_8 p0_text c_p0_text b_p0_text 448545973363 1 2000 o_9 o_10 o_11 sz o_12 ho_13 ((hf_14.u (by decide) fr_p0_1)) z_15 z_16 z_17 ((hf_14.u (by decide) pf_sz)) z_18 ((by omega)) ((by omega))) rfl rfl (cwV 3 hts (p1_gV m_9 m_10 m_11 m_6 g_r_after gz_r_after) rfl rfl rfl (by decide +kernel) ⟨by decide, by decide⟩) (va_recv hK hP21 (ci := 8) (q0 := 0) rfl rfl) zm_r_after rfl hl.1 rfl (Nat.le_of_ble_eq_true rfl) dX9_readWant_59 ⟨by decide, by decide⟩ (fun r_22 H23 lo23 hG23 hS23 => ?_)
  obtain ⟨o_24, o_25, o_26, o_27, o_28, z_29, ho_30, hf_31, z_32, z_33, z_34, z_35, z_36, z_37, hQ23⟩ := hG23
  have to_25 := (OKX9_g6 ho_30).use z_32
  have to_26 := (OKX9_g7 ho_30).use z_33
  have to_27 := (OKX9_g8 ho_30).use z_34
  have to_28 := (OKX9_g4 ho_30).use z_35
  have hP23 : va_P (dC, dI) vwCl (zW_r_readWant p0 o_24 p0_nName c_p0_nName g21 p0_text c_p0_text b_p0_text p0_wantHolds c_p0_wantHolds b_p0_wantHolds p0_wantPull c_p0_wantPull b_p0_wantPull p0_wants c_p0_wants b_p0_wants) H23 := hQ23
  clear hQ23 hP21 hS21
  refine q_ist hx hb hK hP23 hDa za_r_readWant hS23 3 2 rfl rfl (q_in (by omega) (by omega)) dX9_readWant_62 (fun H38 lo38 g38 eg38 (hP38 : va_P (dC, dI) vwCl (zW_r_readWant p0 o_24 p0_nName c_p0_nName g21 p0_text c_p0_text b_p0_text p0_wantHolds c_p0_wantHolds g38 p0_wantPull c_p0_wantPull b_p0_wantPull p0_wants c_p0_wants b_p0_wants) H38) hS38 => ?_)
  clear hP23 hS23
  refine lv_aload_n hx hb dX9_readWant_63 rfl (lv_at hl 1 rfl) (qg_X9_35 hx hb hts i_X9 hown hK hP38 0 rfl k_12 (hf_31.u (by decide) (hf_14.u (by decide) fr_p0_35)) dX9_readWant_64 (lv_iload_n hx hb dX9_readWant_67 rfl (lv_at hl 0 rfl) (lv_aload_n hx hb dX9_readWant_68 rfl (lv_at hl 1 rfl) (lv_ldc2 (v := 1886743660) hx hb hown k_13 dX9_readWant_69 (lv_iconst (v := 0) hx hb dX9_readWant_72 (by decide) (lv_sipush (v := 999) hx hb dX9_readWant_73 (by decide) ?_))))))
  refine q_cVi (As := [.long 1886743660, .int 0, .int 999]) (rest := [.int v_3, .ref p0_wantPull]) q_w0 trivial hK hP38 hDa za_r_readWant hS38 hA [0, 2] [1] (by decide +kernel) ⟨hx, hb, hml, hown, hts⟩ (r_after l dC dI H38.size p0 o_24 p0_text c_p0_text b_p0_text 1886743660 0 999 o_25 o_26 o_27 sz o_28 ho_30 ((hf_31.u (by decide) (hf_14.u (by decide) fr_p0_1))) z_32 z_33 z_34 ((hf_31.u (by decide) (hf_14.u (by decide) pf_sz))) z_35 ((by omega)) ((by omega))) rfl rfl (cwV 3 hts (p1_gV m_9 m_10 m_11 m_6 g_r_after gz_r_after) rfl rfl rfl (by decide +kernel) ⟨by decide, by decide⟩) (va_recv hK hP38 (ci := 8) (q0 := 0) rfl rfl) zm_r_after rfl hl.1 rfl (Nat.le_of_ble_eq_true rfl) dX9_readWant_76 ⟨by decide, by decide⟩ (fun r_39 H40 lo40 hG40 hS40 => ?_)
  obtain ⟨o_41, o_42, o_43, o_44, o_45, z_46, ho_47, hf_48, z_49, z_50, z_51, z_52, z_53, z_54, hQ40⟩ := hG40
  have to_42 := (OKX9_g6 ho_47).use z_49
  have to_43 := (OKX9_g7 ho_47).use z_50
  have to_44 := (OKX9_g8 ho_47).use z_51
  have to_45 := (OKX9_g4 ho_47).use z_52
  have hP40 : va_P (dC, dI) vwCl (zW_r_readWant p0 o_41 p0_nName c_p0_nName g21 p0_text c_p0_text b_p0_text p0_wantHolds c_p0_wantHolds g38 p0_wantPull c_p0_wantPull b_p0_wantPull p0_wants c_p0_wants b_p0_wants) H40 := hQ40
  clear hQ40 hP38 hS38
  refine q_ist hx hb hK hP40 hDa za_r_readWant hS40 4 3 rfl rfl (q_in (by omega) (by omega)) dX9_readWant_79 (fun H55 lo55 g55 eg55 (hP55 : va_P (dC, dI) vwCl (zW_r_readWant p0 o_41 p0_nName c_p0_nName g21 p0_text c_p0_text b_p0_text p0_wantHolds c_p0_wantHolds g38 p0_wantPull c_p0_wantPull g55 p0_wants c_p0_wants b_p0_wants) H55) hS55 => ?_)
  clear hP40 hS40
  refine lv_aload_n hx hb dX9_readWant_80 rfl (lv_at hl 1 rfl) (qg_X9_15 hx hb hts i_X9 hown hK hP55 0 rfl k_1 (hf_48.u (by decide) (hf_31.u (by decide) (hf_14.u (by decide) fr_p0_15))) dX9_readWant_81 (lv_aload_n hx hb dX9_readWant_84 rfl (lv_at hl 1 rfl) (qg_X9_44 hx hb hts i_X9 hown hK hP55 0 rfl k_0 (hf_48.u (by decide) (hf_31.u (by decide) (hf_14.u (by decide) pf_rb))) dX9_readWant_85 (lv_dup2_11 hx hb dX9_readWant_88 rfl rfl (q_ild hx hb hK hP55 5 4 rfl rfl (q_in (by omega) (by omega)) dX9_readWant_89 (fun v_56 ev_56 => ?_))))))
  have uv_56 : v_56.toInt = (b_p0_wants rb.toNatClampNeg).toInt := by rw [ev_56]
  have tv_56 := q_rd' hr_p0_wants (q_in (by omega) (by omega)) ev_56
  refine lv_iconst (v := 1) hx hb dX9_readWant_90 (by decide) (lv_iadd hx hb dX9_readWant_91 (lv_topi fun v_57 ev_57 => ?_))
  have tv_57 := q_add ev_57 (by omega) (by omega)
  refine q_ist hx hb hK hP55 hDa za_r_readWant hS55 5 4 rfl rfl (q_in (by omega) (by omega)) dX9_readWant_92 (fun H58 lo58 g58 eg58 (hP58 : va_P (dC, dI) vwCl (zW_r_readWant p0 o_41 p0_nName c_p0_nName g21 p0_text c_p0_text b_p0_text p0_wantHolds c_p0_wantHolds g38 p0_wantPull c_p0_wantPull g55 p0_wants c_p0_wants g58) H58) hS58 => ?_)
  clear hP55 hS55
  have hr_g58 := q_up' hr_p0_wants eg58 ⟨by omega, by omega⟩
  exact q_vret hx hb hr hlocks hS58 dX9_readWant_93 ⟨o_41, g21, g38, g55, g58, o_42, o_43, o_44, o_45, ho_47, (((q_fr.rf.tr hf_14 (by decide)).tr hf_31 (by decide)).tr hf_48 (by decide)), hr_g58, z_49, z_50, z_51, z_52, (by omega), (by omega), hP58, za_r_readWant⟩
