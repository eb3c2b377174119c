def zo_r_readKnot : List Cond := [.code yX9_readKnot cX9_readKnot 2 none, .fieldLink RX9 279 "BowWalkModel" "rb" "I", .fieldLink RX9 20 "BowWalkModel" "knots" "[I", .fieldLink RX9 52 "BowWalkModel" "kName" "[J", .methodLink RX9 325 yX9_fresh, .instanceMethod yX9_fresh, .selects RX9 yX9_fresh yX9_fresh, .initialized RX9, .fieldLink RX9 68 "BowWalkModel" "sides" "[I", .fieldLink RX9 71 "BowWalkModel" "crossings" "[I", .methodLink RX9 258 yX9_isGood, .instanceMethod yX9_isGood, .selects RX9 yX9_isGood yX9_isGood, .methodLink RX9 329 yX9_isSide, .instanceMethod yX9_isSide, .selects RX9 yX9_isSide yX9_isSide, .constantLong RX9 180 (504363246962), .methodLink RX9 268 yX9_isWord, .instanceMethod yX9_isWord, .selects RX9 yX9_isWord yX9_isWord, .methodLink RX9 262 yX9_goOn, .instanceMethod yX9_goOn, .selects RX9 yX9_goOn yX9_goOn, .methodLink RX9 265 yX9_misplaced, .instanceMethod yX9_misplaced, .selects RX9 yX9_misplaced yX9_misplaced]
def zw_r_readKnot : List Cond := zo_r_readKnot ++ (zw_r_fresh ++ (zw_r_isGood ++ (zw_r_isSide ++ (zw_r_isWord ++ (zw_r_goOn ++ (zw_r_misplaced ++ (wsX90 ++ [])))))))
theorem gz_r_readKnot : zw_r_readKnot.all goodWord = true := p1_ga (by decide +kernel) (p1_ga gz_r_fresh (p1_ga gz_r_isGood (p1_ga gz_r_isSide (p1_ga gz_r_isWord (p1_ga gz_r_goOn (p1_ga gz_r_misplaced (p1_ga gk_X9 p1_g0)))))))
theorem iz_r_readKnot : ∀ w ∈ zw_r_readKnot, w ∈ lw_tbl := p1_ia (p1_all [1354, 1081, 1048, 1058, 1355, 1357, 53, 116, 1063, 1064, 1327, 1329, 46, 1359, 1361, 54, 1301, 1339, 1341, 49, 1285, 1287, 44, 1343, 1345, 50] (by decide +kernel)) (p1_ia iz_r_fresh (p1_ia iz_r_isGood (p1_ia iz_r_isSide (p1_ia iz_r_isWord (p1_ia iz_r_goOn (p1_ia iz_r_misplaced (p1_ia ik_X9 p1_i0)))))))
def zW_r_readKnot (p0 : Nat) (f_p0 : List Value) (p0_crossings : Nat) (c_p0_crossings : ClassId) (b_p0_crossings : Nat → Int32) (p0_kName : Nat) (c_p0_kName : ClassId) (b_p0_kName : Nat → Int64) (p0_knots : Nat) (c_p0_knots : ClassId) (b_p0_knots : Nat → Int32) (p0_sides : Nat) (c_p0_sides : ClassId) (b_p0_sides : Nat → Int32) (p0_text : Nat) (c_p0_text : ClassId) (b_p0_text : Nat → Int32) : va_W := [(p0, .inr (8, f_p0)), (p0_crossings, .inl (c_p0_crossings, 12, .inl b_p0_crossings)), (p0_kName, .inl (c_p0_kName, 12, .inr (.inl b_p0_kName))), (p0_knots, .inl (c_p0_knots, 2, .inl b_p0_knots)), (p0_sides, .inl (c_p0_sides, 12, .inl b_p0_sides)), (p0_text, .inl (c_p0_text, 1600, .inl b_p0_text))]
def zT_r_readKnot (c_p0_crossings : ClassId) (c_p0_kName : ClassId) (c_p0_knots : ClassId) (c_p0_sides : ClassId) (c_p0_text : ClassId) : List (ClassId × FieldType) := [(c_p0_crossings, .int), (c_p0_kName, .long), (c_p0_knots, .int), (c_p0_sides, .int), (c_p0_text, .byte)]
def zA_r_readKnot (p0 : Nat) (p0_crossings : Nat) (p0_kName : Nat) (p0_knots : Nat) (p0_sides : Nat) (p0_text : Nat) : List Nat := [p0, p0_crossings, p0_kName, p0_knots, p0_sides, p0_text]
theorem za_r_readKnot {p0 : Nat} {f_p0 : List Value} {p0_crossings : Nat} {c_p0_crossings : ClassId} {b_p0_crossings : Nat → Int32} {p0_kName : Nat} {c_p0_kName : ClassId} {b_p0_kName : Nat → Int64} {p0_knots : Nat} {c_p0_knots : ClassId} {b_p0_knots : Nat → Int32} {p0_sides : Nat} {c_p0_sides : ClassId} {b_p0_sides : Nat → Int32} {p0_text : Nat} {c_p0_text : ClassId} {b_p0_text : Nat → Int32} : (zW_r_readKnot p0 f_p0 p0_crossings c_p0_crossings b_p0_crossings p0_kName c_p0_kName b_p0_kName p0_knots c_p0_knots b_p0_knots p0_sides c_p0_sides b_p0_sides p0_text c_p0_text b_p0_text).map Prod.fst = (zA_r_readKnot p0 p0_crossings p0_kName p0_knots p0_sides p0_text) := rfl
def zG_r_readKnot (p0 : Nat) (f_p0 : List Value) (p0_crossings : Nat) (c_p0_crossings : ClassId) (b_p0_crossings : Nat → Int32) (p0_kName : Nat) (c_p0_kName : ClassId) (b_p0_kName : Nat → Int64) (p0_knots : Nat) (c_p0_knots : ClassId) (b_p0_knots : Nat → Int32) (p0_sides : Nat) (c_p0_sides : ClassId) (b_p0_sides : Nat → Int32) (p0_text : Nat) (c_p0_text : ClassId) (b_p0_text : Nat → Int32) (at0 : Int32) (en : Int32) (tk : Int32) (siz : Int32) (fk : Int32) (rb : Int32) (X : va_W → Prop) : Prop := ∃ (y_p0 : List Value) (y_p0_crossings : Nat → Int32) (y_p0_kName : Nat → Int64) (y_p0_knots : Nat → Int32) (y_p0_sides : Nat → Int32) (at1 : Int32) (en1 : Int32) (tk1 : Int32) (fk1 : Int32), OKX9 y_p0 ∧ q_fr [4, 5, 6, 7, 8, 9, 10] f_p0 y_p0 ∧ (q_rg 12 (0) 12 y_p0_crossings) ∧ (q_rg 2 (0) 6 y_p0_knots) ∧ q_if y_p0 6 at1 ∧ q_if y_p0 7 en1 ∧ q_if y_p0 8 tk1 ∧ q_if y_p0 4 fk1 ∧ (en1.toInt ≤ siz.toInt ∧ at0.toInt ≤ at1.toInt ∧ at1.toInt ≤ en1.toInt ∧ (tk1.toInt ≠ 3 ∨ at1.toInt < en1.toInt)) ∧ (fk.toInt = 0 ∨ 1 ≤ fk1.toInt) ∧ X (zW_r_readKnot p0 y_p0 p0_crossings c_p0_crossings y_p0_crossings p0_kName c_p0_kName y_p0_kName p0_knots c_p0_knots y_p0_knots p0_sides c_p0_sides y_p0_sides p0_text c_p0_text b_p0_text)
theorem zm_r_readKnot {p0 : Nat} {f_p0 : List Value} {p0_crossings : Nat} {c_p0_crossings : ClassId} {b_p0_crossings : Nat → Int32} {p0_kName : Nat} {c_p0_kName : ClassId} {b_p0_kName : Nat → Int64} {p0_knots : Nat} {c_p0_knots : ClassId} {b_p0_knots : Nat → Int32} {p0_sides : Nat} {c_p0_sides : ClassId} {b_p0_sides : Nat → Int32} {p0_text : Nat} {c_p0_text : ClassId} {b_p0_text : Nat → Int32} {at0 : Int32} {en : Int32} {tk : Int32} {siz : Int32} {fk : Int32} {rb : Int32} : ∀ X Y : va_W → Prop, (∀ w, X w → Y w) → zG_r_readKnot p0 f_p0 p0_crossings c_p0_crossings b_p0_crossings p0_kName c_p0_kName b_p0_kName p0_knots c_p0_knots b_p0_knots p0_sides c_p0_sides b_p0_sides p0_text c_p0_text b_p0_text at0 en tk siz fk rb X → zG_r_readKnot p0 f_p0 p0_crossings c_p0_crossings b_p0_crossings p0_kName c_p0_kName b_p0_kName p0_knots c_p0_knots b_p0_knots p0_sides c_p0_sides b_p0_sides p0_text c_p0_text b_p0_text at0 en tk siz fk rb Y := fun X Y h h1 => by obtain ⟨x0, x1, x2, x3, x4, x5, x6, x7, x8, x9, x10, x11, x12, x13, x14, x15, x16, x17, x18, hx⟩ := h1; exact ⟨x0, x1, x2, x3, x4, x5, x6, x7, x8, x9, x10, x11, x12, x13, x14, x15, x16, x17, x18, h _ hx⟩
set_option maxHeartbeats 4000000 in
set_option maxRecDepth 100000 in
theorem r_readKnot (l : Launch) (dC : Nat → ClassId) (dI : Nat → Nat → Nat) (sz : Nat) (p0 : Nat) (f_p0 : List Value) (p0_crossings : Nat) (c_p0_crossings : ClassId) (b_p0_crossings : Nat → Int32) (p0_kName : Nat) (c_p0_kName : ClassId) (b_p0_kName : Nat → Int64) (p0_knots : Nat) (c_p0_knots : ClassId) (b_p0_knots : Nat → Int32) (p0_sides : Nat) (c_p0_sides : ClassId) (b_p0_sides : Nat → Int32) (p0_text : Nat) (c_p0_text : ClassId) (b_p0_text : Nat → Int32) (at0 : Int32) (en : Int32) (tk : Int32) (siz : Int32) (fk : Int32) (rb : Int32) (ho_p0 : OKX9 f_p0) (fr_p0_1 : q_rf f_p0 1 p0_text) (fr_p0_11 : q_rf f_p0 11 p0_knots) (fr_p0_21 : q_rf f_p0 21 p0_kName) (fr_p0_26 : q_rf f_p0 26 p0_sides) (fr_p0_27 : q_rf f_p0 27 p0_crossings) (hr_p0_crossings : q_rg 12 (0) 12 b_p0_crossings) (hr_p0_knots : q_rg 2 (0) 6 b_p0_knots) (pf_at0 : q_if f_p0 6 at0) (pf_en : q_if f_p0 7 en) (pf_tk : q_if f_p0 8 tk) (pf_siz : q_if f_p0 3 siz) (pf_fk : q_if f_p0 4 fk) (pf_rb : q_if f_p0 44 rb) (hR : en.toInt ≤ siz.toInt ∧ at0.toInt ≤ en.toInt ∧ (tk.toInt ≠ 3 ∨ at0.toInt < en.toInt)) (hk : (b_p0_knots rb.toNatClampNeg).toInt ≤ 5) : Met l yX9_readKnot zw_r_readKnot ({ frames := 3, cells := 0, slots := 0, locals := 69 }) (va_Pc [.ref p0] (q_pre (dC, dI) (zW_r_readKnot p0 f_p0 p0_crossings c_p0_crossings b_p0_crossings p0_kName c_p0_kName b_p0_kName p0_knots c_p0_knots b_p0_knots p0_sides c_p0_sides b_p0_sides p0_text c_p0_text b_p0_text) (zT_r_readKnot c_p0_crossings c_p0_kName c_p0_knots c_p0_sides c_p0_text) q_E0 sz)) (q_Qv (dC, dI) (zG_r_readKnot p0 f_p0 p0_crossings c_p0_crossings b_p0_crossings p0_kName c_p0_kName b_p0_kName p0_knots c_p0_knots b_p0_knots p0_sides c_p0_sides b_p0_sides p0_text c_p0_text b_p0_text at0 en tk siz fk rb) (zA_r_readKnot p0 p0_crossings p0_kName p0_knots p0_sides p0_text) (va_A (zW_r_readKnot p0 f_p0 p0_crossings c_p0_crossings b_p0_crossings p0_kName c_p0_kName b_p0_kName p0_knots c_p0_knots b_p0_knots p0_sides c_p0_sides b_p0_sides p0_text c_p0_text b_p0_text) sz)) 0 0 (va_A (zW_r_readKnot p0 f_p0 p0_crossings c_p0_crossings b_p0_crossings p0_kName c_p0_kName b_p0_kName p0_knots c_p0_knots b_p0_knots p0_sides c_p0_sides b_p0_sides p0_text c_p0_text b_p0_text) sz) := by
  refine Met.ofW (cc := cX9_readKnot) (maxL := 2) (ret := none) (by decide) rfl ?_
  intro p e s m args below meth c s₁ B hml hv
  obtain ⟨rfl, hsz, hP, hK, hD0, hE⟩ := hv
  have hx := B.exec
  have hb := B.bytes
  have hr := B.returns
  have hts := atoms_spec (ws := zw_r_readKnot) B.pre
  have hown : s.vm.findClass RX9 = some m.cls := findClass_of_methodNamed B.named
  have hlocks := B.notSynchronized
  subst hsz
  have hD := hD0.self (sz := s.heap.size)
  generalize hAe : va_A (zW_r_readKnot p0 f_p0 p0_crossings c_p0_crossings b_p0_crossings p0_kName c_p0_kName b_p0_kName p0_knots c_p0_knots b_p0_knots p0_sides c_p0_sides b_p0_sides p0_text c_p0_text b_p0_text) s.heap.size = A at hD hE ⊢
  have hA : ∀ q : Nat, s.heap.size ≤ q → A q := fun q h => by rw [← hAe]; exact Or.inr h
  have hDa : q_DA A (zA_r_readKnot p0 p0_crossings p0_kName p0_knots p0_sides p0_text) := q_DA.mk hD za_r_readKnot
  clear hAe hD0 hD
  have hS : va_S A s.heap s.heap [] := va_S.rf
  have m_0 : (.fieldLink RX9 279 "BowWalkModel" "rb" "I" : Cond) ∈ zw_r_readKnot := List.mem_append_left _ (List.mem_of_getElem? (i := 1) rfl)
  have k_0 := hts _ m_0
  have m_1 : (.fieldLink RX9 20 "BowWalkModel" "knots" "[I" : Cond) ∈ zw_r_readKnot := List.mem_append_left _ (List.mem_of_getElem? (i := 2) rfl)
  have k_1 := hts _ m_1
  have m_2 : (.fieldLink RX9 52 "BowWalkModel" "kName" "[J" : Cond) ∈ zw_r_readKnot := List.mem_append_left _ (List.mem_of_getElem? (i := 3) rfl)
  have k_2 := hts _ m_2
  have m_3 : (.methodLink RX9 325 yX9_fresh : Cond) ∈ zw_r_readKnot := List.mem_append_left _ (List.mem_of_getElem? (i := 4) rfl)
  have k_3 := hts _ m_3
  have m_4 : (.instanceMethod yX9_fresh : Cond) ∈ zw_r_readKnot := List.mem_append_left _ (List.mem_of_getElem? (i := 5) rfl)
  have k_4 := hts _ m_4
  have m_5 : (.selects RX9 yX9_fresh yX9_fresh : Cond) ∈ zw_r_readKnot := List.mem_append_left _ (List.mem_of_getElem? (i := 6) rfl)
  have k_5 := hts _ m_5
  have m_6 : (.initialized RX9 : Cond) ∈ zw_r_readKnot := List.mem_append_left _ (List.mem_of_getElem? (i := 7) rfl)
  have k_6 := hts _ m_6
  have m_7 : (.fieldLink RX9 68 "BowWalkModel" "sides" "[I" : Cond) ∈ zw_r_readKnot := List.mem_append_left _ (List.mem_of_getElem? (i := 8) rfl)
  have k_7 := hts _ m_7
  have m_8 : (.fieldLink RX9 71 "BowWalkModel" "crossings" "[I" : Cond) ∈ zw_r_readKnot := List.mem_append_left _ (List.mem_of_getElem? (i := 9) rfl)
  have k_8 := hts _ m_8
  have m_9 : (.methodLink RX9 258 yX9_isGood : Cond) ∈ zw_r_readKnot := List.mem_append_left _ (List.mem_of_getElem? (i := 10) rfl)
  have k_9 := hts _ m_9
  have m_10 : (.instanceMethod yX9_isGood : Cond) ∈ zw_r_readKnot := List.mem_append_left _ (List.mem_of_getElem? (i := 11) rfl)
  have k_10 := hts _ m_10
  have m_11 : (.selects RX9 yX9_isGood yX9_isGood : Cond) ∈ zw_r_readKnot := List.mem_append_left _ (List.mem_of_getElem? (i := 12) rfl)
  have k_11 := hts _ m_11
  have m_12 : (.methodLink RX9 329 yX9_isSide : Cond) ∈ zw_r_readKnot := List.mem_append_left _ (List.mem_of_getElem? (i := 13) rfl)
  have k_12 := hts _ m_12
  have m_13 : (.instanceMethod yX9_isSide : Cond) ∈ zw_r_readKnot := List.mem_append_left _ (List.mem_of_getElem? (i := 14) rfl)
  have k_13 := hts _ m_13
  have m_14 : (.selects RX9 yX9_isSide yX9_isSide : Cond) ∈ zw_r_readKnot := List.mem_append_left _ (List.mem_of_getElem? (i := 15) rfl)
  have k_14 := hts _ m_14
  have m_15 : (.constantLong RX9 180 (504363246962) : Cond) ∈ zw_r_readKnot := List.mem_append_left _ (List.mem_of_getElem? (i := 16) rfl)
  have k_15 := hts _ m_15
  have m_16 : (.methodLink RX9 268 yX9_isWord : Cond) ∈ zw_r_readKnot := List.mem_append_left _ (List.mem_of_getElem? (i := 17) rfl)
  have k_16 := hts _ m_16
  have m_17 : (.instanceMethod yX9_isWord : Cond) ∈ zw_r_readKnot := List.mem_append_left _ (List.mem_of_getElem? (i := 18) rfl)
  have k_17 := hts _ m_17
  have m_18 : (.selects RX9 yX9_isWord yX9_isWord : Cond) ∈ zw_r_readKnot := List.mem_append_left _ (List.mem_of_getElem? (i := 19) rfl)
  have k_18 := hts _ m_18
  have m_19 : (.methodLink RX9 262 yX9_goOn : Cond) ∈ zw_r_readKnot := List.mem_append_left _ (List.mem_of_getElem? (i := 20) rfl)
  have k_19 := hts _ m_19
  have m_20 : (.instanceMethod yX9_goOn : Cond) ∈ zw_r_readKnot := List.mem_append_left _ (List.mem_of_getElem? (i := 21) rfl)
  have k_20 := hts _ m_20
  have m_21 : (.selects RX9 yX9_goOn yX9_goOn : Cond) ∈ zw_r_readKnot := List.mem_append_left _ (List.mem_of_getElem? (i := 22) rfl)
  have k_21 := hts _ m_21
  have m_22 : (.methodLink RX9 265 yX9_misplaced : Cond) ∈ zw_r_readKnot := List.mem_append_left _ (List.mem_of_getElem? (i := 23) rfl)
  have k_22 := hts _ m_22
  have m_23 : (.instanceMethod yX9_misplaced : Cond) ∈ zw_r_readKnot := List.mem_append_left _ (List.mem_of_getElem? (i := 24) rfl)
  have k_23 := hts _ m_23
  have m_24 : (.selects RX9 yX9_misplaced yX9_misplaced : Cond) ∈ zw_r_readKnot := List.mem_append_left _ (List.mem_of_getElem? (i := 25) rfl)
  have k_24 := hts _ m_24
  have g_r_fresh : ∀ w ∈ zw_r_fresh, w ∈ zw_r_readKnot := fun w h => List.mem_append_right _ (List.mem_append_left _ h)
  have g_r_isGood : ∀ w ∈ zw_r_isGood, w ∈ zw_r_readKnot := fun w h => List.mem_append_right _ (List.mem_append_right _ (List.mem_append_left _ h))
  have g_r_isSide : ∀ w ∈ zw_r_isSide, w ∈ zw_r_readKnot := fun w h => List.mem_append_right _ (List.mem_append_right _ (List.mem_append_right _ (List.mem_append_left _ h)))
  have g_r_isWord : ∀ w ∈ zw_r_isWord, w ∈ zw_r_readKnot := fun w h => List.mem_append_right _ (List.mem_append_right _ (List.mem_append_right _ (List.mem_append_right _ (List.mem_append_left _ h))))
  have g_r_goOn : ∀ w ∈ zw_r_goOn, w ∈ zw_r_readKnot := fun w h => List.mem_append_right _ (List.mem_append_right _ (List.mem_append_right _ (List.mem_append_right _ (List.mem_append_right _ (List.mem_append_left _ h)))))
  have g_r_misplaced : ∀ w ∈ zw_r_misplaced, w ∈ zw_r_readKnot := fun w h => List.mem_append_right _ (List.mem_append_right _ (List.mem_append_right _ (List.mem_append_right _ (List.mem_append_right _ (List.mem_append_right _ (List.mem_append_left _ h))))))
  have i_X9 : ∀ w ∈ u_ws RX9 TX9 81, w ∈ zw_r_readKnot := fun w h => List.mem_append_right _ (List.mem_append_right _ (List.mem_append_right _ (List.mem_append_right _ (List.mem_append_right _ (List.mem_append_right _ (List.mem_append_right _ (List.mem_append_left _ h)))))))
  have lt_0 : (0 : Int32).toInt = 0 := by decide
  have lt_1 : (1 : Int32).toInt = 1 := by decide
  have lt_6 : (6 : Int32).toInt = 6 := by decide
  have lt_12 : (12 : Int32).toInt = 12 := by decide
  have hl := lv_entry ([.ref p0]) (n := 2) (Nat.le_of_ble_eq_true rfl)
  rw [lg_entry_eq]
  generalize (lg_sl ([.ref p0]) ++ List.replicate (2 - (lg_sl ([.ref p0])).length) Slot.unset).toArray = ls at hl ⊢
  have hl : lv_has ls 2 [(0, .ref p0)] := hl
  have tat0 := (OKX9_g6 ho_p0).use pf_at0
  have ten := (OKX9_g7 ho_p0).use pf_en
  have ttk := (OKX9_g8 ho_p0).use pf_tk
  have tsiz := (OKX9_g3 ho_p0).use pf_siz
  have tfk := (OKX9_g4 ho_p0).use pf_fk
  have trb := (OKX9_g44 ho_p0).use pf_rb
  refine lv_bipush (v := 6) hx hb dX9_readKnot_0 (by decide) (lv_aload_n hx hb dX9_readKnot_2 rfl (lv_at hl 0 rfl) (qg_X9_44 hx hb hts i_X9 hown hK hP 0 rfl k_0 pf_rb dX9_readKnot_3 (lv_imul hx hb dX9_readKnot_6 (lv_topi fun v_1 ev_1 => ?_))))
  have tv_1 := q_mulc (c := 6) ev_1 (by decide) (by omega) (by omega)
  refine lv_aload_n hx hb dX9_readKnot_7 rfl (lv_at hl 0 rfl) (qg_X9_11 hx hb hts i_X9 hown hK hP 0 rfl k_1 fr_p0_11 dX9_readKnot_8 (lv_aload_n hx hb dX9_readKnot_11 rfl (lv_at hl 0 rfl) (qg_X9_44 hx hb hts i_X9 hown hK hP 0 rfl k_0 pf_rb dX9_readKnot_12 (q_ild hx hb hK hP 3 2 rfl rfl (q_in (by omega) (by omega)) dX9_readKnot_15 (fun v_2 ev_2 => ?_)))))
  have uv_2 : v_2.toInt = (b_p0_knots rb.toNatClampNeg).toInt := by rw [ev_2]
  have tv_2 := q_rd' hr_p0_knots (q_in (by omega) (by omega)) ev_2
  refine lv_iadd hx hb dX9_readKnot_16 (lv_topi fun v_3 ev_3 => ?_)
  have tv_3 := q_add ev_3 (by omega) (by omega)
  refine lv_istore_n (lv' := [(1, .int v_3), (0, .ref p0)]) hx hb dX9_readKnot_17 rfl hl (by decide) rfl (fun ls hl => ?_)
  refine lv_aload_n hx hb dX9_readKnot_18 rfl (lv_at hl 1 rfl) (qg_X9_21 hx hb hts i_X9 hown hK hP 0 rfl k_2 fr_p0_21 dX9_readKnot_19 (lv_iload_n hx hb dX9_readKnot_22 rfl (lv_at hl 0 rfl) (lv_aload_n hx hb dX9_readKnot_23 rfl (lv_at hl 1 rfl) (lv_aload_n hx hb dX9_readKnot_24 rfl (lv_at hl 1 rfl) (qg_X9_21 hx hb hts i_X9 hown hK hP 0 rfl k_2 fr_p0_21 dX9_readKnot_25 (lv_bipush (v := 6) hx hb dX9_readKnot_28 (by decide) (lv_aload_n hx hb dX9_readKnot_30 rfl (lv_at hl 1 rfl) ?_)))))))
  refine qg_X9_44 hx hb hts i_X9 hown hK hP 0 rfl k_0 pf_rb dX9_readKnot_31 (lv_imul hx hb dX9_readKnot_34 (lv_topi fun v_4 ev_4 => ?_))
  have tv_4 := q_mulc (c := 6) ev_4 (by decide) (by omega) (by omega)
  refine lv_aload_n hx hb dX9_readKnot_35 rfl (lv_at hl 1 rfl) (qg_X9_11 hx hb hts i_X9 hown hK hP 0 rfl k_1 fr_p0_11 dX9_readKnot_36 (lv_aload_n hx hb dX9_readKnot_39 rfl (lv_at hl 1 rfl) (qg_X9_44 hx hb hts i_X9 hown hK hP 0 rfl k_0 pf_rb dX9_readKnot_40 (q_ild hx hb hK hP 3 2 rfl rfl (q_in (by omega) (by omega)) dX9_readKnot_43 (fun v_5 ev_5 => ?_)))))
  have uv_5 : v_5.toInt = (b_p0_knots rb.toNatClampNeg).toInt := by rw [ev_5]
  have tv_5 := q_rd' hr_p0_knots (q_in (by omega) (by omega)) ev_5
  refine q_cVl (As := [.ref p0_kName, .int v_4, .int v_5]) (rest := [.int v_3, .ref p0_kName]) q_w0 trivial hK hP hDa za_r_readKnot hS hA [0, 5, 2] [4, 1] (by decide +kernel) ⟨hx, hb, hml, hown, hts⟩ (r_fresh l dC dI s.heap.size p0 f_p0 p0_text c_p0_text b_p0_text p0_kName c_p0_kName b_p0_kName 12 v_4 v_5 at0 en tk siz fk ho_p0 fr_p0_1 pf_at0 pf_en pf_tk pf_siz pf_fk ((by omega)) ((by omega)) ((by omega)) ((by omega))) rfl rfl (cwV 3 hts (p1_gV m_3 m_4 m_5 m_6 g_r_fresh gz_r_fresh) rfl rfl rfl (by decide +kernel) ⟨by decide, by decide⟩) (va_recv hK hP (ci := 8) (q0 := 0) rfl rfl) zm_r_fresh rfl hl.1 rfl (Nat.le_of_ble_eq_true rfl) dX9_readKnot_44 ⟨by decide, by decide⟩ (fun r_6 H7 lo7 hG7 hS7 => ?_)
  obtain ⟨o_8, o_9, o_10, o_11, o_12, ho_13, hf_14, z_15, z_16, z_17, z_18, z_19, z_20, hQ7⟩ := hG7
  have to_9 := (OKX9_g6 ho_13).use z_15
  have to_10 := (OKX9_g7 ho_13).use z_16
  have to_11 := (OKX9_g8 ho_13).use z_17
  have to_12 := (OKX9_g4 ho_13).use z_18
  have hP7 : va_P (dC, dI) vwCl (zW_r_readKnot p0 o_8 p0_crossings c_p0_crossings b_p0_crossings p0_kName c_p0_kName b_p0_kName p0_knots c_p0_knots b_p0_knots p0_sides c_p0_sides b_p0_sides p0_text c_p0_text b_p0_text) H7 := hQ7
  clear hQ7 hP hS
  refine q_lst hx hb hK hP7 hDa za_r_readKnot hS7 2 1 rfl rfl (q_in (by omega) (by omega)) dX9_readKnot_47 (fun H21 lo21 g21 eg21 (hP21 : va_P (dC, dI) vwCl (zW_r_readKnot p0 o_8 p0_crossings c_p0_crossings b_p0_crossings p0_kName c_p0_kName g21 p0_knots c_p0_knots b_p0_knots p0_sides c_p0_sides b_p0_sides p0_text c_p0_text b_p0_text) H21) hS21 => ?_)
  clear hP7 hS7
  refine lv_aload_n hx hb dX9_readKnot_48 rfl (lv_at hl 1 rfl) (qg_X9_26 hx hb hts i_X9 hown hK hP21 0 rfl k_7 (hf_14.u (by decide) fr_p0_26) dX9_readKnot_49 (lv_iload_n hx hb dX9_readKnot_52 rfl (lv_at hl 0 rfl) (lv_iconst (v := 0) hx hb dX9_readKnot_53 (by decide) (q_ist hx hb hK hP21 hDa za_r_readKnot hS21 4 3 rfl rfl (q_in (by omega) (by omega)) dX9_readKnot_54 (fun H22 lo22 g22 eg22 (hP22 : va_P (dC, dI) vwCl (zW_r_readKnot p0 o_8 p0_crossings c_p0_crossings b_p0_crossings p0_kName c_p0_kName g21 p0_knots c_p0_knots b_p0_knots p0_sides c_p0_sides g22 p0_text c_p0_text b_p0_text) H22) hS22 => ?_)))))
  clear hP21 hS21
  refine lv_aload_n hx hb dX9_readKnot_55 rfl (lv_at hl 1 rfl) (qg_X9_27 hx hb hts i_X9 hown hK hP22 0 rfl k_8 (hf_14.u (by decide) fr_p0_27) dX9_readKnot_56 (lv_iload_n hx hb dX9_readKnot_59 rfl (lv_at hl 0 rfl) (lv_iconst (v := 0) hx hb dX9_readKnot_60 (by decide) (q_ist hx hb hK hP22 hDa za_r_readKnot hS22 1 0 rfl rfl (q_in (by omega) (by omega)) dX9_readKnot_61 (fun H23 lo23 g23 eg23 (hP23 : va_P (dC, dI) vwCl (zW_r_readKnot p0 o_8 p0_crossings c_p0_crossings g23 p0_kName c_p0_kName g21 p0_knots c_p0_knots b_p0_knots p0_sides c_p0_sides g22 p0_text c_p0_text b_p0_text) H23) hS23 => ?_)))))
  clear hP22 hS22
  have hr_g23 := q_up' hr_p0_crossings eg23 ⟨by omega, by omega⟩
  have usg23 : (g23 v_3.toNatClampNeg).toInt = (0 : Int32).toInt := by rw [eg23, pk_us]
  refine lv_aload_n hx hb dX9_readKnot_62 rfl (lv_at hl 1 rfl) ?_
  refine q_cVi (As := []) (rest := []) q_w0 trivial hK hP23 hDa za_r_readKnot hS23 hA [0] [] (by decide +kernel) ⟨hx, hb, hml, hown, hts⟩ (r_isGood l dC dI H23.size p0 o_8 o_12 ho_13 z_18) rfl rfl (cwV 0 hts (p1_gV m_9 m_10 m_11 m_6 g_r_isGood gz_r_isGood) rfl rfl rfl (by decide +kernel) ⟨by decide, by decide⟩) (va_recv hK hP23 (ci := 8) (q0 := 0) rfl rfl) zm_r_isGood rfl hl.1 rfl (Nat.le_of_ble_eq_true rfl) dX9_readKnot_63 ⟨by decide, by decide⟩ (fun r_24 H25 lo25 hG25 hS25 => ?_)
  obtain ⟨z_26, hQ25⟩ := hG25
  have hP25 : va_P (dC, dI) vwCl (zW_r_readKnot p0 o_8 p0_crossings c_p0_crossings g23 p0_kName c_p0_kName g21 p0_knots c_p0_knots b_p0_knots p0_sides c_p0_sides g22 p0_text c_p0_text b_p0_text) H25 := hQ25
  clear hQ25 hP23 hS23
  rcases z_26 with ⟨rfl, z_26⟩ | ⟨rfl, z_26⟩
  · refine lv_if_eq (tgt := 80) hx hb dX9_readKnot_66 (by decide) (fun c_27 => absurd c_27 (by decide)) (fun c_27 => ?_)
    refine lv_aload_n hx hb dX9_readKnot_69 rfl (lv_at hl 1 rfl) ?_
    refine q_cVi (As := []) (rest := []) q_w0 trivial hK hP25 hDa za_r_readKnot hS25 hA [0] [] (by decide +kernel) ⟨hx, hb, hml, hown, hts⟩ (r_isSide l dC dI H25.size p0 o_8 ho_13) rfl rfl (cwV 0 hts (p1_gV m_12 m_13 m_14 m_6 g_r_isSide gz_r_isSide) rfl rfl rfl (by decide +kernel) ⟨by decide, by decide⟩) (va_recv hK hP25 (ci := 8) (q0 := 0) rfl rfl) zm_r_isSide rfl hl.1 rfl (Nat.le_of_ble_eq_true rfl) dX9_readKnot_70 ⟨by decide, by decide⟩ (fun r_28 H29 lo29 hG29 hS29 => ?_)
    obtain ⟨z_30, hQ29⟩ := hG29
    have hP29 : va_P (dC, dI) vwCl (zW_r_readKnot p0 o_8 p0_crossings c_p0_crossings g23 p0_kName c_p0_kName g21 p0_knots c_p0_knots b_p0_knots p0_sides c_p0_sides g22 p0_text c_p0_text b_p0_text) H29 := hQ29
    clear hQ29 hP25 hS25
    rcases z_30 with ⟨rfl, z_30⟩ | ⟨rfl, z_30⟩
    · refine lv_if_ne (tgt := 80) hx hb dX9_readKnot_73 (by decide) (fun c_31 => ?_) (fun c_31 => absurd c_31 (by decide))
      have key80 : ∀ (fu80 : Nat) (fz_p0 : List Value) (fkv : Int32) (atv : Int32) (env : Int32) (tkv : Int32) (bz_p0_crossings : Nat → Int32) (bz_p0_sides : Nat → Int32) (H : Heap) (locs : List Loc) (ls : Array Slot) (hfu80 : 13 - (bz_p0_crossings v_3.toNatClampNeg).toInt ≤ (fu80 : Int)) (ho_fz_p0 : OKX9 fz_p0) (hf_fz_p0 : q_fr [4, 5, 6, 7, 8, 9, 10] f_p0 fz_p0) (fr_fz_p0_1 : q_rf fz_p0 1 p0_text) (fh_fz_p0_3 : q_if fz_p0 3 siz) (fv_fz_p0_4 : q_if fz_p0 4 fkv) (tfkv : (0) ≤ fkv.toInt ∧ fkv.toInt ≤ 4) (fv_fz_p0_6 : q_if fz_p0 6 atv) (tatv : (0) ≤ atv.toInt ∧ atv.toInt ≤ 1600) (fv_fz_p0_7 : q_if fz_p0 7 env) (tenv : (0) ≤ env.toInt ∧ env.toInt ≤ 1601) (fv_fz_p0_8 : q_if fz_p0 8 tkv) (ttkv : (0) ≤ tkv.toInt ∧ tkv.toInt ≤ 5) (fr_fz_p0_11 : q_rf fz_p0 11 p0_knots) (fr_fz_p0_21 : q_rf fz_p0 21 p0_kName) (fr_fz_p0_26 : q_rf fz_p0 26 p0_sides) (fr_fz_p0_27 : q_rf fz_p0 27 p0_crossings) (fh_fz_p0_44 : q_if fz_p0 44 rb) (hr_bz_p0_crossings : q_rg 12 (0) 12 bz_p0_crossings) (hq80_0 : env.toInt ≤ siz.toInt ∧ at0.toInt ≤ atv.toInt ∧ atv.toInt ≤ env.toInt ∧ (tkv.toInt ≠ 3 ∨ atv.toInt < env.toInt)) (hq80_1 : fk.toInt = 0 ∨ 1 ≤ fkv.toInt), va_P (dC, dI) vwCl (zW_r_readKnot p0 fz_p0 p0_crossings c_p0_crossings bz_p0_crossings p0_kName c_p0_kName g21 p0_knots c_p0_knots b_p0_knots p0_sides c_p0_sides bz_p0_sides p0_text c_p0_text b_p0_text) H → va_S A s.heap H locs → lv_has ls 2 [(1, .int v_3), (0, .ref p0)] → W p l e (headSpec zw_r_readKnot { frames := 3, cells := 0, slots := 0, locals := 69 }).room s m ([.ref p0] : List Value).toArray below meth c H locs 0 0 (MQ below (q_Qv (dC, dI) (zG_r_readKnot p0 f_p0 p0_crossings c_p0_crossings b_p0_crossings p0_kName c_p0_kName b_p0_kName p0_knots c_p0_knots b_p0_knots p0_sides c_p0_sides b_p0_sides p0_text c_p0_text b_p0_text at0 en tk siz fk rb) (zA_r_readKnot p0 p0_crossings p0_kName p0_knots p0_sides p0_text) A) ([.ref p0] : List Value).toArray s 0 0 A) (F0 m 80 ls []) := by
        intro fu80
        induction fu80 using Nat.strongRecOn with
        | ind fu80 ih80 =>
          intro fz_p0 fkv atv env tkv bz_p0_crossings bz_p0_sides H32 lo32 ls hfu80 ho_fz_p0 hf_fz_p0 fr_fz_p0_1 fh_fz_p0_3 fv_fz_p0_4 tfkv fv_fz_p0_6 tatv fv_fz_p0_7 tenv fv_fz_p0_8 ttkv fr_fz_p0_11 fr_fz_p0_21 fr_fz_p0_26 fr_fz_p0_27 fh_fz_p0_44 hr_bz_p0_crossings hq80_0 hq80_1 hP32 hS32 hl
          refine lv_aload_n hx hb dX9_readKnot_80 rfl (lv_at hl 1 rfl) ?_
          refine q_cVi (As := []) (rest := []) q_w0 trivial hK hP32 hDa za_r_readKnot hS32 hA [0] [] (by decide +kernel) ⟨hx, hb, hml, hown, hts⟩ (r_isGood l dC dI H32.size p0 fz_p0 fkv ho_fz_p0 fv_fz_p0_4) rfl rfl (cwV 0 hts (p1_gV m_9 m_10 m_11 m_6 g_r_isGood gz_r_isGood) rfl rfl rfl (by decide +kernel) ⟨by decide, by decide⟩) (va_recv hK hP32 (ci := 8) (q0 := 0) rfl rfl) zm_r_isGood rfl hl.1 rfl (Nat.le_of_ble_eq_true rfl) dX9_readKnot_81 ⟨by decide, by decide⟩ (fun r_33 H34 lo34 hG34 hS34 => ?_)
          obtain ⟨z_35, hQ34⟩ := hG34
          have hP34 : va_P (dC, dI) vwCl (zW_r_readKnot p0 fz_p0 p0_crossings c_p0_crossings bz_p0_crossings p0_kName c_p0_kName g21 p0_knots c_p0_knots b_p0_knots p0_sides c_p0_sides bz_p0_sides p0_text c_p0_text b_p0_text) H34 := hQ34
          clear hQ34 hP32 hS32
          rcases z_35 with ⟨rfl, z_35⟩ | ⟨rfl, z_35⟩
          · refine lv_if_eq (tgt := 165) hx hb dX9_readKnot_84 (by decide) (fun c_36 => absurd c_36 (by decide)) (fun c_36 => ?_)
            refine lv_aload_n hx hb dX9_readKnot_87 rfl (lv_at hl 1 rfl) ?_
            refine q_cVi (As := []) (rest := []) q_w0 trivial hK hP34 hDa za_r_readKnot hS34 hA [0] [] (by decide +kernel) ⟨hx, hb, hml, hown, hts⟩ (r_isSide l dC dI H34.size p0 fz_p0 ho_fz_p0) rfl rfl (cwV 0 hts (p1_gV m_12 m_13 m_14 m_6 g_r_isSide gz_r_isSide) rfl rfl rfl (by decide +kernel) ⟨by decide, by decide⟩) (va_recv hK hP34 (ci := 8) (q0 := 0) rfl rfl) zm_r_isSide rfl hl.1 rfl (Nat.le_of_ble_eq_true rfl) dX9_readKnot_88 ⟨by decide, by decide⟩ (fun r_37 H38 lo38 hG38 hS38 => ?_)
            obtain ⟨z_39, hQ38⟩ := hG38
            have hP38 : va_P (dC, dI) vwCl (zW_r_readKnot p0 fz_p0 p0_crossings c_p0_crossings bz_p0_crossings p0_kName c_p0_kName g21 p0_knots c_p0_knots b_p0_knots p0_sides c_p0_sides bz_p0_sides p0_text c_p0_text b_p0_text) H38 := hQ38
            clear hQ38 hP34 hS34
            rcases z_39 with ⟨rfl, z_39⟩ | ⟨rfl, z_39⟩
            · refine lv_if_eq (tgt := 165) hx hb dX9_readKnot_91 (by decide) (fun c_40 => absurd c_40 (by decide)) (fun c_40 => ?_)
              refine lv_aload_n hx hb dX9_readKnot_94 rfl (lv_at hl 1 rfl) (qg_X9_27 hx hb hts i_X9 hown hK hP38 0 rfl k_8 fr_fz_p0_27 dX9_readKnot_95 (lv_iload_n hx hb dX9_readKnot_98 rfl (lv_at hl 0 rfl) (q_ild hx hb hK hP38 1 0 rfl rfl (q_in (by omega) (by omega)) dX9_readKnot_99 (fun v_41 ev_41 => ?_))))
              have uv_41 : v_41.toInt = (bz_p0_crossings v_3.toNatClampNeg).toInt := by rw [ev_41]
              have tv_41 := q_rd' hr_bz_p0_crossings (q_in (by omega) (by omega)) ev_41
              refine lv_bipush (v := 12) hx hb dX9_readKnot_100 (by decide) ?_
              refine lv_icmp_ne (tgt := 109) hx hb dX9_readKnot_102 (by decide) (fun c_42 => ?_) (fun c_42 => ?_)
              · have tc_42 := q_ne c_42
                refine lv_aload_n hx hb dX9_readKnot_109 rfl (lv_at hl 1 rfl) ?_
                refine q_cVi (As := []) (rest := []) q_w0 trivial hK hP38 hDa za_r_readKnot hS38 hA [0] [] (by decide +kernel) ⟨hx, hb, hml, hown, hts⟩ (r_isGood l dC dI H38.size p0 fz_p0 fkv ho_fz_p0 fv_fz_p0_4) rfl rfl (cwV 0 hts (p1_gV m_9 m_10 m_11 m_6 g_r_isGood gz_r_isGood) rfl rfl rfl (by decide +kernel) ⟨by decide, by decide⟩) (va_recv hK hP38 (ci := 8) (q0 := 0) rfl rfl) zm_r_isGood rfl hl.1 rfl (Nat.le_of_ble_eq_true rfl) dX9_readKnot_110 ⟨by decide, by decide⟩ (fun r_43 H44 lo44 hG44 hS44 => ?_)
                obtain ⟨z_45, hQ44⟩ := hG44
                have hP44 : va_P (dC, dI) vwCl (zW_r_readKnot p0 fz_p0 p0_crossings c_p0_crossings bz_p0_crossings p0_kName c_p0_kName g21 p0_knots c_p0_knots b_p0_knots p0_sides c_p0_sides bz_p0_sides p0_text c_p0_text b_p0_text) H44 := hQ44
                clear hQ44 hP38 hS38
                rcases z_45 with ⟨rfl, z_45⟩ | ⟨rfl, z_45⟩
                · refine lv_if_ne (tgt := 117) hx hb dX9_readKnot_113 (by decide) (fun c_46 => ?_) (fun c_46 => absurd c_46 (by decide))
                  refine lv_aload_n hx hb dX9_readKnot_117 rfl (lv_at hl 1 rfl) (qg_X9_26 hx hb hts i_X9 hown hK hP44 0 rfl k_7 fr_fz_p0_26 dX9_readKnot_118 (lv_iload_n hx hb dX9_readKnot_121 rfl (lv_at hl 0 rfl) (lv_dup2_11 hx hb dX9_readKnot_122 rfl rfl (q_ild hx hb hK hP44 4 3 rfl rfl (q_in (by omega) (by omega)) dX9_readKnot_123 (fun v_47 ev_47 => ?_)))))
                  refine lv_aload_n hx hb dX9_readKnot_124 rfl (lv_at hl 1 rfl) (lv_ldc2 (v := 504363246962) hx hb hown k_15 dX9_readKnot_125 ?_)
                  obtain ⟨v_48, fv_48⟩ := OKX9_g10 ho_fz_p0
                  refine q_cVi (As := [.long 504363246962]) (rest := [.int v_47, .int v_3, .ref p0_sides]) q_w0 trivial hK hP44 hDa za_r_readKnot hS44 hA [0] [] (by decide +kernel) ⟨hx, hb, hml, hown, hts⟩ (r_isWord l dC dI H44.size p0 fz_p0 504363246962 tkv v_48 ho_fz_p0 fv_fz_p0_8 fv_48) rfl rfl (cwV 1 hts (p1_gV m_16 m_17 m_18 m_6 g_r_isWord gz_r_isWord) rfl rfl rfl (by decide +kernel) ⟨by decide, by decide⟩) (va_recv hK hP44 (ci := 8) (q0 := 0) rfl rfl) zm_r_isWord rfl hl.1 rfl (Nat.le_of_ble_eq_true rfl) dX9_readKnot_128 ⟨by decide, by decide⟩ (fun r_49 H50 lo50 hG50 hS50 => ?_)
                  obtain ⟨z_51, hQ50⟩ := hG50
                  have hP50 : va_P (dC, dI) vwCl (zW_r_readKnot p0 fz_p0 p0_crossings c_p0_crossings bz_p0_crossings p0_kName c_p0_kName g21 p0_knots c_p0_knots b_p0_knots p0_sides c_p0_sides bz_p0_sides p0_text c_p0_text b_p0_text) H50 := hQ50
                  clear hQ50 hP44 hS44
                  rcases z_51 with ⟨rfl, z_51⟩ | ⟨rfl, z_51⟩
                  · refine lv_if_eq (tgt := 145) hx hb dX9_readKnot_131 (by decide) (fun c_52 => absurd c_52 (by decide)) (fun c_52 => ?_)
                    refine lv_iconst (v := 1) hx hb dX9_readKnot_134 (by decide) (lv_aload_n hx hb dX9_readKnot_135 rfl (lv_at hl 1 rfl) (qg_X9_27 hx hb hts i_X9 hown hK hP50 0 rfl k_8 fr_fz_p0_27 dX9_readKnot_136 (lv_iload_n hx hb dX9_readKnot_139 rfl (lv_at hl 0 rfl) (q_ild hx hb hK hP50 1 0 rfl rfl (q_in (by omega) (by omega)) dX9_readKnot_140 (fun v_53 ev_53 => ?_)))))
                    have uv_53 : v_53.toInt = (bz_p0_crossings v_3.toNatClampNeg).toInt := by rw [ev_53]
                    have tv_53 := q_rd' hr_bz_p0_crossings (q_in (by omega) (by omega)) ev_53
                    refine lv_ishl hx hb dX9_readKnot_141 (lv_topi fun v_54 ev_54 => ?_)
                    have tv_54 : 1 ≤ v_54.toInt ∧ v_54.toInt ≤ 4096 := q_shl1 (k := 12) ev_54 (by omega) (by omega) (by decide)
                    refine lv_goto (tgt := 146) hx hb dX9_readKnot_142 (by decide) (lv_ior hx hb dX9_readKnot_146 (lv_topi fun v_55 ev_55 => q_ist hx hb hK hP50 hDa za_r_readKnot hS50 4 3 rfl rfl (q_in (by omega) (by omega)) dX9_readKnot_147 (fun H56 lo56 g56 eg56 (hP56 : va_P (dC, dI) vwCl (zW_r_readKnot p0 fz_p0 p0_crossings c_p0_crossings bz_p0_crossings p0_kName c_p0_kName g21 p0_knots c_p0_knots b_p0_knots p0_sides c_p0_sides g56 p0_text c_p0_text b_p0_text) H56) hS56 => ?_)))
                    clear hP50 hS50
                    refine lv_aload_n hx hb dX9_readKnot_148 rfl (lv_at hl 1 rfl) (qg_X9_27 hx hb hts i_X9 hown hK hP56 0 rfl k_8 fr_fz_p0_27 dX9_readKnot_149 (lv_iload_n hx hb dX9_readKnot_152 rfl (lv_at hl 0 rfl) (lv_dup2_11 hx hb dX9_readKnot_153 rfl rfl (q_ild hx hb hK hP56 1 0 rfl rfl (q_in (by omega) (by omega)) dX9_readKnot_154 (fun v_57 ev_57 => ?_)))))
                    have uv_57 : v_57.toInt = (bz_p0_crossings v_3.toNatClampNeg).toInt := by rw [ev_57]
                    have tv_57 := q_rd' hr_bz_p0_crossings (q_in (by omega) (by omega)) ev_57
                    refine lv_iconst (v := 1) hx hb dX9_readKnot_155 (by decide) (lv_iadd hx hb dX9_readKnot_156 (lv_topi fun v_58 ev_58 => ?_))
                    have tv_58 := q_add ev_58 (by omega) (by omega)
                    refine q_ist hx hb hK hP56 hDa za_r_readKnot hS56 1 0 rfl rfl (q_in (by omega) (by omega)) dX9_readKnot_157 (fun H59 lo59 g59 eg59 (hP59 : va_P (dC, dI) vwCl (zW_r_readKnot p0 fz_p0 p0_crossings c_p0_crossings g59 p0_kName c_p0_kName g21 p0_knots c_p0_knots b_p0_knots p0_sides c_p0_sides g56 p0_text c_p0_text b_p0_text) H59) hS59 => ?_)
                    clear hP56 hS56
                    have hr_g59 := q_up' hr_bz_p0_crossings eg59 ⟨by omega, by omega⟩
                    have usg59 : (g59 v_3.toNatClampNeg).toInt = v_58.toInt := by rw [eg59, pk_us]
                    refine lv_aload_n hx hb dX9_readKnot_158 rfl (lv_at hl 1 rfl) ?_
                    refine q_cVv (As := []) (rest := []) q_w0 trivial hK hP59 hDa za_r_readKnot hS59 hA [0, 5] [4] (by decide +kernel) ⟨hx, hb, hml, hown, hts⟩ (r_goOn l dC dI H59.size p0 fz_p0 p0_text c_p0_text b_p0_text env siz ho_fz_p0 fr_fz_p0_1 fv_fz_p0_7 fh_fz_p0_3 ((by omega))) rfl rfl (cwV 0 hts (p1_gV m_19 m_20 m_21 m_6 g_r_goOn gz_r_goOn) rfl rfl rfl (by decide +kernel) ⟨by decide, by decide⟩) (va_recv hK hP59 (ci := 8) (q0 := 0) rfl rfl) zm_r_goOn rfl hl.1 rfl (Nat.le_of_ble_eq_true rfl) dX9_readKnot_159 ⟨by decide, by decide⟩ (fun H61 lo61 hG61 hS61 => ?_)
                    obtain ⟨o_62, o_63, o_64, o_65, ho_66, hf_67, z_68, z_69, z_70, z_71, hQ61⟩ := hG61
                    have to_63 := (OKX9_g6 ho_66).use z_68
                    have to_64 := (OKX9_g7 ho_66).use z_69
                    have to_65 := (OKX9_g8 ho_66).use z_70
                    have hP61 : va_P (dC, dI) vwCl (zW_r_readKnot p0 o_62 p0_crossings c_p0_crossings g59 p0_kName c_p0_kName g21 p0_knots c_p0_knots b_p0_knots p0_sides c_p0_sides g56 p0_text c_p0_text b_p0_text) H61 := hQ61
                    clear hQ61 hP59 hS59
                    refine lv_goto (tgt := 80) hx hb dX9_readKnot_162 (by decide) ?_
                    exact ih80 (fu80 - 1) (by omega) o_62 fkv o_63 o_64 o_65 g59 g56 _ _ _ (by omega) ho_66 (hf_fz_p0.tr hf_67 (by decide)) (hf_67.u (by decide) fr_fz_p0_1) (hf_67.u (by decide) fh_fz_p0_3) (hf_67.u (by decide) fv_fz_p0_4) (by omega) z_68 (by omega) z_69 (by omega) z_70 (by omega) (hf_67.u (by decide) fr_fz_p0_11) (hf_67.u (by decide) fr_fz_p0_21) (hf_67.u (by decide) fr_fz_p0_26) (hf_67.u (by decide) fr_fz_p0_27) (hf_67.u (by decide) fh_fz_p0_44) hr_g59 (by omega) (by omega) hP61 hS61 (lv_sub hl [0, 1] rfl)
                  · refine lv_if_eq (tgt := 145) hx hb dX9_readKnot_131 (by decide) (fun c_72 => ?_) (fun c_72 => absurd c_72 (by decide))
                    refine lv_iconst (v := 0) hx hb dX9_readKnot_145 (by decide) (lv_ior hx hb dX9_readKnot_146 (lv_topi fun v_73 ev_73 => q_ist hx hb hK hP50 hDa za_r_readKnot hS50 4 3 rfl rfl (q_in (by omega) (by omega)) dX9_readKnot_147 (fun H74 lo74 g74 eg74 (hP74 : va_P (dC, dI) vwCl (zW_r_readKnot p0 fz_p0 p0_crossings c_p0_crossings bz_p0_crossings p0_kName c_p0_kName g21 p0_knots c_p0_knots b_p0_knots p0_sides c_p0_sides g74 p0_text c_p0_text b_p0_text) H74) hS74 => ?_)))
                    clear hP50 hS50
                    refine lv_aload_n hx hb dX9_readKnot_148 rfl (lv_at hl 1 rfl) (qg_X9_27 hx hb hts i_X9 hown hK hP74 0 rfl k_8 fr_fz_p0_27 dX9_readKnot_149 (lv_iload_n hx hb dX9_readKnot_152 rfl (lv_at hl 0 rfl) (lv_dup2_11 hx hb dX9_readKnot_153 rfl rfl (q_ild hx hb hK hP74 1 0 rfl rfl (q_in (by omega) (by omega)) dX9_readKnot_154 (fun v_75 ev_75 => ?_)))))
                    have uv_75 : v_75.toInt = (bz_p0_crossings v_3.toNatClampNeg).toInt := by rw [ev_75]
                    have tv_75 := q_rd' hr_bz_p0_crossings (q_in (by omega) (by omega)) ev_75
                    refine lv_iconst (v := 1) hx hb dX9_readKnot_155 (by decide) (lv_iadd hx hb dX9_readKnot_156 (lv_topi fun v_76 ev_76 => ?_))
                    have tv_76 := q_add ev_76 (by omega) (by omega)
                    refine q_ist hx hb hK hP74 hDa za_r_readKnot hS74 1 0 rfl rfl (q_in (by omega) (by omega)) dX9_readKnot_157 (fun H77 lo77 g77 eg77 (hP77 : va_P (dC, dI) vwCl (zW_r_readKnot p0 fz_p0 p0_crossings c_p0_crossings g77 p0_kName c_p0_kName g21 p0_knots c_p0_knots b_p0_knots p0_sides c_p0_sides g74 p0_text c_p0_text b_p0_text) H77) hS77 => ?_)
                    clear hP74 hS74
                    have hr_g77 := q_up' hr_bz_p0_crossings eg77 ⟨by omega, by omega⟩
                    have usg77 : (g77 v_3.toNatClampNeg).toInt = v_76.toInt := by rw [eg77, pk_us]
                    refine lv_aload_n hx hb dX9_readKnot_158 rfl (lv_at hl 1 rfl) ?_
                    refine q_cVv (As := []) (rest := []) q_w0 trivial hK hP77 hDa za_r_readKnot hS77 hA [0, 5] [4] (by decide +kernel) ⟨hx, hb, hml, hown, hts⟩ (r_goOn l dC dI H77.size p0 fz_p0 p0_text c_p0_text b_p0_text env siz ho_fz_p0 fr_fz_p0_1 fv_fz_p0_7 fh_fz_p0_3 ((by omega))) rfl rfl (cwV 0 hts (p1_gV m_19 m_20 m_21 m_6 g_r_goOn gz_r_goOn) rfl rfl rfl (by decide +kernel) ⟨by decide, by decide⟩) (va_recv hK hP77 (ci := 8) (q0 := 0) rfl rfl) zm_r_goOn rfl hl.1 rfl (Nat.le_of_ble_eq_true rfl) dX9_readKnot_159 ⟨by decide, by decide⟩ (fun H79 lo79 hG79 hS79 => ?_)
                    obtain ⟨o_80, o_81, o_82, o_83, ho_84, hf_85, z_86, z_87, z_88, z_89, hQ79⟩ := hG79
                    have to_81 := (OKX9_g6 ho_84).use z_86
                    have to_82 := (OKX9_g7 ho_84).use z_87
                    have to_83 := (OKX9_g8 ho_84).use z_88
                    have hP79 : va_P (dC, dI) vwCl (zW_r_readKnot p0 o_80 p0_crossings c_p0_crossings g77 p0_kName c_p0_kName g21 p0_knots c_p0_knots b_p0_knots p0_sides c_p0_sides g74 p0_text c_p0_text b_p0_text) H79 := hQ79
                    clear hQ79 hP77 hS77
                    refine lv_goto (tgt := 80) hx hb dX9_readKnot_162 (by decide) ?_
                    exact ih80 (fu80 - 1) (by omega) o_80 fkv o_81 o_82 o_83 g77 g74 _ _ _ (by omega) ho_84 (hf_fz_p0.tr hf_85 (by decide)) (hf_85.u (by decide) fr_fz_p0_1) (hf_85.u (by decide) fh_fz_p0_3) (hf_85.u (by decide) fv_fz_p0_4) (by omega) z_86 (by omega) z_87 (by omega) z_88 (by omega) (hf_85.u (by decide) fr_fz_p0_11) (hf_85.u (by decide) fr_fz_p0_21) (hf_85.u (by decide) fr_fz_p0_26) (hf_85.u (by decide) fr_fz_p0_27) (hf_85.u (by decide) fh_fz_p0_44) hr_g77 (by omega) (by omega) hP79 hS79 (lv_sub hl [0, 1] rfl)
                · exfalso; omega
              · have tc_42 := q_eqN c_42
                refine lv_aload_n hx hb dX9_readKnot_105 rfl (lv_at hl 1 rfl) ?_
                refine q_cVv (As := []) (rest := []) q_w0 trivial hK hP38 hDa za_r_readKnot hS38 hA [0] [] (by decide +kernel) ⟨hx, hb, hml, hown, hts⟩ (r_misplaced l dC dI H38.size p0 fz_p0 ho_fz_p0) rfl rfl (cwV 0 hts (p1_gV m_22 m_23 m_24 m_6 g_r_misplaced gz_r_misplaced) rfl rfl rfl (by decide +kernel) ⟨by decide, by decide⟩) (va_recv hK hP38 (ci := 8) (q0 := 0) rfl rfl) zm_r_misplaced rfl hl.1 rfl (Nat.le_of_ble_eq_true rfl) dX9_readKnot_106 ⟨by decide, by decide⟩ (fun H91 lo91 hG91 hS91 => ?_)
                obtain ⟨o_92, o_93, ho_94, hf_95, z_96, z_97, hQ91⟩ := hG91
                have to_93 := (OKX9_g4 ho_94).use z_96
                have hP91 : va_P (dC, dI) vwCl (zW_r_readKnot p0 o_92 p0_crossings c_p0_crossings bz_p0_crossings p0_kName c_p0_kName g21 p0_knots c_p0_knots b_p0_knots p0_sides c_p0_sides bz_p0_sides p0_text c_p0_text b_p0_text) H91 := hQ91
                clear hQ91 hP38 hS38
                refine lv_aload_n hx hb dX9_readKnot_109 rfl (lv_at hl 1 rfl) ?_
                refine q_cVi (As := []) (rest := []) q_w0 trivial hK hP91 hDa za_r_readKnot hS91 hA [0] [] (by decide +kernel) ⟨hx, hb, hml, hown, hts⟩ (r_isGood l dC dI H91.size p0 o_92 o_93 ho_94 z_96) rfl rfl (cwV 0 hts (p1_gV m_9 m_10 m_11 m_6 g_r_isGood gz_r_isGood) rfl rfl rfl (by decide +kernel) ⟨by decide, by decide⟩) (va_recv hK hP91 (ci := 8) (q0 := 0) rfl rfl) zm_r_isGood rfl hl.1 rfl (Nat.le_of_ble_eq_true rfl) dX9_readKnot_110 ⟨by decide, by decide⟩ (fun r_98 H99 lo99 hG99 hS99 => ?_)
                obtain ⟨z_100, hQ99⟩ := hG99
                have hP99 : va_P (dC, dI) vwCl (zW_r_readKnot p0 o_92 p0_crossings c_p0_crossings bz_p0_crossings p0_kName c_p0_kName g21 p0_knots c_p0_knots b_p0_knots p0_sides c_p0_sides bz_p0_sides p0_text c_p0_text b_p0_text) H99 := hQ99
                clear hQ99 hP91 hS91
                rcases z_100 with ⟨rfl, z_100⟩ | ⟨rfl, z_100⟩
                · exfalso; omega
                · refine lv_if_ne (tgt := 117) hx hb dX9_readKnot_113 (by decide) (fun c_101 => absurd c_101 (by decide)) (fun c_101 => ?_)
                  exact q_vret hx hb hr hlocks hS99 dX9_readKnot_116 ⟨o_92, bz_p0_crossings, g21, b_p0_knots, bz_p0_sides, atv, env, tkv, o_93, ho_94, (hf_fz_p0.tr hf_95 (by decide)), hr_bz_p0_crossings, hr_p0_knots, (hf_95.u (by decide) fv_fz_p0_6), (hf_95.u (by decide) fv_fz_p0_7), (hf_95.u (by decide) fv_fz_p0_8), z_96, (by omega), (by omega), hP99, za_r_readKnot⟩
            · refine lv_if_eq (tgt := 165) hx hb dX9_readKnot_91 (by decide) (fun c_102 => ?_) (fun c_102 => absurd c_102 (by decide))
              refine lv_aload_n hx hb dX9_readKnot_165 rfl (lv_at hl 1 rfl) (qg_X9_11 hx hb hts i_X9 hown hK hP38 0 rfl k_1 fr_fz_p0_11 dX9_readKnot_166 (lv_aload_n hx hb dX9_readKnot_169 rfl (lv_at hl 1 rfl) (qg_X9_44 hx hb hts i_X9 hown hK hP38 0 rfl k_0 fh_fz_p0_44 dX9_readKnot_170 (lv_dup2_11 hx hb dX9_readKnot_173 rfl rfl (q_ild hx hb hK hP38 3 2 rfl rfl (q_in (by omega) (by omega)) dX9_readKnot_174 (fun v_103 ev_103 => ?_))))))
              have uv_103 : v_103.toInt = (b_p0_knots rb.toNatClampNeg).toInt := by rw [ev_103]
              have tv_103 := q_rd' hr_p0_knots (q_in (by omega) (by omega)) ev_103
              refine lv_iconst (v := 1) hx hb dX9_readKnot_175 (by decide) (lv_iadd hx hb dX9_readKnot_176 (lv_topi fun v_104 ev_104 => ?_))
              have tv_104 := q_add ev_104 (by omega) (by omega)
              refine q_ist hx hb hK hP38 hDa za_r_readKnot hS38 3 2 rfl rfl (q_in (by omega) (by omega)) dX9_readKnot_177 (fun H105 lo105 g105 eg105 (hP105 : va_P (dC, dI) vwCl (zW_r_readKnot p0 fz_p0 p0_crossings c_p0_crossings bz_p0_crossings p0_kName c_p0_kName g21 p0_knots c_p0_knots g105 p0_sides c_p0_sides bz_p0_sides p0_text c_p0_text b_p0_text) H105) hS105 => ?_)
              clear hP38 hS38
              have hr_g105 := q_up' hr_p0_knots eg105 ⟨by omega, by omega⟩
              exact q_vret hx hb hr hlocks hS105 dX9_readKnot_178 ⟨fz_p0, bz_p0_crossings, g21, g105, bz_p0_sides, atv, env, tkv, fkv, ho_fz_p0, hf_fz_p0, hr_bz_p0_crossings, hr_g105, fv_fz_p0_6, fv_fz_p0_7, fv_fz_p0_8, fv_fz_p0_4, (by omega), (by omega), hP105, za_r_readKnot⟩
          · refine lv_if_eq (tgt := 165) hx hb dX9_readKnot_84 (by decide) (fun c_106 => ?_) (fun c_106 => absurd c_106 (by decide))
            refine lv_aload_n hx hb dX9_readKnot_165 rfl (lv_at hl 1 rfl) (qg_X9_11 hx hb hts i_X9 hown hK hP34 0 rfl k_1 fr_fz_p0_11 dX9_readKnot_166 (lv_aload_n hx hb dX9_readKnot_169 rfl (lv_at hl 1 rfl) (qg_X9_44 hx hb hts i_X9 hown hK hP34 0 rfl k_0 fh_fz_p0_44 dX9_readKnot_170 (lv_dup2_11 hx hb dX9_readKnot_173 rfl rfl (q_ild hx hb hK hP34 3 2 rfl rfl (q_in (by omega) (by omega)) dX9_readKnot_174 (fun v_107 ev_107 => ?_))))))
            have uv_107 : v_107.toInt = (b_p0_knots rb.toNatClampNeg).toInt := by rw [ev_107]
            have tv_107 := q_rd' hr_p0_knots (q_in (by omega) (by omega)) ev_107
            refine lv_iconst (v := 1) hx hb dX9_readKnot_175 (by decide) (lv_iadd hx hb dX9_readKnot_176 (lv_topi fun v_108 ev_108 => ?_))
            have tv_108 := q_add ev_108 (by omega) (by omega)
            refine q_ist hx hb hK hP34 hDa za_r_readKnot hS34 3 2 rfl rfl (q_in (by omega) (by omega)) dX9_readKnot_177 (fun H109 lo109 g109 eg109 (hP109 : va_P (dC, dI) vwCl (zW_r_readKnot p0 fz_p0 p0_crossings c_p0_crossings bz_p0_crossings p0_kName c_p0_kName g21 p0_knots c_p0_knots g109 p0_sides c_p0_sides bz_p0_sides p0_text c_p0_text b_p0_text) H109) hS109 => ?_)
            clear hP34 hS34
            have hr_g109 := q_up' hr_p0_knots eg109 ⟨by omega, by omega⟩
            exact q_vret hx hb hr hlocks hS109 dX9_readKnot_178 ⟨fz_p0, bz_p0_crossings, g21, g109, bz_p0_sides, atv, env, tkv, fkv, ho_fz_p0, hf_fz_p0, hr_bz_p0_crossings, hr_g109, fv_fz_p0_6, fv_fz_p0_7, fv_fz_p0_8, fv_fz_p0_4, (by omega), (by omega), hP109, za_r_readKnot⟩
      exact key80 13 o_8 o_12 o_9 o_10 o_11 g23 g22 _ _ _ (by omega) ho_13 (q_fr.rf.tr hf_14 (by decide)) (hf_14.u (by decide) fr_p0_1) (hf_14.u (by decide) pf_siz) z_18 (by omega) z_15 (by omega) z_16 (by omega) z_17 (by omega) (hf_14.u (by decide) fr_p0_11) (hf_14.u (by decide) fr_p0_21) (hf_14.u (by decide) fr_p0_26) (hf_14.u (by decide) fr_p0_27) (hf_14.u (by decide) pf_rb) hr_g23 (by omega) (by omega) hP29 hS29 (lv_sub hl [0, 1] rfl)
    · refine lv_if_ne (tgt := 80) hx hb dX9_readKnot_73 (by decide) (fun c_110 => absurd c_110 (by decide)) (fun c_110 => ?_)
      refine lv_aload_n hx hb dX9_readKnot_76 rfl (lv_at hl 1 rfl) ?_
      refine q_cVv (As := []) (rest := []) q_w0 trivial hK hP29 hDa za_r_readKnot hS29 hA [0] [] (by decide +kernel) ⟨hx, hb, hml, hown, hts⟩ (r_misplaced l dC dI H29.size p0 o_8 ho_13) rfl rfl (cwV 0 hts (p1_gV m_22 m_23 m_24 m_6 g_r_misplaced gz_r_misplaced) rfl rfl rfl (by decide +kernel) ⟨by decide, by decide⟩) (va_recv hK hP29 (ci := 8) (q0 := 0) rfl rfl) zm_r_misplaced rfl hl.1 rfl (Nat.le_of_ble_eq_true rfl) dX9_readKnot_77 ⟨by decide, by decide⟩ (fun H112 lo112 hG112 hS112 => ?_)
      obtain ⟨o_113, o_114, ho_115, hf_116, z_117, z_118, hQ112⟩ := hG112
      have to_114 := (OKX9_g4 ho_115).use z_117
      have hP112 : va_P (dC, dI) vwCl (zW_r_readKnot p0 o_113 p0_crossings c_p0_crossings g23 p0_kName c_p0_kName g21 p0_knots c_p0_knots b_p0_knots p0_sides c_p0_sides g22 p0_text c_p0_text b_p0_text) H112 := hQ112
      clear hQ112 hP29 hS29
      have key80 : ∀ (fu80 : Nat) (fz_p0 : List Value) (fkv : Int32) (atv : Int32) (env : Int32) (tkv : Int32) (bz_p0_crossings : Nat → Int32) (bz_p0_sides : Nat → Int32) (H : Heap) (locs : List Loc) (ls : Array Slot) (hfu80 : 13 - (bz_p0_crossings v_3.toNatClampNeg).toInt ≤ (fu80 : Int)) (ho_fz_p0 : OKX9 fz_p0) (hf_fz_p0 : q_fr [4, 5, 6, 7, 8, 9, 10] f_p0 fz_p0) (fr_fz_p0_1 : q_rf fz_p0 1 p0_text) (fh_fz_p0_3 : q_if fz_p0 3 siz) (fv_fz_p0_4 : q_if fz_p0 4 fkv) (tfkv : (0) ≤ fkv.toInt ∧ fkv.toInt ≤ 4) (fv_fz_p0_6 : q_if fz_p0 6 atv) (tatv : (0) ≤ atv.toInt ∧ atv.toInt ≤ 1600) (fv_fz_p0_7 : q_if fz_p0 7 env) (tenv : (0) ≤ env.toInt ∧ env.toInt ≤ 1601) (fv_fz_p0_8 : q_if fz_p0 8 tkv) (ttkv : (0) ≤ tkv.toInt ∧ tkv.toInt ≤ 5) (fr_fz_p0_11 : q_rf fz_p0 11 p0_knots) (fr_fz_p0_21 : q_rf fz_p0 21 p0_kName) (fr_fz_p0_26 : q_rf fz_p0 26 p0_sides) (fr_fz_p0_27 : q_rf fz_p0 27 p0_crossings) (fh_fz_p0_44 : q_if fz_p0 44 rb) (hr_bz_p0_crossings : q_rg 12 (0) 12 bz_p0_crossings) (hq80_0 : env.toInt ≤ siz.toInt ∧ at0.toInt ≤ atv.toInt ∧ atv.toInt ≤ env.toInt ∧ (tkv.toInt ≠ 3 ∨ atv.toInt < env.toInt)) (hq80_1 : fk.toInt = 0 ∨ 1 ≤ fkv.toInt), va_P (dC, dI) vwCl (zW_r_readKnot p0 fz_p0 p0_crossings c_p0_crossings bz_p0_crossings p0_kName c_p0_kName g21 p0_knots c_p0_knots b_p0_knots p0_sides c_p0_sides bz_p0_sides p0_text c_p0_text b_p0_text) H → va_S A s.heap H locs → lv_has ls 2 [(1, .int v_3), (0, .ref p0)] → W p l e (headSpec zw_r_readKnot { frames := 3, cells := 0, slots := 0, locals := 69 }).room s m ([.ref p0] : List Value).toArray below meth c H locs 0 0 (MQ below (q_Qv (dC, dI) (zG_r_readKnot p0 f_p0 p0_crossings c_p0_crossings b_p0_crossings p0_kName c_p0_kName b_p0_kName p0_knots c_p0_knots b_p0_knots p0_sides c_p0_sides b_p0_sides p0_text c_p0_text b_p0_text at0 en tk siz fk rb) (zA_r_readKnot p0 p0_crossings p0_kName p0_knots p0_sides p0_text) A) ([.ref p0] : List Value).toArray s 0 0 A) (F0 m 80 ls []) := by
        intro fu80
        induction fu80 using Nat.strongRecOn with
        | ind fu80 ih80 =>
          intro fz_p0 fkv atv env tkv bz_p0_crossings bz_p0_sides H119 lo119 ls hfu80 ho_fz_p0 hf_fz_p0 fr_fz_p0_1 fh_fz_p0_3 fv_fz_p0_4 tfkv fv_fz_p0_6 tatv fv_fz_p0_7 tenv fv_fz_p0_8 ttkv fr_fz_p0_11 fr_fz_p0_21 fr_fz_p0_26 fr_fz_p0_27 fh_fz_p0_44 hr_bz_p0_crossings hq80_0 hq80_1 hP119 hS119 hl
          refine lv_aload_n hx hb dX9_readKnot_80 rfl (lv_at hl 1 rfl) ?_
          refine q_cVi (As := []) (rest := []) q_w0 trivial hK hP119 hDa za_r_readKnot hS119 hA [0] [] (by decide +kernel) ⟨hx, hb, hml, hown, hts⟩ (r_isGood l dC dI H119.size p0 fz_p0 fkv ho_fz_p0 fv_fz_p0_4) rfl rfl (cwV 0 hts (p1_gV m_9 m_10 m_11 m_6 g_r_isGood gz_r_isGood) rfl rfl rfl (by decide +kernel) ⟨by decide, by decide⟩) (va_recv hK hP119 (ci := 8) (q0 := 0) rfl rfl) zm_r_isGood rfl hl.1 rfl (Nat.le_of_ble_eq_true rfl) dX9_readKnot_81 ⟨by decide, by decide⟩ (fun r_120 H121 lo121 hG121 hS121 => ?_)
          obtain ⟨z_122, hQ121⟩ := hG121
          have hP121 : va_P (dC, dI) vwCl (zW_r_readKnot p0 fz_p0 p0_crossings c_p0_crossings bz_p0_crossings p0_kName c_p0_kName g21 p0_knots c_p0_knots b_p0_knots p0_sides c_p0_sides bz_p0_sides p0_text c_p0_text b_p0_text) H121 := hQ121
          clear hQ121 hP119 hS119
          rcases z_122 with ⟨rfl, z_122⟩ | ⟨rfl, z_122⟩
          · refine lv_if_eq (tgt := 165) hx hb dX9_readKnot_84 (by decide) (fun c_123 => absurd c_123 (by decide)) (fun c_123 => ?_)
            refine lv_aload_n hx hb dX9_readKnot_87 rfl (lv_at hl 1 rfl) ?_
            refine q_cVi (As := []) (rest := []) q_w0 trivial hK hP121 hDa za_r_readKnot hS121 hA [0] [] (by decide +kernel) ⟨hx, hb, hml, hown, hts⟩ (r_isSide l dC dI H121.size p0 fz_p0 ho_fz_p0) rfl rfl (cwV 0 hts (p1_gV m_12 m_13 m_14 m_6 g_r_isSide gz_r_isSide) rfl rfl rfl (by decide +kernel) ⟨by decide, by decide⟩) (va_recv hK hP121 (ci := 8) (q0 := 0) rfl rfl) zm_r_isSide rfl hl.1 rfl (Nat.le_of_ble_eq_true rfl) dX9_readKnot_88 ⟨by decide, by decide⟩ (fun r_124 H125 lo125 hG125 hS125 => ?_)
            obtain ⟨z_126, hQ125⟩ := hG125
            have hP125 : va_P (dC, dI) vwCl (zW_r_readKnot p0 fz_p0 p0_crossings c_p0_crossings bz_p0_crossings p0_kName c_p0_kName g21 p0_knots c_p0_knots b_p0_knots p0_sides c_p0_sides bz_p0_sides p0_text c_p0_text b_p0_text) H125 := hQ125
            clear hQ125 hP121 hS121
            rcases z_126 with ⟨rfl, z_126⟩ | ⟨rfl, z_126⟩
            · refine lv_if_eq (tgt := 165) hx hb dX9_readKnot_91 (by decide) (fun c_127 => absurd c_127 (by decide)) (fun c_127 => ?_)
              refine lv_aload_n hx hb dX9_readKnot_94 rfl (lv_at hl 1 rfl) (qg_X9_27 hx hb hts i_X9 hown hK hP125 0 rfl k_8 fr_fz_p0_27 dX9_readKnot_95 (lv_iload_n hx hb dX9_readKnot_98 rfl (lv_at hl 0 rfl) (q_ild hx hb hK hP125 1 0 rfl rfl (q_in (by omega) (by omega)) dX9_readKnot_99 (fun v_128 ev_128 => ?_))))
              have uv_128 : v_128.toInt = (bz_p0_crossings v_3.toNatClampNeg).toInt := by rw [ev_128]
              have tv_128 := q_rd' hr_bz_p0_crossings (q_in (by omega) (by omega)) ev_128
              refine lv_bipush (v := 12) hx hb dX9_readKnot_100 (by decide) ?_
              refine lv_icmp_ne (tgt := 109) hx hb dX9_readKnot_102 (by decide) (fun c_129 => ?_) (fun c_129 => ?_)
              · have tc_129 := q_ne c_129
                refine lv_aload_n hx hb dX9_readKnot_109 rfl (lv_at hl 1 rfl) ?_
                refine q_cVi (As := []) (rest := []) q_w0 trivial hK hP125 hDa za_r_readKnot hS125 hA [0] [] (by decide +kernel) ⟨hx, hb, hml, hown, hts⟩ (r_isGood l dC dI H125.size p0 fz_p0 fkv ho_fz_p0 fv_fz_p0_4) rfl rfl (cwV 0 hts (p1_gV m_9 m_10 m_11 m_6 g_r_isGood gz_r_isGood) rfl rfl rfl (by decide +kernel) ⟨by decide, by decide⟩) (va_recv hK hP125 (ci := 8) (q0 := 0) rfl rfl) zm_r_isGood rfl hl.1 rfl (Nat.le_of_ble_eq_true rfl) dX9_readKnot_110 ⟨by decide, by decide⟩ (fun r_130 H131 lo131 hG131 hS131 => ?_)
                obtain ⟨z_132, hQ131⟩ := hG131
                have hP131 : va_P (dC, dI) vwCl (zW_r_readKnot p0 fz_p0 p0_crossings c_p0_crossings bz_p0_crossings p0_kName c_p0_kName g21 p0_knots c_p0_knots b_p0_knots p0_sides c_p0_sides bz_p0_sides p0_text c_p0_text b_p0_text) H131 := hQ131
                clear hQ131 hP125 hS125
                rcases z_132 with ⟨rfl, z_132⟩ | ⟨rfl, z_132⟩
                · refine lv_if_ne (tgt := 117) hx hb dX9_readKnot_113 (by decide) (fun c_133 => ?_) (fun c_133 => absurd c_133 (by decide))
                  refine lv_aload_n hx hb dX9_readKnot_117 rfl (lv_at hl 1 rfl) (qg_X9_26 hx hb hts i_X9 hown hK hP131 0 rfl k_7 fr_fz_p0_26 dX9_readKnot_118 (lv_iload_n hx hb dX9_readKnot_121 rfl (lv_at hl 0 rfl) (lv_dup2_11 hx hb dX9_readKnot_122 rfl rfl (q_ild hx hb hK hP131 4 3 rfl rfl (q_in (by omega) (by omega)) dX9_readKnot_123 (fun v_134 ev_134 => ?_)))))
                  refine lv_aload_n hx hb dX9_readKnot_124 rfl (lv_at hl 1 rfl) (lv_ldc2 (v := 504363246962) hx hb hown k_15 dX9_readKnot_125 ?_)
                  obtain ⟨v_135, fv_135⟩ := OKX9_g10 ho_fz_p0
                  refine q_cVi (As := [.long 504363246962]) (rest := [.int v_134, .int v_3, .ref p0_sides]) q_w0 trivial hK hP131 hDa za_r_readKnot hS131 hA [0] [] (by decide +kernel) ⟨hx, hb, hml, hown, hts⟩ (r_isWord l dC dI H131.size p0 fz_p0 504363246962 tkv v_135 ho_fz_p0 fv_fz_p0_8 fv_135) rfl rfl (cwV 1 hts (p1_gV m_16 m_17 m_18 m_6 g_r_isWord gz_r_isWord) rfl rfl rfl (by decide +kernel) ⟨by decide, by decide⟩) (va_recv hK hP131 (ci := 8) (q0 := 0) rfl rfl) zm_r_isWord rfl hl.1 rfl (Nat.le_of_ble_eq_true rfl) dX9_readKnot_128 ⟨by decide, by decide⟩ (fun r_136 H137 lo137 hG137 hS137 => ?_)
                  obtain ⟨z_138, hQ137⟩ := hG137
                  have hP137 : va_P (dC, dI) vwCl (zW_r_readKnot p0 fz_p0 p0_crossings c_p0_crossings bz_p0_crossings p0_kName c_p0_kName g21 p0_knots c_p0_knots b_p0_knots p0_sides c_p0_sides bz_p0_sides p0_text c_p0_text b_p0_text) H137 := hQ137
                  clear hQ137 hP131 hS131
                  rcases z_138 with ⟨rfl, z_138⟩ | ⟨rfl, z_138⟩
                  · refine lv_if_eq (tgt := 145) hx hb dX9_readKnot_131 (by decide) (fun c_139 => absurd c_139 (by decide)) (fun c_139 => ?_)
                    refine lv_iconst (v := 1) hx hb dX9_readKnot_134 (by decide) (lv_aload_n hx hb dX9_readKnot_135 rfl (lv_at hl 1 rfl) (qg_X9_27 hx hb hts i_X9 hown hK hP137 0 rfl k_8 fr_fz_p0_27 dX9_readKnot_136 (lv_iload_n hx hb dX9_readKnot_139 rfl (lv_at hl 0 rfl) (q_ild hx hb hK hP137 1 0 rfl rfl (q_in (by omega) (by omega)) dX9_readKnot_140 (fun v_140 ev_140 => ?_)))))
                    have uv_140 : v_140.toInt = (bz_p0_crossings v_3.toNatClampNeg).toInt := by rw [ev_140]
                    have tv_140 := q_rd' hr_bz_p0_crossings (q_in (by omega) (by omega)) ev_140
                    refine lv_ishl hx hb dX9_readKnot_141 (lv_topi fun v_141 ev_141 => ?_)
                    have tv_141 : 1 ≤ v_141.toInt ∧ v_141.toInt ≤ 4096 := q_shl1 (k := 12) ev_141 (by omega) (by omega) (by decide)
                    refine lv_goto (tgt := 146) hx hb dX9_readKnot_142 (by decide) (lv_ior hx hb dX9_readKnot_146 (lv_topi fun v_142 ev_142 => q_ist hx hb hK hP137 hDa za_r_readKnot hS137 4 3 rfl rfl (q_in (by omega) (by omega)) dX9_readKnot_147 (fun H143 lo143 g143 eg143 (hP143 : va_P (dC, dI) vwCl (zW_r_readKnot p0 fz_p0 p0_crossings c_p0_crossings bz_p0_crossings p0_kName c_p0_kName g21 p0_knots c_p0_knots b_p0_knots p0_sides c_p0_sides g143 p0_text c_p0_text b_p0_text) H143) hS143 => ?_)))
                    clear hP137 hS137
                    refine lv_aload_n hx hb dX9_readKnot_148 rfl (lv_at hl 1 rfl) (qg_X9_27 hx hb hts i_X9 hown hK hP143 0 rfl k_8 fr_fz_p0_27 dX9_readKnot_149 (lv_iload_n hx hb dX9_readKnot_152 rfl (lv_at hl 0 rfl) (lv_dup2_11 hx hb dX9_readKnot_153 rfl rfl (q_ild hx hb hK hP143 1 0 rfl rfl (q_in (by omega) (by omega)) dX9_readKnot_154 (fun v_144 ev_144 => ?_)))))
                    have uv_144 : v_144.toInt = (bz_p0_crossings v_3.toNatClampNeg).toInt := by rw [ev_144]
                    have tv_144 := q_rd' hr_bz_p0_crossings (q_in (by omega) (by omega)) ev_144
                    refine lv_iconst (v := 1) hx hb dX9_readKnot_155 (by decide) (lv_iadd hx hb dX9_readKnot_156 (lv_topi fun v_145 ev_145 => ?_))
                    have tv_145 := q_add ev_145 (by omega) (by omega)
                    refine q_ist hx hb hK hP143 hDa za_r_readKnot hS143 1 0 rfl rfl (q_in (by omega) (by omega)) dX9_readKnot_157 (fun H146 lo146 g146 eg146 (hP146 : va_P (dC, dI) vwCl (zW_r_readKnot p0 fz_p0 p0_crossings c_p0_crossings g146 p0_kName c_p0_kName g21 p0_knots c_p0_knots b_p0_knots p0_sides c_p0_sides g143 p0_text c_p0_text b_p0_text) H146) hS146 => ?_)
                    clear hP143 hS143
                    have hr_g146 := q_up' hr_bz_p0_crossings eg146 ⟨by omega, by omega⟩
                    have usg146 : (g146 v_3.toNatClampNeg).toInt = v_145.toInt := by rw [eg146, pk_us]
                    refine lv_aload_n hx hb dX9_readKnot_158 rfl (lv_at hl 1 rfl) ?_
                    refine q_cVv (As := []) (rest := []) q_w0 trivial hK hP146 hDa za_r_readKnot hS146 hA [0, 5] [4] (by decide +kernel) ⟨hx, hb, hml, hown, hts⟩ (r_goOn l dC dI H146.size p0 fz_p0 p0_text c_p0_text b_p0_text env siz ho_fz_p0 fr_fz_p0_1 fv_fz_p0_7 fh_fz_p0_3 ((by omega))) rfl rfl (cwV 0 hts (p1_gV m_19 m_20 m_21 m_6 g_r_goOn gz_r_goOn) rfl rfl rfl (by decide +kernel) ⟨by decide, by decide⟩) (va_recv hK hP146 (ci := 8) (q0 := 0) rfl rfl) zm_r_goOn rfl hl.1 rfl (Nat.le_of_ble_eq_true rfl) dX9_readKnot_159 ⟨by decide, by decide⟩ (fun H148 lo148 hG148 hS148 => ?_)
                    obtain ⟨o_149, o_150, o_151, o_152, ho_153, hf_154, z_155, z_156, z_157, z_158, hQ148⟩ := hG148
                    have to_150 := (OKX9_g6 ho_153).use z_155
                    have to_151 := (OKX9_g7 ho_153).use z_156
                    have to_152 := (OKX9_g8 ho_153).use z_157
                    have hP148 : va_P (dC, dI) vwCl (zW_r_readKnot p0 o_149 p0_crossings c_p0_crossings g146 p0_kName c_p0_kName g21 p0_knots c_p0_knots b_p0_knots p0_sides c_p0_sides g143 p0_text c_p0_text b_p0_text) H148 := hQ148
                    clear hQ148 hP146 hS146
                    refine lv_goto (tgt := 80) hx hb dX9_readKnot_162 (by decide) ?_
                    exact ih80 (fu80 - 1) (by omega) o_149 fkv o_150 o_151 o_152 g146 g143 _ _ _ (by omega) ho_153 (hf_fz_p0.tr hf_154 (by decide)) (hf_154.u (by decide) fr_fz_p0_1) (hf_154.u (by decide) fh_fz_p0_3) (hf_154.u (by decide) fv_fz_p0_4) (by omega) z_155 (by omega) z_156 (by omega) z_157 (by omega) (hf_154.u (by decide) fr_fz_p0_11) (hf_154.u (by decide) fr_fz_p0_21) (hf_154.u (by decide) fr_fz_p0_26) (hf_154.u (by decide) fr_fz_p0_27) (hf_154.u (by decide) fh_fz_p0_44) hr_g146 (by omega) (by omega) hP148 hS148 (lv_sub hl [0, 1] rfl)
                  · refine lv_if_eq (tgt := 145) hx hb dX9_readKnot_131 (by decide) (fun c_159 => ?_) (fun c_159 => absurd c_159 (by decide))
                    refine lv_iconst (v := 0) hx hb dX9_readKnot_145 (by decide) (lv_ior hx hb dX9_readKnot_146 (lv_topi fun v_160 ev_160 => q_ist hx hb hK hP137 hDa za_r_readKnot hS137 4 3 rfl rfl (q_in (by omega) (by omega)) dX9_readKnot_147 (fun H161 lo161 g161 eg161 (hP161 : va_P (dC, dI) vwCl (zW_r_readKnot p0 fz_p0 p0_crossings c_p0_crossings bz_p0_crossings p0_kName c_p0_kName g21 p0_knots c_p0_knots b_p0_knots p0_sides c_p0_sides g161 p0_text c_p0_text b_p0_text) H161) hS161 => ?_)))
                    clear hP137 hS137
                    refine lv_aload_n hx hb dX9_readKnot_148 rfl (lv_at hl 1 rfl) (qg_X9_27 hx hb hts i_X9 hown hK hP161 0 rfl k_8 fr_fz_p0_27 dX9_readKnot_149 (lv_iload_n hx hb dX9_readKnot_152 rfl (lv_at hl 0 rfl) (lv_dup2_11 hx hb dX9_readKnot_153 rfl rfl (q_ild hx hb hK hP161 1 0 rfl rfl (q_in (by omega) (by omega)) dX9_readKnot_154 (fun v_162 ev_162 => ?_)))))
                    have uv_162 : v_162.toInt = (bz_p0_crossings v_3.toNatClampNeg).toInt := by rw [ev_162]
                    have tv_162 := q_rd' hr_bz_p0_crossings (q_in (by omega) (by omega)) ev_162
                    refine lv_iconst (v := 1) hx hb dX9_readKnot_155 (by decide) (lv_iadd hx hb dX9_readKnot_156 (lv_topi fun v_163 ev_163 => ?_))
                    have tv_163 := q_add ev_163 (by omega) (by omega)
                    refine q_ist hx hb hK hP161 hDa za_r_readKnot hS161 1 0 rfl rfl (q_in (by omega) (by omega)) dX9_readKnot_157 (fun H164 lo164 g164 eg164 (hP164 : va_P (dC, dI) vwCl (zW_r_readKnot p0 fz_p0 p0_crossings c_p0_crossings g164 p0_kName c_p0_kName g21 p0_knots c_p0_knots b_p0_knots p0_sides c_p0_sides g161 p0_text c_p0_text b_p0_text) H164) hS164 => ?_)
                    clear hP161 hS161
                    have hr_g164 := q_up' hr_bz_p0_crossings eg164 ⟨by omega, by omega⟩
                    have usg164 : (g164 v_3.toNatClampNeg).toInt = v_163.toInt := by rw [eg164, pk_us]
                    refine lv_aload_n hx hb dX9_readKnot_158 rfl (lv_at hl 1 rfl) ?_
                    refine q_cVv (As := []) (rest := []) q_w0 trivial hK hP164 hDa za_r_readKnot hS164 hA [0, 5] [4] (by decide +kernel) ⟨hx, hb, hml, hown, hts⟩ (r_goOn l dC dI H164.size p0 fz_p0 p0_text c_p0_text b_p0_text env siz ho_fz_p0 fr_fz_p0_1 fv_fz_p0_7 fh_fz_p0_3 ((by omega))) rfl rfl (cwV 0 hts (p1_gV m_19 m_20 m_21 m_6 g_r_goOn gz_r_goOn) rfl rfl rfl (by decide +kernel) ⟨by decide, by decide⟩) (va_recv hK hP164 (ci := 8) (q0 := 0) rfl rfl) zm_r_goOn rfl hl.1 rfl (Nat.le_of_ble_eq_true rfl) dX9_readKnot_159 ⟨by decide, by decide⟩ (fun H166 lo166 hG166 hS166 => ?_)
                    obtain ⟨o_167, o_168, o_169, o_170, ho_171, hf_172, z_173, z_174, z_175, z_176, hQ166⟩ := hG166
                    have to_168 := (OKX9_g6 ho_171).use z_173
                    have to_169 := (OKX9_g7 ho_171).use z_174
                    have to_170 := (OKX9_g8 ho_171).use z_175
                    have hP166 : va_P (dC, dI) vwCl (zW_r_readKnot p0 o_167 p0_crossings c_p0_crossings g164 p0_kName c_p0_kName g21 p0_knots c_p0_knots b_p0_knots p0_sides c_p0_sides g161 p0_text c_p0_text b_p0_text) H166 := hQ166
                    clear hQ166 hP164 hS164
                    refine lv_goto (tgt := 80) hx hb dX9_readKnot_162 (by decide) ?_
                    exact ih80 (fu80 - 1) (by omega) o_167 fkv o_168 o_169 o_170 g164 g161 _ _ _ (by omega) ho_171 (hf_fz_p0.tr hf_172 (by decide)) (hf_172.u (by decide) fr_fz_p0_1) (hf_172.u (by decide) fh_fz_p0_3) (hf_172.u (by decide) fv_fz_p0_4) (by omega) z_173 (by omega) z_174 (by omega) z_175 (by omega) (hf_172.u (by decide) fr_fz_p0_11) (hf_172.u (by decide) fr_fz_p0_21) (hf_172.u (by decide) fr_fz_p0_26) (hf_172.u (by decide) fr_fz_p0_27) (hf_172.u (by decide) fh_fz_p0_44) hr_g164 (by omega) (by omega) hP166 hS166 (lv_sub hl [0, 1] rfl)
                · exfalso; omega
              · have tc_129 := q_eqN c_129
                refine lv_aload_n hx hb dX9_readKnot_105 rfl (lv_at hl 1 rfl) ?_
                refine q_cVv (As := []) (rest := []) q_w0 trivial hK hP125 hDa za_r_readKnot hS125 hA [0] [] (by decide +kernel) ⟨hx, hb, hml, hown, hts⟩ (r_misplaced l dC dI H125.size p0 fz_p0 ho_fz_p0) rfl rfl (cwV 0 hts (p1_gV m_22 m_23 m_24 m_6 g_r_misplaced gz_r_misplaced) rfl rfl rfl (by decide +kernel) ⟨by decide, by decide⟩) (va_recv hK hP125 (ci := 8) (q0 := 0) rfl rfl) zm_r_misplaced rfl hl.1 rfl (Nat.le_of_ble_eq_true rfl) dX9_readKnot_106 ⟨by decide, by decide⟩ (fun H178 lo178 hG178 hS178 => ?_)
                obtain ⟨o_179, o_180, ho_181, hf_182, z_183, z_184, hQ178⟩ := hG178
                have to_180 := (OKX9_g4 ho_181).use z_183
                have hP178 : va_P (dC, dI) vwCl (zW_r_readKnot p0 o_179 p0_crossings c_p0_crossings bz_p0_crossings p0_kName c_p0_kName g21 p0_knots c_p0_knots b_p0_knots p0_sides c_p0_sides bz_p0_sides p0_text c_p0_text b_p0_text) H178 := hQ178
                clear hQ178 hP125 hS125
                refine lv_aload_n hx hb dX9_readKnot_109 rfl (lv_at hl 1 rfl) ?_
                refine q_cVi (As := []) (rest := []) q_w0 trivial hK hP178 hDa za_r_readKnot hS178 hA [0] [] (by decide +kernel) ⟨hx, hb, hml, hown, hts⟩ (r_isGood l dC dI H178.size p0 o_179 o_180 ho_181 z_183) rfl rfl (cwV 0 hts (p1_gV m_9 m_10 m_11 m_6 g_r_isGood gz_r_isGood) rfl rfl rfl (by decide +kernel) ⟨by decide, by decide⟩) (va_recv hK hP178 (ci := 8) (q0 := 0) rfl rfl) zm_r_isGood rfl hl.1 rfl (Nat.le_of_ble_eq_true rfl) dX9_readKnot_110 ⟨by decide, by decide⟩ (fun r_185 H186 lo186 hG186 hS186 => ?_)
                obtain ⟨z_187, hQ186⟩ := hG186
                have hP186 : va_P (dC, dI) vwCl (zW_r_readKnot p0 o_179 p0_crossings c_p0_crossings bz_p0_crossings p0_kName c_p0_kName g21 p0_knots c_p0_knots b_p0_knots p0_sides c_p0_sides bz_p0_sides p0_text c_p0_text b_p0_text) H186 := hQ186
                clear hQ186 hP178 hS178
                rcases z_187 with ⟨rfl, z_187⟩ | ⟨rfl, z_187⟩
                · exfalso; omega
                · refine lv_if_ne (tgt := 117) hx hb dX9_readKnot_113 (by decide) (fun c_188 => absurd c_188 (by decide)) (fun c_188 => ?_)
                  exact q_vret hx hb hr hlocks hS186 dX9_readKnot_116 ⟨o_179, bz_p0_crossings, g21, b_p0_knots, bz_p0_sides, atv, env, tkv, o_180, ho_181, (hf_fz_p0.tr hf_182 (by decide)), hr_bz_p0_crossings, hr_p0_knots, (hf_182.u (by decide) fv_fz_p0_6), (hf_182.u (by decide) fv_fz_p0_7), (hf_182.u (by decide) fv_fz_p0_8), z_183, (by omega), (by omega), hP186, za_r_readKnot⟩
            · refine lv_if_eq (tgt := 165) hx hb dX9_readKnot_91 (by decide) (fun c_189 => ?_) (fun c_189 => absurd c_189 (by decide))
              refine lv_aload_n hx hb dX9_readKnot_165 rfl (lv_at hl 1 rfl) (qg_X9_11 hx hb hts i_X9 hown hK hP125 0 rfl k_1 fr_fz_p0_11 dX9_readKnot_166 (lv_aload_n hx hb dX9_readKnot_169 rfl (lv_at hl 1 rfl) (qg_X9_44 hx hb hts i_X9 hown hK hP125 0 rfl k_0 fh_fz_p0_44 dX9_readKnot_170 (lv_dup2_11 hx hb dX9_readKnot_173 rfl rfl (q_ild hx hb hK hP125 3 2 rfl rfl (q_in (by omega) (by omega)) dX9_readKnot_174 (fun v_190 ev_190 => ?_))))))
              have uv_190 : v_190.toInt = (b_p0_knots rb.toNatClampNeg).toInt := by rw [ev_190]
              have tv_190 := q_rd' hr_p0_knots (q_in (by omega) (by omega)) ev_190
              refine lv_iconst (v := 1) hx hb dX9_readKnot_175 (by decide) (lv_iadd hx hb dX9_readKnot_176 (lv_topi fun v_191 ev_191 => ?_))
              have tv_191 := q_add ev_191 (by omega) (by omega)
              refine q_ist hx hb hK hP125 hDa za_r_readKnot hS125 3 2 rfl rfl (q_in (by omega) (by omega)) dX9_readKnot_177 (fun H192 lo192 g192 eg192 (hP192 : va_P (dC, dI) vwCl (zW_r_readKnot p0 fz_p0 p0_crossings c_p0_crossings bz_p0_crossings p0_kName c_p0_kName g21 p0_knots c_p0_knots g192 p0_sides c_p0_sides bz_p0_sides p0_text c_p0_text b_p0_text) H192) hS192 => ?_)
              clear hP125 hS125
              have hr_g192 := q_up' hr_p0_knots eg192 ⟨by omega, by omega⟩
              exact q_vret hx hb hr hlocks hS192 dX9_readKnot_178 ⟨fz_p0, bz_p0_crossings, g21, g192, bz_p0_sides, atv, env, tkv, fkv, ho_fz_p0, hf_fz_p0, hr_bz_p0_crossings, hr_g192, fv_fz_p0_6, fv_fz_p0_7, fv_fz_p0_8, fv_fz_p0_4, (by omega), (by omega), hP192, za_r_readKnot⟩
          · refine lv_if_eq (tgt := 165) hx hb dX9_readKnot_84 (by decide) (fun c_193 => ?_) (fun c_193 => absurd c_193 (by decide))
            refine lv_aload_n hx hb dX9_readKnot_165 rfl (lv_at hl 1 rfl) (qg_X9_11 hx hb hts i_X9 hown hK hP121 0 rfl k_1 fr_fz_p0_11 dX9_readKnot_166 (lv_aload_n hx hb dX9_readKnot_169 rfl (lv_at hl 1 rfl) (qg_X9_44 hx hb hts i_X9 hown hK hP121 0 rfl k_0 fh_fz_p0_44 dX9_readKnot_170 (lv_dup2_11 hx hb dX9_readKnot_173 rfl rfl (q_ild hx hb hK hP121 3 2 rfl rfl (q_in (by omega) (by omega)) dX9_readKnot_174 (fun v_194 ev_194 => ?_))))))
            have uv_194 : v_194.toInt = (b_p0_knots rb.toNatClampNeg).toInt := by rw [ev_194]
            have tv_194 := q_rd' hr_p0_knots (q_in (by omega) (by omega)) ev_194
            refine lv_iconst (v := 1) hx hb dX9_readKnot_175 (by decide) (lv_iadd hx hb dX9_readKnot_176 (lv_topi fun v_195 ev_195 => ?_))
            have tv_195 := q_add ev_195 (by omega) (by omega)
            refine q_ist hx hb hK hP121 hDa za_r_readKnot hS121 3 2 rfl rfl (q_in (by omega) (by omega)) dX9_readKnot_177 (fun H196 lo196 g196 eg196 (hP196 : va_P (dC, dI) vwCl (zW_r_readKnot p0 fz_p0 p0_crossings c_p0_crossings bz_p0_crossings p0_kName c_p0_kName g21 p0_knots c_p0_knots g196 p0_sides c_p0_sides bz_p0_sides p0_text c_p0_text b_p0_text) H196) hS196 => ?_)
            clear hP121 hS121
            have hr_g196 := q_up' hr_p0_knots eg196 ⟨by omega, by omega⟩
            exact q_vret hx hb hr hlocks hS196 dX9_readKnot_178 ⟨fz_p0, bz_p0_crossings, g21, g196, bz_p0_sides, atv, env, tkv, fkv, ho_fz_p0, hf_fz_p0, hr_bz_p0_crossings, hr_g196, fv_fz_p0_6, fv_fz_p0_7, fv_fz_p0_8, fv_fz_p0_4, (by omega), (by omega), hP196, za_r_readKnot⟩
      exact key80 13 o_113 o_114 o_9 o_10 o_11 g23 g22 _ _ _ (by omega) ho_115 ((q_fr.rf.tr hf_14 (by decide)).tr hf_116 (by decide)) (hf_116.u (by decide) (hf_14.u (by decide) fr_p0_1)) (hf_116.u (by decide) (hf_14.u (by decide) pf_siz)) z_117 (by omega) (hf_116.u (by decide) z_15) (by omega) (hf_116.u (by decide) z_16) (by omega) (hf_116.u (by decide) z_17) (by omega) (hf_116.u (by decide) (hf_14.u (by decide) fr_p0_11)) (hf_116.u (by decide) (hf_14.u (by decide) fr_p0_21)) (hf_116.u (by decide) (hf_14.u (by decide) fr_p0_26)) (hf_116.u (by decide) (hf_14.u (by decide) fr_p0_27)) (hf_116.u (by decide) (hf_14.u (by decide) pf_rb)) hr_g23 (by omega) (by omega) hP112 hS112 (lv_sub hl [0, 1] rfl)
  · refine lv_if_eq (tgt := 80) hx hb dX9_readKnot_66 (by decide) (fun c_197 => ?_) (fun c_197 => absurd c_197 (by decide))
    have key80 : ∀ (fu80 : Nat) (fz_p0 : List Value) (fkv : Int32) (atv : Int32) (env : Int32) (tkv : Int32) (bz_p0_crossings : Nat → Int32) (bz_p0_sides : Nat → Int32) (H : Heap) (locs : List Loc) (ls : Array Slot) (hfu80 : 13 - (bz_p0_crossings v_3.toNatClampNeg).toInt ≤ (fu80 : Int)) (ho_fz_p0 : OKX9 fz_p0) (hf_fz_p0 : q_fr [4, 5, 6, 7, 8, 9, 10] f_p0 fz_p0) (fr_fz_p0_1 : q_rf fz_p0 1 p0_text) (fh_fz_p0_3 : q_if fz_p0 3 siz) (fv_fz_p0_4 : q_if fz_p0 4 fkv) (tfkv : (0) ≤ fkv.toInt ∧ fkv.toInt ≤ 4) (fv_fz_p0_6 : q_if fz_p0 6 atv) (tatv : (0) ≤ atv.toInt ∧ atv.toInt ≤ 1600) (fv_fz_p0_7 : q_if fz_p0 7 env) (tenv : (0) ≤ env.toInt ∧ env.toInt ≤ 1601) (fv_fz_p0_8 : q_if fz_p0 8 tkv) (ttkv : (0) ≤ tkv.toInt ∧ tkv.toInt ≤ 5) (fr_fz_p0_11 : q_rf fz_p0 11 p0_knots) (fr_fz_p0_21 : q_rf fz_p0 21 p0_kName) (fr_fz_p0_26 : q_rf fz_p0 26 p0_sides) (fr_fz_p0_27 : q_rf fz_p0 27 p0_crossings) (fh_fz_p0_44 : q_if fz_p0 44 rb) (hr_bz_p0_crossings : q_rg 12 (0) 12 bz_p0_crossings) (hq80_0 : env.toInt ≤ siz.toInt ∧ at0.toInt ≤ atv.toInt ∧ atv.toInt ≤ env.toInt ∧ (tkv.toInt ≠ 3 ∨ atv.toInt < env.toInt)) (hq80_1 : fk.toInt = 0 ∨ 1 ≤ fkv.toInt), va_P (dC, dI) vwCl (zW_r_readKnot p0 fz_p0 p0_crossings c_p0_crossings bz_p0_crossings p0_kName c_p0_kName g21 p0_knots c_p0_knots b_p0_knots p0_sides c_p0_sides bz_p0_sides p0_text c_p0_text b_p0_text) H → va_S A s.heap H locs → lv_has ls 2 [(1, .int v_3), (0, .ref p0)] → W p l e (headSpec zw_r_readKnot { frames := 3, cells := 0, slots := 0, locals := 69 }).room s m ([.ref p0] : List Value).toArray below meth c H locs 0 0 (MQ below (q_Qv (dC, dI) (zG_r_readKnot p0 f_p0 p0_crossings c_p0_crossings b_p0_crossings p0_kName c_p0_kName b_p0_kName p0_knots c_p0_knots b_p0_knots p0_sides c_p0_sides b_p0_sides p0_text c_p0_text b_p0_text at0 en tk siz fk rb) (zA_r_readKnot p0 p0_crossings p0_kName p0_knots p0_sides p0_text) A) ([.ref p0] : List Value).toArray s 0 0 A) (F0 m 80 ls []) := by
      intro fu80
      induction fu80 using Nat.strongRecOn with
      | ind fu80 ih80 =>
        intro fz_p0 fkv atv env tkv bz_p0_crossings bz_p0_sides H198 lo198 ls hfu80 ho_fz_p0 hf_fz_p0 fr_fz_p0_1 fh_fz_p0_3 fv_fz_p0_4 tfkv fv_fz_p0_6 tatv fv_fz_p0_7 tenv fv_fz_p0_8 ttkv fr_fz_p0_11 fr_fz_p0_21 fr_fz_p0_26 fr_fz_p0_27 fh_fz_p0_44 hr_bz_p0_crossings hq80_0 hq80_1 hP198 hS198 hl
        refine lv_aload_n hx hb dX9_readKnot_80 rfl (lv_at hl 1 rfl) ?_
        refine q_cVi (As := []) (rest := []) q_w0 trivial hK hP198 hDa za_r_readKnot hS198 hA [0] [] (by decide +kernel) ⟨hx, hb, hml, hown, hts⟩ (r_isGood l dC dI H198.size p0 fz_p0 fkv ho_fz_p0 fv_fz_p0_4) rfl rfl (cwV 0 hts (p1_gV m_9 m_10 m_11 m_6 g_r_isGood gz_r_isGood) rfl rfl rfl (by decide +kernel) ⟨by decide, by decide⟩) (va_recv hK hP198 (ci := 8) (q0 := 0) rfl rfl) zm_r_isGood rfl hl.1 rfl (Nat.le_of_ble_eq_true rfl) dX9_readKnot_81 ⟨by decide, by decide⟩ (fun r_199 H200 lo200 hG200 hS200 => ?_)
        obtain ⟨z_201, hQ200⟩ := hG200
        have hP200 : va_P (dC, dI) vwCl (zW_r_readKnot p0 fz_p0 p0_crossings c_p0_crossings bz_p0_crossings p0_kName c_p0_kName g21 p0_knots c_p0_knots b_p0_knots p0_sides c_p0_sides bz_p0_sides p0_text c_p0_text b_p0_text) H200 := hQ200
        clear hQ200 hP198 hS198
        rcases z_201 with ⟨rfl, z_201⟩ | ⟨rfl, z_201⟩
        · refine lv_if_eq (tgt := 165) hx hb dX9_readKnot_84 (by decide) (fun c_202 => absurd c_202 (by decide)) (fun c_202 => ?_)
          refine lv_aload_n hx hb dX9_readKnot_87 rfl (lv_at hl 1 rfl) ?_
          refine q_cVi (As := []) (rest := []) q_w0 trivial hK hP200 hDa za_r_readKnot hS200 hA [0] [] (by decide +kernel) ⟨hx, hb, hml, hown, hts⟩ (r_isSide l dC dI H200.size p0 fz_p0 ho_fz_p0) rfl rfl (cwV 0 hts (p1_gV m_12 m_13 m_14 m_6 g_r_isSide gz_r_isSide) rfl rfl rfl (by decide +kernel) ⟨by decide, by decide⟩) (va_recv hK hP200 (ci := 8) (q0 := 0) rfl rfl) zm_r_isSide rfl hl.1 rfl (Nat.le_of_ble_eq_true rfl) dX9_readKnot_88 ⟨by decide, by decide⟩ (fun r_203 H204 lo204 hG204 hS204 => ?_)
          obtain ⟨z_205, hQ204⟩ := hG204
          have hP204 : va_P (dC, dI) vwCl (zW_r_readKnot p0 fz_p0 p0_crossings c_p0_crossings bz_p0_crossings p0_kName c_p0_kName g21 p0_knots c_p0_knots b_p0_knots p0_sides c_p0_sides bz_p0_sides p0_text c_p0_text b_p0_text) H204 := hQ204
          clear hQ204 hP200 hS200
          rcases z_205 with ⟨rfl, z_205⟩ | ⟨rfl, z_205⟩
          · refine lv_if_eq (tgt := 165) hx hb dX9_readKnot_91 (by decide) (fun c_206 => absurd c_206 (by decide)) (fun c_206 => ?_)
            refine lv_aload_n hx hb dX9_readKnot_94 rfl (lv_at hl 1 rfl) (qg_X9_27 hx hb hts i_X9 hown hK hP204 0 rfl k_8 fr_fz_p0_27 dX9_readKnot_95 (lv_iload_n hx hb dX9_readKnot_98 rfl (lv_at hl 0 rfl) (q_ild hx hb hK hP204 1 0 rfl rfl (q_in (by omega) (by omega)) dX9_readKnot_99 (fun v_207 ev_207 => ?_))))
            have uv_207 : v_207.toInt = (bz_p0_crossings v_3.toNatClampNeg).toInt := by rw [ev_207]
            have tv_207 := q_rd' hr_bz_p0_crossings (q_in (by omega) (by omega)) ev_207
            refine lv_bipush (v := 12) hx hb dX9_readKnot_100 (by decide) ?_
            refine lv_icmp_ne (tgt := 109) hx hb dX9_readKnot_102 (by decide) (fun c_208 => ?_) (fun c_208 => ?_)
            · have tc_208 := q_ne c_208
              refine lv_aload_n hx hb dX9_readKnot_109 rfl (lv_at hl 1 rfl) ?_
              refine q_cVi (As := []) (rest := []) q_w0 trivial hK hP204 hDa za_r_readKnot hS204 hA [0] [] (by decide +kernel) ⟨hx, hb, hml, hown, hts⟩ (r_isGood l dC dI H204.size p0 fz_p0 fkv ho_fz_p0 fv_fz_p0_4) rfl rfl (cwV 0 hts (p1_gV m_9 m_10 m_11 m_6 g_r_isGood gz_r_isGood) rfl rfl rfl (by decide +kernel) ⟨by decide, by decide⟩) (va_recv hK hP204 (ci := 8) (q0 := 0) rfl rfl) zm_r_isGood rfl hl.1 rfl (Nat.le_of_ble_eq_true rfl) dX9_readKnot_110 ⟨by decide, by decide⟩ (fun r_209 H210 lo210 hG210 hS210 => ?_)
              obtain ⟨z_211, hQ210⟩ := hG210
              have hP210 : va_P (dC, dI) vwCl (zW_r_readKnot p0 fz_p0 p0_crossings c_p0_crossings bz_p0_crossings p0_kName c_p0_kName g21 p0_knots c_p0_knots b_p0_knots p0_sides c_p0_sides bz_p0_sides p0_text c_p0_text b_p0_text) H210 := hQ210
              clear hQ210 hP204 hS204
              rcases z_211 with ⟨rfl, z_211⟩ | ⟨rfl, z_211⟩
              · refine lv_if_ne (tgt := 117) hx hb dX9_readKnot_113 (by decide) (fun c_212 => ?_) (fun c_212 => absurd c_212 (by decide))
                refine lv_aload_n hx hb dX9_readKnot_117 rfl (lv_at hl 1 rfl) (qg_X9_26 hx hb hts i_X9 hown hK hP210 0 rfl k_7 fr_fz_p0_26 dX9_readKnot_118 (lv_iload_n hx hb dX9_readKnot_121 rfl (lv_at hl 0 rfl) (lv_dup2_11 hx hb dX9_readKnot_122 rfl rfl (q_ild hx hb hK hP210 4 3 rfl rfl (q_in (by omega) (by omega)) dX9_readKnot_123 (fun v_213 ev_213 => ?_)))))
                refine lv_aload_n hx hb dX9_readKnot_124 rfl (lv_at hl 1 rfl) (lv_ldc2 (v := 504363246962) hx hb hown k_15 dX9_readKnot_125 ?_)
                obtain ⟨v_214, fv_214⟩ := OKX9_g10 ho_fz_p0
                refine q_cVi (As := [.long 504363246962]) (rest := [.int v_213, .int v_3, .ref p0_sides]) q_w0 trivial hK hP210 hDa za_r_readKnot hS210 hA [0] [] (by decide +kernel) ⟨hx, hb, hml, hown, hts⟩ (r_isWord l dC dI H210.size p0 fz_p0 504363246962 tkv v_214 ho_fz_p0 fv_fz_p0_8 fv_214) rfl rfl (cwV 1 hts (p1_gV m_16 m_17 m_18 m_6 g_r_isWord gz_r_isWord) rfl rfl rfl (by decide +kernel) ⟨by decide, by decide⟩) (va_recv hK hP210 (ci := 8) (q0 := 0) rfl rfl) zm_r_isWord rfl hl.1 rfl (Nat.le_of_ble_eq_true rfl) dX9_readKnot_128 ⟨by decide, by decide⟩ (fun r_215 H216 lo216 hG216 hS216 => ?_)
                obtain ⟨z_217, hQ216⟩ := hG216
                have hP216 : va_P (dC, dI) vwCl (zW_r_readKnot p0 fz_p0 p0_crossings c_p0_crossings bz_p0_crossings p0_kName c_p0_kName g21 p0_knots c_p0_knots b_p0_knots p0_sides c_p0_sides bz_p0_sides p0_text c_p0_text b_p0_text) H216 := hQ216
                clear hQ216 hP210 hS210
                rcases z_217 with ⟨rfl, z_217⟩ | ⟨rfl, z_217⟩
                · refine lv_if_eq (tgt := 145) hx hb dX9_readKnot_131 (by decide) (fun c_218 => absurd c_218 (by decide)) (fun c_218 => ?_)
                  refine lv_iconst (v := 1) hx hb dX9_readKnot_134 (by decide) (lv_aload_n hx hb dX9_readKnot_135 rfl (lv_at hl 1 rfl) (qg_X9_27 hx hb hts i_X9 hown hK hP216 0 rfl k_8 fr_fz_p0_27 dX9_readKnot_136 (lv_iload_n hx hb dX9_readKnot_139 rfl (lv_at hl 0 rfl) (q_ild hx hb hK hP216 1 0 rfl rfl (q_in (by omega) (by omega)) dX9_readKnot_140 (fun v_219 ev_219 => ?_)))))
                  have uv_219 : v_219.toInt = (bz_p0_crossings v_3.toNatClampNeg).toInt := by rw [ev_219]
                  have tv_219 := q_rd' hr_bz_p0_crossings (q_in (by omega) (by omega)) ev_219
                  refine lv_ishl hx hb dX9_readKnot_141 (lv_topi fun v_220 ev_220 => ?_)
                  have tv_220 : 1 ≤ v_220.toInt ∧ v_220.toInt ≤ 4096 := q_shl1 (k := 12) ev_220 (by omega) (by omega) (by decide)
                  refine lv_goto (tgt := 146) hx hb dX9_readKnot_142 (by decide) (lv_ior hx hb dX9_readKnot_146 (lv_topi fun v_221 ev_221 => q_ist hx hb hK hP216 hDa za_r_readKnot hS216 4 3 rfl rfl (q_in (by omega) (by omega)) dX9_readKnot_147 (fun H222 lo222 g222 eg222 (hP222 : va_P (dC, dI) vwCl (zW_r_readKnot p0 fz_p0 p0_crossings c_p0_crossings bz_p0_crossings p0_kName c_p0_kName g21 p0_knots c_p0_knots b_p0_knots p0_sides c_p0_sides g222 p0_text c_p0_text b_p0_text) H222) hS222 => ?_)))
                  clear hP216 hS216
                  refine lv_aload_n hx hb dX9_readKnot_148 rfl (lv_at hl 1 rfl) (qg_X9_27 hx hb hts i_X9 hown hK hP222 0 rfl k_8 fr_fz_p0_27 dX9_readKnot_149 (lv_iload_n hx hb dX9_readKnot_152 rfl (lv_at hl 0 rfl) (lv_dup2_11 hx hb dX9_readKnot_153 rfl rfl (q_ild hx hb hK hP222 1 0 rfl rfl (q_in (by omega) (by omega)) dX9_readKnot_154 (fun v_223 ev_223 => ?_)))))
                  have uv_223 : v_223.toInt = (bz_p0_crossings v_3.toNatClampNeg).toInt := by rw [ev_223]
                  have tv_223 := q_rd' hr_bz_p0_crossings (q_in (by omega) (by omega)) ev_223
                  refine lv_iconst (v := 1) hx hb dX9_readKnot_155 (by decide) (lv_iadd hx hb dX9_readKnot_156 (lv_topi fun v_224 ev_224 => ?_))
                  have tv_224 := q_add ev_224 (by omega) (by omega)
                  refine q_ist hx hb hK hP222 hDa za_r_readKnot hS222 1 0 rfl rfl (q_in (by omega) (by omega)) dX9_readKnot_157 (fun H225 lo225 g225 eg225 (hP225 : va_P (dC, dI) vwCl (zW_r_readKnot p0 fz_p0 p0_crossings c_p0_crossings g225 p0_kName c_p0_kName g21 p0_knots c_p0_knots b_p0_knots p0_sides c_p0_sides g222 p0_text c_p0_text b_p0_text) H225) hS225 => ?_)
                  clear hP222 hS222
                  have hr_g225 := q_up' hr_bz_p0_crossings eg225 ⟨by omega, by omega⟩
                  have usg225 : (g225 v_3.toNatClampNeg).toInt = v_224.toInt := by rw [eg225, pk_us]
                  refine lv_aload_n hx hb dX9_readKnot_158 rfl (lv_at hl 1 rfl) ?_
                  refine q_cVv (As := []) (rest := []) q_w0 trivial hK hP225 hDa za_r_readKnot hS225 hA [0, 5] [4] (by decide +kernel) ⟨hx, hb, hml, hown, hts⟩ (r_goOn l dC dI H225.size p0 fz_p0 p0_text c_p0_text b_p0_text env siz ho_fz_p0 fr_fz_p0_1 fv_fz_p0_7 fh_fz_p0_3 ((by omega))) rfl rfl (cwV 0 hts (p1_gV m_19 m_20 m_21 m_6 g_r_goOn gz_r_goOn) rfl rfl rfl (by decide +kernel) ⟨by decide, by decide⟩) (va_recv hK hP225 (ci := 8) (q0 := 0) rfl rfl) zm_r_goOn rfl hl.1 rfl (Nat.le_of_ble_eq_true rfl) dX9_readKnot_159 ⟨by decide, by decide⟩ (fun H227 lo227 hG227 hS227 => ?_)
                  obtain ⟨o_228, o_229, o_230, o_231, ho_232, hf_233, z_234, z_235, z_236, z_237, hQ227⟩ := hG227
                  have to_229 := (OKX9_g6 ho_232).use z_234
                  have to_230 := (OKX9_g7 ho_232).use z_235
                  have to_231 := (OKX9_g8 ho_232).use z_236
                  have hP227 : va_P (dC, dI) vwCl (zW_r_readKnot p0 o_228 p0_crossings c_p0_crossings g225 p0_kName c_p0_kName g21 p0_knots c_p0_knots b_p0_knots p0_sides c_p0_sides g222 p0_text c_p0_text b_p0_text) H227 := hQ227
                  clear hQ227 hP225 hS225
                  refine lv_goto (tgt := 80) hx hb dX9_readKnot_162 (by decide) ?_
                  exact ih80 (fu80 - 1) (by omega) o_228 fkv o_229 o_230 o_231 g225 g222 _ _ _ (by omega) ho_232 (hf_fz_p0.tr hf_233 (by decide)) (hf_233.u (by decide) fr_fz_p0_1) (hf_233.u (by decide) fh_fz_p0_3) (hf_233.u (by decide) fv_fz_p0_4) (by omega) z_234 (by omega) z_235 (by omega) z_236 (by omega) (hf_233.u (by decide) fr_fz_p0_11) (hf_233.u (by decide) fr_fz_p0_21) (hf_233.u (by decide) fr_fz_p0_26) (hf_233.u (by decide) fr_fz_p0_27) (hf_233.u (by decide) fh_fz_p0_44) hr_g225 (by omega) (by omega) hP227 hS227 (lv_sub hl [0, 1] rfl)
                · refine lv_if_eq (tgt := 145) hx hb dX9_readKnot_131 (by decide) (fun c_238 => ?_) (fun c_238 => absurd c_238 (by decide))
                  refine lv_iconst (v := 0) hx hb dX9_readKnot_145 (by decide) (lv_ior hx hb dX9_readKnot_146 (lv_topi fun v_239 ev_239 => q_ist hx hb hK hP216 hDa za_r_readKnot hS216 4 3 rfl rfl (q_in (by omega) (by omega)) dX9_readKnot_147 (fun H240 lo240 g240 eg240 (hP240 : va_P (dC, dI) vwCl (zW_r_readKnot p0 fz_p0 p0_crossings c_p0_crossings bz_p0_crossings p0_kName c_p0_kName g21 p0_knots c_p0_knots b_p0_knots p0_sides c_p0_sides g240 p0_text c_p0_text b_p0_text) H240) hS240 => ?_)))
                  clear hP216 hS216
                  refine lv_aload_n hx hb dX9_readKnot_148 rfl (lv_at hl 1 rfl) (qg_X9_27 hx hb hts i_X9 hown hK hP240 0 rfl k_8 fr_fz_p0_27 dX9_readKnot_149 (lv_iload_n hx hb dX9_readKnot_152 rfl (lv_at hl 0 rfl) (lv_dup2_11 hx hb dX9_readKnot_153 rfl rfl (q_ild hx hb hK hP240 1 0 rfl rfl (q_in (by omega) (by omega)) dX9_readKnot_154 (fun v_241 ev_241 => ?_)))))
                  have uv_241 : v_241.toInt = (bz_p0_crossings v_3.toNatClampNeg).toInt := by rw [ev_241]
                  have tv_241 := q_rd' hr_bz_p0_crossings (q_in (by omega) (by omega)) ev_241
                  refine lv_iconst (v := 1) hx hb dX9_readKnot_155 (by decide) (lv_iadd hx hb dX9_readKnot_156 (lv_topi fun v_242 ev_242 => ?_))
                  have tv_242 := q_add ev_242 (by omega) (by omega)
                  refine q_ist hx hb hK hP240 hDa za_r_readKnot hS240 1 0 rfl rfl (q_in (by omega) (by omega)) dX9_readKnot_157 (fun H243 lo243 g243 eg243 (hP243 : va_P (dC, dI) vwCl (zW_r_readKnot p0 fz_p0 p0_crossings c_p0_crossings g243 p0_kName c_p0_kName g21 p0_knots c_p0_knots b_p0_knots p0_sides c_p0_sides g240 p0_text c_p0_text b_p0_text) H243) hS243 => ?_)
                  clear hP240 hS240
                  have hr_g243 := q_up' hr_bz_p0_crossings eg243 ⟨by omega, by omega⟩
                  have usg243 : (g243 v_3.toNatClampNeg).toInt = v_242.toInt := by rw [eg243, pk_us]
                  refine lv_aload_n hx hb dX9_readKnot_158 rfl (lv_at hl 1 rfl) ?_
                  refine q_cVv (As := []) (rest := []) q_w0 trivial hK hP243 hDa za_r_readKnot hS243 hA [0, 5] [4] (by decide +kernel) ⟨hx, hb, hml, hown, hts⟩ (r_goOn l dC dI H243.size p0 fz_p0 p0_text c_p0_text b_p0_text env siz ho_fz_p0 fr_fz_p0_1 fv_fz_p0_7 fh_fz_p0_3 ((by omega))) rfl rfl (cwV 0 hts (p1_gV m_19 m_20 m_21 m_6 g_r_goOn gz_r_goOn) rfl rfl rfl (by decide +kernel) ⟨by decide, by decide⟩) (va_recv hK hP243 (ci := 8) (q0 := 0) rfl rfl) zm_r_goOn rfl hl.1 rfl (Nat.le_of_ble_eq_true rfl) dX9_readKnot_159 ⟨by decide, by decide⟩ (fun H245 lo245 hG245 hS245 => ?_)
                  obtain ⟨o_246, o_247, o_248, o_249, ho_250, hf_251, z_252, z_253, z_254, z_255, hQ245⟩ := hG245
                  have to_247 := (OKX9_g6 ho_250).use z_252
                  have to_248 := (OKX9_g7 ho_250).use z_253
                  have to_249 := (OKX9_g8 ho_250).use z_254
                  have hP245 : va_P (dC, dI) vwCl (zW_r_readKnot p0 o_246 p0_crossings c_p0_crossings g243 p0_kName c_p0_kName g21 p0_knots c_p0_knots b_p0_knots p0_sides c_p0_sides g240 p0_text c_p0_text b_p0_text) H245 := hQ245
                  clear hQ245 hP243 hS243
                  refine lv_goto (tgt := 80) hx hb dX9_readKnot_162 (by decide) ?_
                  exact ih80 (fu80 - 1) (by omega) o_246 fkv o_247 o_248 o_249 g243 g240 _ _ _ (by omega) ho_250 (hf_fz_p0.tr hf_251 (by decide)) (hf_251.u (by decide) fr_fz_p0_1) (hf_251.u (by decide) fh_fz_p0_3) (hf_251.u (by decide) fv_fz_p0_4) (by omega) z_252 (by omega) z_253 (by omega) z_254 (by omega) (hf_251.u (by decide) fr_fz_p0_11) (hf_251.u (by decide) fr_fz_p0_21) (hf_251.u (by decide) fr_fz_p0_26) (hf_251.u (by decide) fr_fz_p0_27) (hf_251.u (by decide) fh_fz_p0_44) hr_g243 (by omega) (by omega) hP245 hS245 (lv_sub hl [0, 1] rfl)
              · exfalso; omega
            · have tc_208 := q_eqN c_208
              refine lv_aload_n hx hb dX9_readKnot_105 rfl (lv_at hl 1 rfl) ?_
              refine q_cVv (As := []) (rest := []) q_w0 trivial hK hP204 hDa za_r_readKnot hS204 hA [0] [] (by decide +kernel) ⟨hx, hb, hml, hown, hts⟩ (r_misplaced l dC dI H204.size p0 fz_p0 ho_fz_p0) rfl rfl (cwV 0 hts (p1_gV m_22 m_23 m_24 m_6 g_r_misplaced gz_r_misplaced) rfl rfl rfl (by decide +kernel) ⟨by decide, by decide⟩) (va_recv hK hP204 (ci := 8) (q0 := 0) rfl rfl) zm_r_misplaced rfl hl.1 rfl (Nat.le_of_ble_eq_true rfl) dX9_readKnot_106 ⟨by decide, by decide⟩ (fun H257 lo257 hG257 hS257 => ?_)
              obtain ⟨o_258, o_259, ho_260, hf_261, z_262, z_263, hQ257⟩ := hG257
              have to_259 := (OKX9_g4 ho_260).use z_262
              have hP257 : va_P (dC, dI) vwCl (zW_r_readKnot p0 o_258 p0_crossings c_p0_crossings bz_p0_crossings p0_kName c_p0_kName g21 p0_knots c_p0_knots b_p0_knots p0_sides c_p0_sides bz_p0_sides p0_text c_p0_text b_p0_text) H257 := hQ257
              clear hQ257 hP204 hS204
              refine lv_aload_n hx hb dX9_readKnot_109 rfl (lv_at hl 1 rfl) ?_
              refine q_cVi (As := []) (rest := []) q_w0 trivial hK hP257 hDa za_r_readKnot hS257 hA [0] [] (by decide +kernel) ⟨hx, hb, hml, hown, hts⟩ (r_isGood l dC dI H257.size p0 o_258 o_259 ho_260 z_262) rfl rfl (cwV 0 hts (p1_gV m_9 m_10 m_11 m_6 g_r_isGood gz_r_isGood) rfl rfl rfl (by decide +kernel) ⟨by decide, by decide⟩) (va_recv hK hP257 (ci := 8) (q0 := 0) rfl rfl) zm_r_isGood rfl hl.1 rfl (Nat.le_of_ble_eq_true rfl) dX9_readKnot_110 ⟨by decide, by decide⟩ (fun r_264 H265 lo265 hG265 hS265 => ?_)
              obtain ⟨z_266, hQ265⟩ := hG265
              have hP265 : va_P (dC, dI) vwCl (zW_r_readKnot p0 o_258 p0_crossings c_p0_crossings bz_p0_crossings p0_kName c_p0_kName g21 p0_knots c_p0_knots b_p0_knots p0_sides c_p0_sides bz_p0_sides p0_text c_p0_text b_p0_text) H265 := hQ265
              clear hQ265 hP257 hS257
              rcases z_266 with ⟨rfl, z_266⟩ | ⟨rfl, z_266⟩
              · exfalso; omega
              · refine lv_if_ne (tgt := 117) hx hb dX9_readKnot_113 (by decide) (fun c_267 => absurd c_267 (by decide)) (fun c_267 => ?_)
                exact q_vret hx hb hr hlocks hS265 dX9_readKnot_116 ⟨o_258, bz_p0_crossings, g21, b_p0_knots, bz_p0_sides, atv, env, tkv, o_259, ho_260, (hf_fz_p0.tr hf_261 (by decide)), hr_bz_p0_crossings, hr_p0_knots, (hf_261.u (by decide) fv_fz_p0_6), (hf_261.u (by decide) fv_fz_p0_7), (hf_261.u (by decide) fv_fz_p0_8), z_262, (by omega), (by omega), hP265, za_r_readKnot⟩
          · refine lv_if_eq (tgt := 165) hx hb dX9_readKnot_91 (by decide) (fun c_268 => ?_) (fun c_268 => absurd c_268 (by decide))
            refine lv_aload_n hx hb dX9_readKnot_165 rfl (lv_at hl 1 rfl) (qg_X9_11 hx hb hts i_X9 hown hK hP204 0 rfl k_1 fr_fz_p0_11 dX9_readKnot_166 (lv_aload_n hx hb dX9_readKnot_169 rfl (lv_at hl 1 rfl) (qg_X9_44 hx hb hts i_X9 hown hK hP204 0 rfl k_0 fh_fz_p0_44 dX9_readKnot_170 (lv_dup2_11 hx hb dX9_readKnot_173 rfl rfl (q_ild hx hb hK hP204 3 2 rfl rfl (q_in (by omega) (by omega)) dX9_readKnot_174 (fun v_269 ev_269 => ?_))))))
            have uv_269 : v_269.toInt = (b_p0_knots rb.toNatClampNeg).toInt := by rw [ev_269]
            have tv_269 := q_rd' hr_p0_knots (q_in (by omega) (by omega)) ev_269
            refine lv_iconst (v := 1) hx hb dX9_readKnot_175 (by decide) (lv_iadd hx hb dX9_readKnot_176 (lv_topi fun v_270 ev_270 => ?_))
            have tv_270 := q_add ev_270 (by omega) (by omega)
            refine q_ist hx hb hK hP204 hDa za_r_readKnot hS204 3 2 rfl rfl (q_in (by omega) (by omega)) dX9_readKnot_177 (fun H271 lo271 g271 eg271 (hP271 : va_P (dC, dI) vwCl (zW_r_readKnot p0 fz_p0 p0_crossings c_p0_crossings bz_p0_crossings p0_kName c_p0_kName g21 p0_knots c_p0_knots g271 p0_sides c_p0_sides bz_p0_sides p0_text c_p0_text b_p0_text) H271) hS271 => ?_)
            clear hP204 hS204
            have hr_g271 := q_up' hr_p0_knots eg271 ⟨by omega, by omega⟩
            exact q_vret hx hb hr hlocks hS271 dX9_readKnot_178 ⟨fz_p0, bz_p0_crossings, g21, g271, bz_p0_sides, atv, env, tkv, fkv, ho_fz_p0, hf_fz_p0, hr_bz_p0_crossings, hr_g271, fv_fz_p0_6, fv_fz_p0_7, fv_fz_p0_8, fv_fz_p0_4, (by omega), (by omega), hP271, za_r_readKnot⟩
        · refine lv_if_eq (tgt := 165) hx hb dX9_readKnot_84 (by decide) (fun c_272 => ?_) (fun c_272 => absurd c_272 (by decide))
          refine lv_aload_n hx hb dX9_readKnot_165 rfl (lv_at hl 1 rfl) (qg_X9_11 hx hb hts i_X9 hown hK hP200 0 rfl k_1 fr_fz_p0_11 dX9_readKnot_166 (lv_aload_n hx hb dX9_readKnot_169 rfl (lv_at hl 1 rfl) (qg_X9_44 hx hb hts i_X9 hown hK hP200 0 rfl k_0 fh_fz_p0_44 dX9_readKnot_170 (lv_dup2_11 hx hb dX9_readKnot_173 rfl rfl (q_ild hx hb hK hP200 3 2 rfl rfl (q_in (by omega) (by omega)) dX9_readKnot_174 (fun v_273 ev_273 => ?_))))))
          have uv_273 : v_273.toInt = (b_p0_knots rb.toNatClampNeg).toInt := by rw [ev_273]
          have tv_273 := q_rd' hr_p0_knots (q_in (by omega) (by omega)) ev_273
          refine lv_iconst (v := 1) hx hb dX9_readKnot_175 (by decide) (lv_iadd hx hb dX9_readKnot_176 (lv_topi fun v_274 ev_274 => ?_))
          have tv_274 := q_add ev_274 (by omega) (by omega)
          refine q_ist hx hb hK hP200 hDa za_r_readKnot hS200 3 2 rfl rfl (q_in (by omega) (by omega)) dX9_readKnot_177 (fun H275 lo275 g275 eg275 (hP275 : va_P (dC, dI) vwCl (zW_r_readKnot p0 fz_p0 p0_crossings c_p0_crossings bz_p0_crossings p0_kName c_p0_kName g21 p0_knots c_p0_knots g275 p0_sides c_p0_sides bz_p0_sides p0_text c_p0_text b_p0_text) H275) hS275 => ?_)
          clear hP200 hS200
          have hr_g275 := q_up' hr_p0_knots eg275 ⟨by omega, by omega⟩
          exact q_vret hx hb hr hlocks hS275 dX9_readKnot_178 ⟨fz_p0, bz_p0_crossings, g21, g275, bz_p0_sides, atv, env, tkv, fkv, ho_fz_p0, hf_fz_p0, hr_bz_p0_crossings, hr_g275, fv_fz_p0_6, fv_fz_p0_7, fv_fz_p0_8, fv_fz_p0_4, (by omega), (by omega), hP275, za_r_readKnot⟩
    exact key80 13 o_8 o_12 o_9 o_10 o_11 g23 g22 _ _ _ (by omega) ho_13 (q_fr.rf.tr hf_14 (by decide)) (hf_14.u (by decide) fr_p0_1) (hf_14.u (by decide) pf_siz) z_18 (by omega) z_15 (by omega) z_16 (by omega) z_17 (by omega) (hf_14.u (by decide) fr_p0_11) (hf_14.u (by decide) fr_p0_21) (hf_14.u (by decide) fr_p0_26) (hf_14.u (by decide) fr_p0_27) (hf_14.u (by decide) pf_rb) hr_g23 (by omega) (by omega) hP25 hS25 (lv_sub hl [0, 1] rfl)
def zo_r_readCord : List Cond := [.code yX9_readCord cX9_readCord 2 none, .fieldLink RX9 279 "BowWalkModel" "rb" "I", .fieldLink RX9 24 "BowWalkModel" "cords" "[I", .fieldLink RX9 56 "BowWalkModel" "cName" "[J", .methodLink RX9 325 yX9_fresh, .instanceMethod yX9_fresh, .selects RX9 yX9_fresh yX9_fresh, .initialized RX9, .fieldLink RX9 74 "BowWalkModel" "smooth" "[I", .constantLong RX9 184 (126913858204776), .methodLink RX9 332 yX9_after, .instanceMethod yX9_after, .selects RX9 yX9_after yX9_after, .fieldLink RX9 77 "BowWalkModel" "weight" "[I", .constantLong RX9 186 (131277443786868), .fieldLink RX9 80 "BowWalkModel" "longOf" "[I", .constantLong RX9 188 (1819242087)]
def zw_r_readCord : List Cond := zo_r_readCord ++ (zw_r_fresh ++ (zw_r_after ++ (wsX90 ++ [])))
theorem gz_r_readCord : zw_r_readCord.all goodWord = true := p1_ga (by decide +kernel) (p1_ga gz_r_fresh (p1_ga gz_r_after (p1_ga gk_X9 p1_g0)))
theorem iz_r_readCord : ∀ w ∈ zw_r_readCord, w ∈ lw_tbl := p1_ia (p1_all [1366, 1081, 1049, 1059, 1355, 1357, 53, 116, 1065, 1303, 1367, 1369, 56, 1066, 1304, 1067, 1305] (by decide +kernel)) (p1_ia iz_r_fresh (p1_ia iz_r_after (p1_ia ik_X9 p1_i0)))
def zW_r_readCord (p0 : Nat) (f_p0 : List Value) (p0_cName : Nat) (c_p0_cName : ClassId) (b_p0_cName : Nat → Int64) (p0_cords : Nat) (c_p0_cords : ClassId) (b_p0_cords : Nat → Int32) (p0_longOf : Nat) (c_p0_longOf : ClassId) (b_p0_longOf : Nat → Int32) (p0_smooth : Nat) (c_p0_smooth : ClassId) (b_p0_smooth : Nat → Int32) (p0_text : Nat) (c_p0_text : ClassId) (b_p0_text : Nat → Int32) (p0_weight : Nat) (c_p0_weight : ClassId) (b_p0_weight : Nat → Int32) : va_W := [(p0, .inr (8, f_p0)), (p0_cName, .inl (c_p0_cName, 8, .inr (.inl b_p0_cName))), (p0_cords, .inl (c_p0_cords, 2, .inl b_p0_cords)), (p0_longOf, .inl (c_p0_longOf, 8, .inl b_p0_longOf)), (p0_smooth, .inl (c_p0_smooth, 8, .inl b_p0_smooth)), (p0_text, .inl (c_p0_text, 1600, .inl b_p0_text)), (p0_weight, .inl (c_p0_weight, 8, .inl b_p0_weight))]
def zT_r_readCord (c_p0_cName : ClassId) (c_p0_cords : ClassId) (c_p0_longOf : ClassId) (c_p0_smooth : ClassId) (c_p0_text : ClassId) (c_p0_weight : ClassId) : List (ClassId × FieldType) := [(c_p0_cName, .long), (c_p0_cords, .int), (c_p0_longOf, .int), (c_p0_smooth, .int), (c_p0_text, .byte), (c_p0_weight, .int)]
def zA_r_readCord (p0 : Nat) (p0_cName : Nat) (p0_cords : Nat) (p0_longOf : Nat) (p0_smooth : Nat) (p0_text : Nat) (p0_weight : Nat) : List Nat := [p0, p0_cName, p0_cords, p0_longOf, p0_smooth, p0_text, p0_weight]
theorem za_r_readCord {p0 : Nat} {f_p0 : List Value} {p0_cName : Nat} {c_p0_cName : ClassId} {b_p0_cName : Nat → Int64} {p0_cords : Nat} {c_p0_cords : ClassId} {b_p0_cords : Nat → Int32} {p0_longOf : Nat} {c_p0_longOf : ClassId} {b_p0_longOf : Nat → Int32} {p0_smooth : Nat} {c_p0_smooth : ClassId} {b_p0_smooth : Nat → Int32} {p0_text : Nat} {c_p0_text : ClassId} {b_p0_text : Nat → Int32} {p0_weight : Nat} {c_p0_weight : ClassId} {b_p0_weight : Nat → Int32} : (zW_r_readCord p0 f_p0 p0_cName c_p0_cName b_p0_cName p0_cords c_p0_cords b_p0_cords p0_longOf c_p0_longOf b_p0_longOf p0_smooth c_p0_smooth b_p0_smooth p0_text c_p0_text b_p0_text p0_weight c_p0_weight b_p0_weight).map Prod.fst = (zA_r_readCord p0 p0_cName p0_cords p0_longOf p0_smooth p0_text p0_weight) := rfl
def zG_r_readCord (p0 : Nat) (f_p0 : List Value) (p0_cName : Nat) (c_p0_cName : ClassId) (b_p0_cName : Nat → Int64) (p0_cords : Nat) (c_p0_cords : ClassId) (b_p0_cords : Nat → Int32) (p0_longOf : Nat) (c_p0_longOf : ClassId) (b_p0_longOf : Nat → Int32) (p0_smooth : Nat) (c_p0_smooth : ClassId) (b_p0_smooth : Nat → Int32) (p0_text : Nat) (c_p0_text : ClassId) (b_p0_text : Nat → Int32) (p0_weight : Nat) (c_p0_weight : ClassId) (b_p0_weight : Nat → Int32) (at0 : Int32) (en : Int32) (tk : Int32) (siz : Int32) (fk : Int32) (rb : Int32) (X : va_W → Prop) : Prop := ∃ (y_p0 : List Value) (y_p0_cName : Nat → Int64) (y_p0_cords : Nat → Int32) (y_p0_longOf : Nat → Int32) (y_p0_smooth : Nat → Int32) (y_p0_weight : Nat → Int32) (at1 : Int32) (en1 : Int32) (tk1 : Int32) (fk1 : Int32), OKX9 y_p0 ∧ q_fr [4, 5, 6, 7, 8, 9, 10] f_p0 y_p0 ∧ (q_rg 2 (0) 4 y_p0_cords) ∧ q_if y_p0 6 at1 ∧ q_if y_p0 7 en1 ∧ q_if y_p0 8 tk1 ∧ q_if y_p0 4 fk1 ∧ (en1.toInt ≤ siz.toInt ∧ at0.toInt ≤ at1.toInt ∧ at1.toInt ≤ en1.toInt ∧ (tk1.toInt ≠ 3 ∨ at1.toInt < en1.toInt)) ∧ (fk.toInt = 0 ∨ 1 ≤ fk1.toInt) ∧ X (zW_r_readCord p0 y_p0 p0_cName c_p0_cName y_p0_cName p0_cords c_p0_cords y_p0_cords p0_longOf c_p0_longOf y_p0_longOf p0_smooth c_p0_smooth y_p0_smooth p0_text c_p0_text b_p0_text p0_weight c_p0_weight y_p0_weight)
theorem zm_r_readCord {p0 : Nat} {f_p0 : List Value} {p0_cName : Nat} {c_p0_cName : ClassId} {b_p0_cName : Nat → Int64} {p0_cords : Nat} {c_p0_cords : ClassId} {b_p0_cords : Nat → Int32} {p0_longOf : Nat} {c_p0_longOf : ClassId} {b_p0_longOf : Nat → Int32} {p0_smooth : Nat} {c_p0_smooth : ClassId} {b_p0_smooth : Nat → Int32} {p0_text : Nat} {c_p0_text : ClassId} {b_p0_text : Nat → Int32} {p0_weight : Nat} {c_p0_weight : ClassId} {b_p0_weight : Nat → Int32} {at0 : Int32} {en : Int32} {tk : Int32} {siz : Int32} {fk : Int32} {rb : Int32} : ∀ X Y : va_W → Prop, (∀ w, X w → Y w) → zG_r_readCord p0 f_p0 p0_cName c_p0_cName b_p0_cName p0_cords c_p0_cords b_p0_cords p0_longOf c_p0_longOf b_p0_longOf p0_smooth c_p0_smooth b_p0_smooth p0_text c_p0_text b_p0_text p0_weight c_p0_weight b_p0_weight at0 en tk siz fk rb X → zG_r_readCord p0 f_p0 p0_cName c_p0_cName b_p0_cName p0_cords c_p0_cords b_p0_cords p0_longOf c_p0_longOf b_p0_longOf p0_smooth c_p0_smooth b_p0_smooth p0_text c_p0_text b_p0_text p0_weight c_p0_weight b_p0_weight at0 en tk siz fk rb Y := fun X Y h h1 => by obtain ⟨x0, x1, x2, x3, x4, x5, x6, x7, x8, x9, x10, x11, x12, x13, x14, x15, x16, x17, x18, hx⟩ := h1; exact ⟨x0, x1, x2, x3, x4, x5, x6, x7, x8, x9, x10, x11, x12, x13, x14, x15, x16, x17, x18, h _ hx⟩
set_option maxHeartbeats 4000000 in
set_option maxRecDepth 100000 in
theorem r_readCord (l : Launch) (dC : Nat → ClassId) (dI : Nat → Nat → Nat) (sz : Nat) (p0 : Nat) (f_p0 : List Value) (p0_cName : Nat) (c_p0_cName : ClassId) (b_p0_cName : Nat → Int64) (p0_cords : Nat) (c_p0_cords : ClassId) (b_p0_cords : Nat → Int32) (p0_longOf : Nat) (c_p0_longOf : ClassId) (b_p0_longOf : Nat → Int32) (p0_smooth : Nat) (c_p0_smooth : ClassId) (b_p0_smooth : Nat → Int32) (p0_text : Nat) (c_p0_text : ClassId) (b_p0_text : Nat → Int32) (p0_weight : Nat) (c_p0_weight : ClassId) (b_p0_weight : Nat → Int32) (at0 : Int32) (en : Int32) (tk : Int32) (siz : Int32) (fk : Int32) (rb : Int32) (ho_p0 : OKX9 f_p0) (fr_p0_1 : q_rf f_p0 1 p0_text) (fr_p0_12 : q_rf f_p0 12 p0_cords) (fr_p0_22 : q_rf f_p0 22 p0_cName) (fr_p0_28 : q_rf f_p0 28 p0_smooth) (fr_p0_29 : q_rf f_p0 29 p0_weight) (fr_p0_30 : q_rf f_p0 30 p0_longOf) (hr_p0_cords : q_rg 2 (0) 4 b_p0_cords) (pf_at0 : q_if f_p0 6 at0) (pf_en : q_if f_p0 7 en) (pf_tk : q_if f_p0 8 tk) (pf_siz : q_if f_p0 3 siz) (pf_fk : q_if f_p0 4 fk) (pf_rb : q_if f_p0 44 rb) (hR : en.toInt ≤ siz.toInt ∧ at0.toInt ≤ en.toInt ∧ (tk.toInt ≠ 3 ∨ at0.toInt < en.toInt)) (hk : (b_p0_cords rb.toNatClampNeg).toInt ≤ 3) : Met l yX9_readCord zw_r_readCord ({ frames := 4, cells := 0, slots := 0, locals := 91 }) (va_Pc [.ref p0] (q_pre (dC, dI) (zW_r_readCord p0 f_p0 p0_cName c_p0_cName b_p0_cName p0_cords c_p0_cords b_p0_cords p0_longOf c_p0_longOf b_p0_longOf p0_smooth c_p0_smooth b_p0_smooth p0_text c_p0_text b_p0_text p0_weight c_p0_weight b_p0_weight) (zT_r_readCord c_p0_cName c_p0_cords c_p0_longOf c_p0_smooth c_p0_text c_p0_weight) q_E0 sz)) (q_Qv (dC, dI) (zG_r_readCord p0 f_p0 p0_cName c_p0_cName b_p0_cName p0_cords c_p0_cords b_p0_cords p0_longOf c_p0_longOf b_p0_longOf p0_smooth c_p0_smooth b_p0_smooth p0_text c_p0_text b_p0_text p0_weight c_p0_weight b_p0_weight at0 en tk siz fk rb) (zA_r_readCord p0 p0_cName p0_cords p0_longOf p0_smooth p0_text p0_weight) (va_A (zW_r_readCord p0 f_p0 p0_cName c_p0_cName b_p0_cName p0_cords c_p0_cords b_p0_cords p0_longOf c_p0_longOf b_p0_longOf p0_smooth c_p0_smooth b_p0_smooth p0_text c_p0_text b_p0_text p0_weight c_p0_weight b_p0_weight) sz)) 0 0 (va_A (zW_r_readCord p0 f_p0 p0_cName c_p0_cName b_p0_cName p0_cords c_p0_cords b_p0_cords p0_longOf c_p0_longOf b_p0_longOf p0_smooth c_p0_smooth b_p0_smooth p0_text c_p0_text b_p0_text p0_weight c_p0_weight b_p0_weight) sz) := by
  refine Met.ofW (cc := cX9_readCord) (maxL := 2) (ret := none) (by decide) rfl ?_
  intro p e s m args below meth c s₁ B hml hv
  obtain ⟨rfl, hsz, hP, hK, hD0, hE⟩ := hv
  have hx := B.exec
  have hb := B.bytes
  have hr := B.returns
  have hts := atoms_spec (ws := zw_r_readCord) B.pre
  have hown : s.vm.findClass RX9 = some m.cls := findClass_of_methodNamed B.named
  have hlocks := B.notSynchronized
  subst hsz
  have hD := hD0.self (sz := s.heap.size)
  generalize hAe : va_A (zW_r_readCord p0 f_p0 p0_cName c_p0_cName b_p0_cName p0_cords c_p0_cords b_p0_cords p0_longOf c_p0_longOf b_p0_longOf p0_smooth c_p0_smooth b_p0_smooth p0_text c_p0_text b_p0_text p0_weight c_p0_weight b_p0_weight) s.heap.size = A at hD hE ⊢
  have hA : ∀ q : Nat, s.heap.size ≤ q → A q := fun q h => by rw [← hAe]; exact Or.inr h
  have hDa : q_DA A (zA_r_readCord p0 p0_cName p0_cords p0_longOf p0_smooth p0_text p0_weight) := q_DA.mk hD za_r_readCord
  clear hAe hD0 hD
  have hS : va_S A s.heap s.heap [] := va_S.rf
  have m_0 : (.fieldLink RX9 279 "BowWalkModel" "rb" "I" : Cond) ∈ zw_r_readCord := List.mem_append_left _ (List.mem_of_getElem? (i := 1) rfl)
  have k_0 := hts _ m_0
  have m_1 : (.fieldLink RX9 24 "BowWalkModel" "cords" "[I" : Cond) ∈ zw_r_readCord := List.mem_append_left _ (List.mem_of_getElem? (i := 2) rfl)
  have k_1 := hts _ m_1
  have m_2 : (.fieldLink RX9 56 "BowWalkModel" "cName" "[J" : Cond) ∈ zw_r_readCord := List.mem_append_left _ (List.mem_of_getElem? (i := 3) rfl)
  have k_2 := hts _ m_2
  have m_3 : (.methodLink RX9 325 yX9_fresh : Cond) ∈ zw_r_readCord := List.mem_append_left _ (List.mem_of_getElem? (i := 4) rfl)
  have k_3 := hts _ m_3
  have m_4 : (.instanceMethod yX9_fresh : Cond) ∈ zw_r_readCord := List.mem_append_left _ (List.mem_of_getElem? (i := 5) rfl)
  have k_4 := hts _ m_4
  have m_5 : (.selects RX9 yX9_fresh yX9_fresh : Cond) ∈ zw_r_readCord := List.mem_append_left _ (List.mem_of_getElem? (i := 6) rfl)
  have k_5 := hts _ m_5
  have m_6 : (.initialized RX9 : Cond) ∈ zw_r_readCord := List.mem_append_left _ (List.mem_of_getElem? (i := 7) rfl)
  have k_6 := hts _ m_6
  have m_7 : (.fieldLink RX9 74 "BowWalkModel" "smooth" "[I" : Cond) ∈ zw_r_readCord := List.mem_append_left _ (List.mem_of_getElem? (i := 8) rfl)
  have k_7 := hts _ m_7
  have m_8 : (.constantLong RX9 184 (126913858204776) : Cond) ∈ zw_r_readCord := List.mem_append_left _ (List.mem_of_getElem? (i := 9) rfl)
  have k_8 := hts _ m_8
  have m_9 : (.methodLink RX9 332 yX9_after : Cond) ∈ zw_r_readCord := List.mem_append_left _ (List.mem_of_getElem? (i := 10) rfl)
  have k_9 := hts _ m_9
  have m_10 : (.instanceMethod yX9_after : Cond) ∈ zw_r_readCord := List.mem_append_left _ (List.mem_of_getElem? (i := 11) rfl)
  have k_10 := hts _ m_10
  have m_11 : (.selects RX9 yX9_after yX9_after : Cond) ∈ zw_r_readCord := List.mem_append_left _ (List.mem_of_getElem? (i := 12) rfl)
  have k_11 := hts _ m_11
  have m_12 : (.fieldLink RX9 77 "BowWalkModel" "weight" "[I" : Cond) ∈ zw_r_readCord := List.mem_append_left _ (List.mem_of_getElem? (i := 13) rfl)
  have k_12 := hts _ m_12
  have m_13 : (.constantLong RX9 186 (131277443786868) : Cond) ∈ zw_r_readCord := List.mem_append_left _ (List.mem_of_getElem? (i := 14) rfl)
  have k_13 := hts _ m_13
  have m_14 : (.fieldLink RX9 80 "BowWalkModel" "longOf" "[I" : Cond) ∈ zw_r_readCord := List.mem_append_left _ (List.mem_of_getElem? (i := 15) rfl)
  have k_14 := hts _ m_14
  have m_15 : (.constantLong RX9 188 (1819242087) : Cond) ∈ zw_r_readCord := List.mem_append_left _ (List.mem_of_getElem? (i := 16) rfl)
  have k_15 := hts _ m_15
  have g_r_fresh : ∀ w ∈ zw_r_fresh, w ∈ zw_r_readCord := fun w h => List.mem_append_right _ (List.mem_append_left _ h)
  have g_r_after : ∀ w ∈ zw_r_after, w ∈ zw_r_readCord := fun w h => List.mem_append_right _ (List.mem_append_right _ (List.mem_append_left _ h))
  have i_X9 : ∀ w ∈ u_ws RX9 TX9 81, w ∈ zw_r_readCord := fun w h => List.mem_append_right _ (List.mem_append_right _ (List.mem_append_right _ (List.mem_append_left _ h)))
  have lt_0 : (0 : Int32).toInt = 0 := by decide
  have lt_1 : (1 : Int32).toInt = 1 := by decide
  have lt_4 : (4 : Int32).toInt = 4 := by decide
  have lt_99 : (99 : Int32).toInt = 99 := by decide
  have lt_999 : (999 : Int32).toInt = 999 := by decide
  have hl := lv_entry ([.ref p0]) (n := 2) (Nat.le_of_ble_eq_true rfl)
  rw [lg_entry_eq]
  generalize (lg_sl ([.ref p0]) ++ List.replicate (2 - (lg_sl ([.ref p0])).length) Slot.unset).toArray = ls at hl ⊢
  have hl : lv_has ls 2 [(0, .ref p0)] := hl
  have tat0 := (OKX9_g6 ho_p0).use pf_at0
  have ten := (OKX9_g7 ho_p0).use pf_en
  have ttk := (OKX9_g8 ho_p0).use pf_tk
  have tsiz := (OKX9_g3 ho_p0).use pf_siz
  have tfk := (OKX9_g4 ho_p0).use pf_fk
  have trb := (OKX9_g44 ho_p0).use pf_rb
  refine lv_iconst (v := 4) hx hb dX9_readCord_0 (by decide) (lv_aload_n hx hb dX9_readCord_1 rfl (lv_at hl 0 rfl) (qg_X9_44 hx hb hts i_X9 hown hK hP 0 rfl k_0 pf_rb dX9_readCord_2 (lv_imul hx hb dX9_readCord_5 (lv_topi fun v_1 ev_1 => ?_))))
  have tv_1 := q_mulc (c := 4) ev_1 (by decide) (by omega) (by omega)
  refine lv_aload_n hx hb dX9_readCord_6 rfl (lv_at hl 0 rfl) (qg_X9_12 hx hb hts i_X9 hown hK hP 0 rfl k_1 fr_p0_12 dX9_readCord_7 (lv_aload_n hx hb dX9_readCord_10 rfl (lv_at hl 0 rfl) (qg_X9_44 hx hb hts i_X9 hown hK hP 0 rfl k_0 pf_rb dX9_readCord_11 (q_ild hx hb hK hP 2 1 rfl rfl (q_in (by omega) (by omega)) dX9_readCord_14 (fun v_2 ev_2 => ?_)))))
  have uv_2 : v_2.toInt = (b_p0_cords rb.toNatClampNeg).toInt := by rw [ev_2]
  have tv_2 := q_rd' hr_p0_cords (q_in (by omega) (by omega)) ev_2
  refine lv_iadd hx hb dX9_readCord_15 (lv_topi fun v_3 ev_3 => ?_)
  have tv_3 := q_add ev_3 (by omega) (by omega)
  refine lv_istore_n (lv' := [(1, .int v_3), (0, .ref p0)]) hx hb dX9_readCord_16 rfl hl (by decide) rfl (fun ls hl => ?_)
  refine lv_aload_n hx hb dX9_readCord_17 rfl (lv_at hl 1 rfl) (qg_X9_22 hx hb hts i_X9 hown hK hP 0 rfl k_2 fr_p0_22 dX9_readCord_18 (lv_iload_n hx hb dX9_readCord_21 rfl (lv_at hl 0 rfl) (lv_aload_n hx hb dX9_readCord_22 rfl (lv_at hl 1 rfl) (lv_aload_n hx hb dX9_readCord_23 rfl (lv_at hl 1 rfl) (qg_X9_22 hx hb hts i_X9 hown hK hP 0 rfl k_2 fr_p0_22 dX9_readCord_24 (lv_iconst (v := 4) hx hb dX9_readCord_27 (by decide) (lv_aload_n hx hb dX9_readCord_28 rfl (lv_at hl 1 rfl) ?_)))))))
  refine qg_X9_44 hx hb hts i_X9 hown hK hP 0 rfl k_0 pf_rb dX9_readCord_29 (lv_imul hx hb dX9_readCord_32 (lv_topi fun v_4 ev_4 => ?_))
  have tv_4 := q_mulc (c := 4) ev_4 (by decide) (by omega) (by omega)
  refine lv_aload_n hx hb dX9_readCord_33 rfl (lv_at hl 1 rfl) (qg_X9_12 hx hb hts i_X9 hown hK hP 0 rfl k_1 fr_p0_12 dX9_readCord_34 (lv_aload_n hx hb dX9_readCord_37 rfl (lv_at hl 1 rfl) (qg_X9_44 hx hb hts i_X9 hown hK hP 0 rfl k_0 pf_rb dX9_readCord_38 (q_ild hx hb hK hP 2 1 rfl rfl (q_in (by omega) (by omega)) dX9_readCord_41 (fun v_5 ev_5 => ?_)))))
  have uv_5 : v_5.toInt = (b_p0_cords rb.toNatClampNeg).toInt := by rw [ev_5]
  have tv_5 := q_rd' hr_p0_cords (q_in (by omega) (by omega)) ev_5
  refine q_cVl (As := [.ref p0_cName, .int v_4, .int v_5]) (rest := [.int v_3, .ref p0_cName]) q_w0 trivial hK hP hDa za_r_readCord hS hA [0, 5, 1] [4, 0] (by decide +kernel) ⟨hx, hb, hml, hown, hts⟩ (r_fresh l dC dI s.heap.size p0 f_p0 p0_text c_p0_text b_p0_text p0_cName c_p0_cName b_p0_cName 8 v_4 v_5 at0 en tk siz fk ho_p0 fr_p0_1 pf_at0 pf_en pf_tk pf_siz pf_fk ((by omega)) ((by omega)) ((by omega)) ((by omega))) rfl rfl (cwV 3 hts (p1_gV m_3 m_4 m_5 m_6 g_r_fresh gz_r_fresh) rfl rfl rfl (by decide +kernel) ⟨by decide, by decide⟩) (va_recv hK hP (ci := 8) (q0 := 0) rfl rfl) zm_r_fresh rfl hl.1 rfl (Nat.le_of_ble_eq_true rfl) dX9_readCord_42 ⟨by decide, by decide⟩ (fun r_6 H7 lo7 hG7 hS7 => ?_)
  obtain ⟨o_8, o_9, o_10, o_11, o_12, ho_13, hf_14, z_15, z_16, z_17, z_18, z_19, z_20, hQ7⟩ := hG7
  have to_9 := (OKX9_g6 ho_13).use z_15
  have to_10 := (OKX9_g7 ho_13).use z_16
  have to_11 := (OKX9_g8 ho_13).use z_17
  have to_12 := (OKX9_g4 ho_13).use z_18
  have hP7 : va_P (dC, dI) vwCl (zW_r_readCord p0 o_8 p0_cName c_p0_cName b_p0_cName p0_cords c_p0_cords b_p0_cords p0_longOf c_p0_longOf b_p0_longOf p0_smooth c_p0_smooth b_p0_smooth p0_text c_p0_text b_p0_text p0_weight c_p0_weight b_p0_weight) H7 := hQ7
  clear hQ7 hP hS
  refine q_lst hx hb hK hP7 hDa za_r_readCord hS7 1 0 rfl rfl (q_in (by omega) (by omega)) dX9_readCord_45 (fun H21 lo21 g21 eg21 (hP21 : va_P (dC, dI) vwCl (zW_r_readCord p0 o_8 p0_cName c_p0_cName g21 p0_cords c_p0_cords b_p0_cords p0_longOf c_p0_longOf b_p0_longOf p0_smooth c_p0_smooth b_p0_smooth p0_text c_p0_text b_p0_text p0_weight c_p0_weight b_p0_weight) H21) hS21 => ?_)
  clear hP7 hS7
  refine lv_aload_n hx hb dX9_readCord_46 rfl (lv_at hl 1 rfl) (qg_X9_28 hx hb hts i_X9 hown hK hP21 0 rfl k_7 (hf_14.u (by decide) fr_p0_28) dX9_readCord_47 (lv_iload_n hx hb dX9_readCord_50 rfl (lv_at hl 0 rfl) (lv_aload_n hx hb dX9_readCord_51 rfl (lv_at hl 1 rfl) (lv_ldc2 (v := 126913858204776) hx hb hown k_8 dX9_readCord_52 (lv_iconst (v := 0) hx hb dX9_readCord_55 (by decide) (lv_bipush (v := 99) hx hb dX9_readCord_56 (by decide) ?_))))))
  refine q_cVi (As := [.long 126913858204776, .int 0, .int 99]) (rest := [.int v_3, .ref p0_smooth]) q_w0 trivial hK hP21 hDa za_r_readCord hS21 hA [0, 5] [4] (by decide +kernel) ⟨hx, hb, hml, hown, hts⟩ (r_after l dC dI H21.size p0 o_8 p0_text c_p0_text b_p0_text 126913858204776 0 99 o_9 o_10 o_11 siz o_12 ho_13 ((hf_14.u (by decide) fr_p0_1)) z_15 z_16 z_17 ((hf_14.u (by decide) pf_siz)) z_18 ((by omega)) ((by omega))) rfl rfl (cwV 3 hts (p1_gV m_9 m_10 m_11 m_6 g_r_after gz_r_after) rfl rfl rfl (by decide +kernel) ⟨by decide, by decide⟩) (va_recv hK hP21 (ci := 8) (q0 := 0) rfl rfl) zm_r_after rfl hl.1 rfl (Nat.le_of_ble_eq_true rfl) dX9_readCord_58 ⟨by decide, by decide⟩ (fun r_22 H23 lo23 hG23 hS23 => ?_)
  obtain ⟨o_24, o_25, o_26, o_27, o_28, z_29, ho_30, hf_31, z_32, z_33, z_34, z_35, z_36, z_37, hQ23⟩ := hG23
  have to_25 := (OKX9_g6 ho_30).use z_32
  have to_26 := (OKX9_g7 ho_30).use z_33
  have to_27 := (OKX9_g8 ho_30).use z_34
  have to_28 := (OKX9_g4 ho_30).use z_35
  have hP23 : va_P (dC, dI) vwCl (zW_r_readCord p0 o_24 p0_cName c_p0_cName g21 p0_cords c_p0_cords b_p0_cords p0_longOf c_p0_longOf b_p0_longOf p0_smooth c_p0_smooth b_p0_smooth p0_text c_p0_text b_p0_text p0_weight c_p0_weight b_p0_weight) H23 := hQ23
  clear hQ23 hP21 hS21
  refine q_ist hx hb hK hP23 hDa za_r_readCord hS23 4 3 rfl rfl (q_in (by omega) (by omega)) dX9_readCord_61 (fun H38 lo38 g38 eg38 (hP38 : va_P (dC, dI) vwCl (zW_r_readCord p0 o_24 p0_cName c_p0_cName g21 p0_cords c_p0_cords b_p0_cords p0_longOf c_p0_longOf b_p0_longOf p0_smooth c_p0_smooth g38 p0_text c_p0_text b_p0_text p0_weight c_p0_weight b_p0_weight) H38) hS38 => ?_)
  clear hP23 hS23
  refine lv_aload_n hx hb dX9_readCord_62 rfl (lv_at hl 1 rfl) (qg_X9_29 hx hb hts i_X9 hown hK hP38 0 rfl k_12 (hf_31.u (by decide) (hf_14.u (by decide) fr_p0_29)) dX9_readCord_63 (lv_iload_n hx hb dX9_readCord_66 rfl (lv_at hl 0 rfl) (lv_aload_n hx hb dX9_readCord_67 rfl (lv_at hl 1 rfl) (lv_ldc2 (v := 131277443786868) hx hb hown k_13 dX9_readCord_68 (lv_iconst (v := 0) hx hb dX9_readCord_71 (by decide) (lv_bipush (v := 99) hx hb dX9_readCord_72 (by decide) ?_))))))
  refine q_cVi (As := [.long 131277443786868, .int 0, .int 99]) (rest := [.int v_3, .ref p0_weight]) q_w0 trivial hK hP38 hDa za_r_readCord hS38 hA [0, 5] [4] (by decide +kernel) ⟨hx, hb, hml, hown, hts⟩ (r_after l dC dI H38.size p0 o_24 p0_text c_p0_text b_p0_text 131277443786868 0 99 o_25 o_26 o_27 siz o_28 ho_30 ((hf_31.u (by decide) (hf_14.u (by decide) fr_p0_1))) z_32 z_33 z_34 ((hf_31.u (by decide) (hf_14.u (by decide) pf_siz))) z_35 ((by omega)) ((by omega))) rfl rfl (cwV 3 hts (p1_gV m_9 m_10 m_11 m_6 g_r_after gz_r_after) rfl rfl rfl (by decide +kernel) ⟨by decide, by decide⟩) (va_recv hK hP38 (ci := 8) (q0 := 0) rfl rfl) zm_r_after rfl hl.1 rfl (Nat.le_of_ble_eq_true rfl) dX9_readCord_74 ⟨by decide, by decide⟩ (fun r_39 H40 lo40 hG40 hS40 => ?_)
  obtain ⟨o_41, o_42, o_43, o_44, o_45, z_46, ho_47, hf_48, z_49, z_50, z_51, z_52, z_53, z_54, hQ40⟩ := hG40
  have to_42 := (OKX9_g6 ho_47).use z_49
  have to_43 := (OKX9_g7 ho_47).use z_50
  have to_44 := (OKX9_g8 ho_47).use z_51
  have to_45 := (OKX9_g4 ho_47).use z_52
  have hP40 : va_P (dC, dI) vwCl (zW_r_readCord p0 o_41 p0_cName c_p0_cName g21 p0_cords c_p0_cords b_p0_cords p0_longOf c_p0_longOf b_p0_longOf p0_smooth c_p0_smooth g38 p0_text c_p0_text b_p0_text p0_weight c_p0_weight b_p0_weight) H40 := hQ40
  clear hQ40 hP38 hS38
  refine q_ist hx hb hK hP40 hDa za_r_readCord hS40 6 5 rfl rfl (q_in (by omega) (by omega)) dX9_readCord_77 (fun H55 lo55 g55 eg55 (hP55 : va_P (dC, dI) vwCl (zW_r_readCord p0 o_41 p0_cName c_p0_cName g21 p0_cords c_p0_cords b_p0_cords p0_longOf c_p0_longOf b_p0_longOf p0_smooth c_p0_smooth g38 p0_text c_p0_text b_p0_text p0_weight c_p0_weight g55) H55) hS55 => ?_)
  clear hP40 hS40
  refine lv_aload_n hx hb dX9_readCord_78 rfl (lv_at hl 1 rfl) (qg_X9_30 hx hb hts i_X9 hown hK hP55 0 rfl k_14 (hf_48.u (by decide) (hf_31.u (by decide) (hf_14.u (by decide) fr_p0_30))) dX9_readCord_79 (lv_iload_n hx hb dX9_readCord_82 rfl (lv_at hl 0 rfl) (lv_aload_n hx hb dX9_readCord_83 rfl (lv_at hl 1 rfl) (lv_ldc2 (v := 1819242087) hx hb hown k_15 dX9_readCord_84 (lv_iconst (v := 1) hx hb dX9_readCord_87 (by decide) (lv_sipush (v := 999) hx hb dX9_readCord_88 (by decide) ?_))))))
  refine q_cVi (As := [.long 1819242087, .int 1, .int 999]) (rest := [.int v_3, .ref p0_longOf]) q_w0 trivial hK hP55 hDa za_r_readCord hS55 hA [0, 5] [4] (by decide +kernel) ⟨hx, hb, hml, hown, hts⟩ (r_after l dC dI H55.size p0 o_41 p0_text c_p0_text b_p0_text 1819242087 1 999 o_42 o_43 o_44 siz o_45 ho_47 ((hf_48.u (by decide) (hf_31.u (by decide) (hf_14.u (by decide) fr_p0_1)))) z_49 z_50 z_51 ((hf_48.u (by decide) (hf_31.u (by decide) (hf_14.u (by decide) pf_siz)))) z_52 ((by omega)) ((by omega))) rfl rfl (cwV 3 hts (p1_gV m_9 m_10 m_11 m_6 g_r_after gz_r_after) rfl rfl rfl (by decide +kernel) ⟨by decide, by decide⟩) (va_recv hK hP55 (ci := 8) (q0 := 0) rfl rfl) zm_r_after rfl hl.1 rfl (Nat.le_of_ble_eq_true rfl) dX9_readCord_91 ⟨by decide, by decide⟩ (fun r_56 H57 lo57 hG57 hS57 => ?_)
  obtain ⟨o_58, o_59, o_60, o_61, o_62, z_63, ho_64, hf_65, z_66, z_67, z_68, z_69, z_70, z_71, hQ57⟩ := hG57
  have to_59 := (OKX9_g6 ho_64).use z_66
  have to_60 := (OKX9_g7 ho_64).use z_67
  have to_61 := (OKX9_g8 ho_64).use z_68
  have to_62 := (OKX9_g4 ho_64).use z_69
  have hP57 : va_P (dC, dI) vwCl (zW_r_readCord p0 o_58 p0_cName c_p0_cName g21 p0_cords c_p0_cords b_p0_cords p0_longOf c_p0_longOf b_p0_longOf p0_smooth c_p0_smooth g38 p0_text c_p0_text b_p0_text p0_weight c_p0_weight g55) H57 := hQ57
  clear hQ57 hP55 hS55
  refine q_ist hx hb hK hP57 hDa za_r_readCord hS57 3 2 rfl rfl (q_in (by omega) (by omega)) dX9_readCord_94 (fun H72 lo72 g72 eg72 (hP72 : va_P (dC, dI) vwCl (zW_r_readCord p0 o_58 p0_cName c_p0_cName g21 p0_cords c_p0_cords b_p0_cords p0_longOf c_p0_longOf g72 p0_smooth c_p0_smooth g38 p0_text c_p0_text b_p0_text p0_weight c_p0_weight g55) H72) hS72 => ?_)
  clear hP57 hS57
  refine lv_aload_n hx hb dX9_readCord_95 rfl (lv_at hl 1 rfl) (qg_X9_12 hx hb hts i_X9 hown hK hP72 0 rfl k_1 (hf_65.u (by decide) (hf_48.u (by decide) (hf_31.u (by decide) (hf_14.u (by decide) fr_p0_12)))) dX9_readCord_96 (lv_aload_n hx hb dX9_readCord_99 rfl (lv_at hl 1 rfl) (qg_X9_44 hx hb hts i_X9 hown hK hP72 0 rfl k_0 (hf_65.u (by decide) (hf_48.u (by decide) (hf_31.u (by decide) (hf_14.u (by decide) pf_rb)))) dX9_readCord_100 (lv_dup2_11 hx hb dX9_readCord_103 rfl rfl (q_ild hx hb hK hP72 2 1 rfl rfl (q_in (by omega) (by omega)) dX9_readCord_104 (fun v_73 ev_73 => ?_))))))
  have uv_73 : v_73.toInt = (b_p0_cords rb.toNatClampNeg).toInt := by rw [ev_73]
  have tv_73 := q_rd' hr_p0_cords (q_in (by omega) (by omega)) ev_73
  refine lv_iconst (v := 1) hx hb dX9_readCord_105 (by decide) (lv_iadd hx hb dX9_readCord_106 (lv_topi fun v_74 ev_74 => ?_))
  have tv_74 := q_add ev_74 (by omega) (by omega)
  refine q_ist hx hb hK hP72 hDa za_r_readCord hS72 2 1 rfl rfl (q_in (by omega) (by omega)) dX9_readCord_107 (fun H75 lo75 g75 eg75 (hP75 : va_P (dC, dI) vwCl (zW_r_readCord p0 o_58 p0_cName c_p0_cName g21 p0_cords c_p0_cords g75 p0_longOf c_p0_longOf g72 p0_smooth c_p0_smooth g38 p0_text c_p0_text b_p0_text p0_weight c_p0_weight g55) H75) hS75 => ?_)
  clear hP72 hS72
  have hr_g75 := q_up' hr_p0_cords eg75 ⟨by omega, by omega⟩
  exact q_vret hx hb hr hlocks hS75 dX9_readCord_108 ⟨o_58, g21, g75, g72, g38, g55, o_59, o_60, o_61, o_62, ho_64, ((((q_fr.rf.tr hf_14 (by decide)).tr hf_31 (by decide)).tr hf_48 (by decide)).tr hf_65 (by decide)), hr_g75, z_66, z_67, z_68, z_69, (by omega), (by omega), hP75, za_r_readCord⟩
def zo_r_readWant : List Cond := [.code yX9_readWant cX9_readWant 2 none, .fieldLink RX9 279 "BowWalkModel" "rb" "I", .fieldLink RX9 33 "BowWalkModel" "wants" "[I", .fieldLink RX9 65 "BowWalkModel" "nName" "[J", .methodLink RX9 325 yX9_fresh, .instanceMethod yX9_fresh, .selects RX9 yX9_fresh yX9_fresh, .initialized RX9, .fieldLink RX9 92 "BowWalkModel" "wantHolds" "[I", .constantLong RX9 204 (448545973363), .methodLink RX9 332 yX9_after, .instanceMethod yX9_after, .selects RX9 yX9_after yX9_after, .fieldLink RX9 95 "BowWalkModel" "wantPull" "[I", .constantLong RX9 200 (1886743660)]
def zw_r_readWant : List Cond := zo_r_readWant ++ (zw_r_fresh ++ (zw_r_after ++ (wsX90 ++ [])))
theorem gz_r_readWant : zw_r_readWant.all goodWord = true := p1_ga (by decide +kernel) (p1_ga gz_r_fresh (p1_ga gz_r_after (p1_ga gk_X9 p1_g0)))
theorem iz_r_readWant : ∀ w ∈ zw_r_readWant, w ∈ lw_tbl := p1_ia (p1_all [1426, 1081, 1052, 1062, 1355, 1357, 53, 116, 1071, 1313, 1367, 1369, 56, 1072, 1311] (by decide +kernel)) (p1_ia iz_r_fresh (p1_ia iz_r_after (p1_ia ik_X9 p1_i0)))
def zW_r_readWant (p0 : Nat) (f_p0 : List Value) (p0_nName : Nat) (c_p0_nName : ClassId) (b_p0_nName : Nat → Int64) (p0_text : Nat) (c_p0_text : ClassId) (b_p0_text : Nat → Int32) (p0_wantHolds : Nat) (c_p0_wantHolds : ClassId) (b_p0_wantHolds : Nat → Int32) (p0_wantPull : Nat) (c_p0_wantPull : ClassId) (b_p0_wantPull : Nat → Int32) (p0_wants : Nat) (c_p0_wants : ClassId) (b_p0_wants : Nat → Int32) : va_W := [(p0, .inr (8, f_p0)), (p0_nName, .inl (c_p0_nName, 8, .inr (.inl b_p0_nName))), (p0_text, .inl (c_p0_text, 1600, .inl b_p0_text)), (p0_wantHolds, .inl (c_p0_wantHolds, 8, .inl b_p0_wantHolds)), (p0_wantPull, .inl (c_p0_wantPull, 8, .inl b_p0_wantPull)), (p0_wants, .inl (c_p0_wants, 2, .inl b_p0_wants))]
def zT_r_readWant (c_p0_nName : ClassId) (c_p0_text : ClassId) (c_p0_wantHolds : ClassId) (c_p0_wantPull : ClassId) (c_p0_wants : ClassId) : List (ClassId × FieldType) := [(c_p0_nName, .long), (c_p0_text, .byte), (c_p0_wantHolds, .int), (c_p0_wantPull, .int), (c_p0_wants, .int)]
def zA_r_readWant (p0 : Nat) (p0_nName : Nat) (p0_text : Nat) (p0_wantHolds : Nat) (p0_wantPull : Nat) (p0_wants : Nat) : List Nat := [p0, p0_nName, p0_text, p0_wantHolds, p0_wantPull, p0_wants]
theorem za_r_readWant {p0 : Nat} {f_p0 : List Value} {p0_nName : Nat} {c_p0_nName : ClassId} {b_p0_nName : Nat → Int64} {p0_text : Nat} {c_p0_text : ClassId} {b_p0_text : Nat → Int32} {p0_wantHolds : Nat} {c_p0_wantHolds : ClassId} {b_p0_wantHolds : Nat → Int32} {p0_wantPull : Nat} {c_p0_wantPull : ClassId} {b_p0_wantPull : Nat → Int32} {p0_wants : Nat} {c_p0_wants : ClassId} {b_p0_wants : Nat → Int32} : (zW_r_readWant p0 f_p0 p0_nName c_p0_nName b_p0_nName p0_text c_p0_text b_p0_text p0_wantHolds c_p0_wantHolds b_p0_wantHolds p0_wantPull c_p0_wantPull b_p0_wantPull p0_wants c_p0_wants b_p0_wants).map Prod.fst = (zA_r_readWant p0 p0_nName p0_text p0_wantHolds p0_wantPull p0_wants) := rfl
def zG_r_readWant (p0 : Nat) (f_p0 : List Value) (p0_nName : Nat) (c_p0_nName : ClassId) (b_p0_nName : Nat → Int64) (p0_text : Nat) (c_p0_text : ClassId) (b_p0_text : Nat → Int32) (p0_wantHolds : Nat) (c_p0_wantHolds : ClassId) (b_p0_wantHolds : Nat → Int32) (p0_wantPull : Nat) (c_p0_wantPull : ClassId) (b_p0_wantPull : Nat → Int32) (p0_wants : Nat) (c_p0_wants : ClassId) (b_p0_wants : Nat → Int32) (at0 : Int32) (en : Int32) (tk : Int32) (siz : Int32) (fk : Int32) (rb : Int32) (X : va_W → Prop) : Prop := ∃ (y_p0 : List Value) (y_p0_nName : Nat → Int64) (y_p0_wantHolds : Nat → Int32) (y_p0_wantPull : Nat → Int32) (y_p0_wants : Nat → Int32) (at1 : Int32) (en1 : Int32) (tk1 : Int32) (fk1 : Int32), OKX9 y_p0 ∧ q_fr [4, 5, 6, 7, 8, 9, 10] f_p0 y_p0 ∧ (q_rg 2 (0) 4 y_p0_wants) ∧ q_if y_p0 6 at1 ∧ q_if y_p0 7 en1 ∧ q_if y_p0 8 tk1 ∧ q_if y_p0 4 fk1 ∧ (en1.toInt ≤ siz.toInt ∧ at0.toInt ≤ at1.toInt ∧ at1.toInt ≤ en1.toInt ∧ (tk1.toInt ≠ 3 ∨ at1.toInt < en1.toInt)) ∧ (fk.toInt = 0 ∨ 1 ≤ fk1.toInt) ∧ X (zW_r_readWant p0 y_p0 p0_nName c_p0_nName y_p0_nName p0_text c_p0_text b_p0_text p0_wantHolds c_p0_wantHolds y_p0_wantHolds p0_wantPull c_p0_wantPull y_p0_wantPull p0_wants c_p0_wants y_p0_wants)
theorem zm_r_readWant {p0 : Nat} {f_p0 : List Value} {p0_nName : Nat} {c_p0_nName : ClassId} {b_p0_nName : Nat → Int64} {p0_text : Nat} {c_p0_text : ClassId} {b_p0_text : Nat → Int32} {p0_wantHolds : Nat} {c_p0_wantHolds : ClassId} {b_p0_wantHolds : Nat → Int32} {p0_wantPull : Nat} {c_p0_wantPull : ClassId} {b_p0_wantPull : Nat → Int32} {p0_wants : Nat} {c_p0_wants : ClassId} {b_p0_wants : Nat → Int32} {at0 : Int32} {en : Int32} {tk : Int32} {siz : Int32} {fk : Int32} {rb : Int32} : ∀ X Y : va_W → Prop, (∀ w, X w → Y w) → zG_r_readWant p0 f_p0 p0_nName c_p0_nName b_p0_nName p0_text c_p0_text b_p0_text p0_wantHolds c_p0_wantHolds b_p0_wantHolds p0_wantPull c_p0_wantPull b_p0_wantPull p0_wants c_p0_wants b_p0_wants at0 en tk siz fk rb X → zG_r_readWant p0 f_p0 p0_nName c_p0_nName b_p0_nName p0_text c_p0_text b_p0_text p0_wantHolds c_p0_wantHolds b_p0_wantHolds p0_wantPull c_p0_wantPull b_p0_wantPull p0_wants c_p0_wants b_p0_wants at0 en tk siz fk rb Y := fun X Y h h1 => by obtain ⟨x0, x1, x2, x3, x4, x5, x6, x7, x8, x9, x10, x11, x12, x13, x14, x15, x16, x17, hx⟩ := h1; exact ⟨x0, x1, x2, x3, x4, x5, x6, x7, x8, x9, x10, x11, x12, x13, x14, x15, x16, x17, h _ hx⟩
set_option maxHeartbeats 4000000 in
set_option maxRecDepth 100000 in
theorem r_readWant (l : Launch) (dC : Nat → ClassId) (dI : Nat → Nat → Nat) (sz : Nat) (p0 : Nat) (f_p0 : List Value) (p0_nName : Nat) (c_p0_nName : ClassId) (b_p0_nName : Nat → Int64) (p0_text : Nat) (c_p0_text : ClassId) (b_p0_text : Nat → Int32) (p0_wantHolds : Nat) (c_p0_wantHolds : ClassId) (b_p0_wantHolds : Nat → Int32) (p0_wantPull : Nat) (c_p0_wantPull : ClassId) (b_p0_wantPull : Nat → Int32) (p0_wants : Nat) (c_p0_wants : ClassId) (b_p0_wants : Nat → Int32) (at0 : Int32) (en : Int32) (tk : Int32) (siz : Int32) (fk : Int32) (rb : Int32) (ho_p0 : OKX9 f_p0) (fr_p0_1 : q_rf f_p0 1 p0_text) (fr_p0_15 : q_rf f_p0 15 p0_wants) (fr_p0_25 : q_rf f_p0 25 p0_nName) (fr_p0_34 : q_rf f_p0 34 p0_wantHolds) (fr_p0_35 : q_rf f_p0 35 p0_wantPull) (hr_p0_wants : q_rg 2 (0) 4 b_p0_wants) (pf_at0 : q_if f_p0 6 at0) (pf_en : q_if f_p0 7 en) (pf_tk : q_if f_p0 8 tk) (pf_siz : q_if f_p0 3 siz) (pf_fk : q_if f_p0 4 fk) (pf_rb : q_if f_p0 44 rb) (hR : en.toInt ≤ siz.toInt ∧ at0.toInt ≤ en.toInt ∧ (tk.toInt ≠ 3 ∨ at0.toInt < en.toInt)) (hk : (b_p0_wants rb.toNatClampNeg).toInt ≤ 3) : Met l yX9_readWant zw_r_readWant ({ frames := 4, cells := 0, slots := 0, locals := 91 }) (va_Pc [.ref p0] (q_pre (dC, dI) (zW_r_readWant p0 f_p0 p0_nName c_p0_nName b_p0_nName p0_text c_p0_text b_p0_text p0_wantHolds c_p0_wantHolds b_p0_wantHolds p0_wantPull c_p0_wantPull b_p0_wantPull p0_wants c_p0_wants b_p0_wants) (zT_r_readWant c_p0_nName c_p0_text c_p0_wantHolds c_p0_wantPull c_p0_wants) q_E0 sz)) (q_Qv (dC, dI) (zG_r_readWant p0 f_p0 p0_nName c_p0_nName b_p0_nName p0_text c_p0_text b_p0_text p0_wantHolds c_p0_wantHolds b_p0_wantHolds p0_wantPull c_p0_wantPull b_p0_wantPull p0_wants c_p0_wants b_p0_wants at0 en tk siz fk rb) (zA_r_readWant p0 p0_nName p0_text p0_wantHolds p0_wantPull p0_wants) (va_A (zW_r_readWant p0 f_p0 p0_nName c_p0_nName b_p0_nName p0_text c_p0_text b_p0_text p0_wantHolds c_p0_wantHolds b_p0_wantHolds p0_wantPull c_p0_wantPull b_p0_wantPull p0_wants c_p0_wants b_p0_wants) sz)) 0 0 (va_A (zW_r_readWant p0 f_p0 p0_nName c_p0_nName b_p0_nName p0_text c_p0_text b_p0_text p0_wantHolds c_p0_wantHolds b_p0_wantHolds p0_wantPull c_p0_wantPull b_p0_wantPull p0_wants c_p0_wants b_p0_wants) sz) := by
  refine Met.ofW (cc := cX9_readWant) (maxL := 2) (ret := none) (by decide) rfl ?_
  intro p e s m args below meth c s₁ B hml hv
  obtain ⟨rfl, hsz, hP, hK, hD0, hE⟩ := hv
  have hx := B.exec
  have hb := B.bytes
  have hr := B.returns
  have hts := atoms_spec (ws := zw_r_readWant) B.pre
  have hown : s.vm.findClass RX9 = some m.cls := findClass_of_methodNamed B.named
  have hlocks := B.notSynchronized
  subst hsz
  have hD := hD0.self (sz := s.heap.size)
  generalize hAe : va_A (zW_r_readWant p0 f_p0 p0_nName c_p0_nName b_p0_nName p0_text c_p0_text b_p0_text p0_wantHolds c_p0_wantHolds b_p0_wantHolds p0_wantPull c_p0_wantPull b_p0_wantPull p0_wants c_p0_wants b_p0_wants) s.heap.size = A at hD hE ⊢
  have hA : ∀ q : Nat, s.heap.size ≤ q → A q := fun q h => by rw [← hAe]; exact Or.inr h
  have hDa : q_DA A (zA_r_readWant p0 p0_nName p0_text p0_wantHolds p0_wantPull p0_wants) := q_DA.mk hD za_r_readWant
  clear hAe hD0 hD
  have hS : va_S A s.heap s.heap [] := va_S.rf
  have m_0 : (.fieldLink RX9 279 "BowWalkModel" "rb" "I" : Cond) ∈ zw_r_readWant := List.mem_append_left _ (List.mem_of_getElem? (i := 1) rfl)
  have k_0 := hts _ m_0
  have m_1 : (.fieldLink RX9 33 "BowWalkModel" "wants" "[I" : Cond) ∈ zw_r_readWant := List.mem_append_left _ (List.mem_of_getElem? (i := 2) rfl)
  have k_1 := hts _ m_1
  have m_2 : (.fieldLink RX9 65 "BowWalkModel" "nName" "[J" : Cond) ∈ zw_r_readWant := List.mem_append_left _ (List.mem_of_getElem? (i := 3) rfl)
  have k_2 := hts _ m_2
  have m_3 : (.methodLink RX9 325 yX9_fresh : Cond) ∈ zw_r_readWant := List.mem_append_left _ (List.mem_of_getElem? (i := 4) rfl)
  have k_3 := hts _ m_3
  have m_4 : (.instanceMethod yX9_fresh : Cond) ∈ zw_r_readWant := List.mem_append_left _ (List.mem_of_getElem? (i := 5) rfl)
  have k_4 := hts _ m_4
  have m_5 : (.selects RX9 yX9_fresh yX9_fresh : Cond) ∈ zw_r_readWant := List.mem_append_left _ (List.mem_of_getElem? (i := 6) rfl)
  have k_5 := hts _ m_5
  have m_6 : (.initialized RX9 : Cond) ∈ zw_r_readWant := List.mem_append_left _ (List.mem_of_getElem? (i := 7) rfl)
  have k_6 := hts _ m_6
  have m_7 : (.fieldLink RX9 92 "BowWalkModel" "wantHolds" "[I" : Cond) ∈ zw_r_readWant := List.mem_append_left _ (List.mem_of_getElem? (i := 8) rfl)
  have k_7 := hts _ m_7
  have m_8 : (.constantLong RX9 204 (448545973363) : Cond) ∈ zw_r_readWant := List.mem_append_left _ (List.mem_of_getElem? (i := 9) rfl)
  have k_8 := hts _ m_8
  have m_9 : (.methodLink RX9 332 yX9_after : Cond) ∈ zw_r_readWant := List.mem_append_left _ (List.mem_of_getElem? (i := 10) rfl)
  have k_9 := hts _ m_9
  have m_10 : (.instanceMethod yX9_after : Cond) ∈ zw_r_readWant := List.mem_append_left _ (List.mem_of_getElem? (i := 11) rfl)
  have k_10 := hts _ m_10
  have m_11 : (.selects RX9 yX9_after yX9_after : Cond) ∈ zw_r_readWant := List.mem_append_left _ (List.mem_of_getElem? (i := 12) rfl)
  have k_11 := hts _ m_11
  have m_12 : (.fieldLink RX9 95 "BowWalkModel" "wantPull" "[I" : Cond) ∈ zw_r_readWant := List.mem_append_left _ (List.mem_of_getElem? (i := 13) rfl)
  have k_12 := hts _ m_12
  have m_13 : (.constantLong RX9 200 (1886743660) : Cond) ∈ zw_r_readWant := List.mem_append_left _ (List.mem_of_getElem? (i := 14) rfl)
  have k_13 := hts _ m_13
  have g_r_fresh : ∀ w ∈ zw_r_fresh, w ∈ zw_r_readWant := fun w h => List.mem_append_right _ (List.mem_append_left _ h)
  have g_r_after : ∀ w ∈ zw_r_after, w ∈ zw_r_readWant := fun w h => List.mem_append_right _ (List.mem_append_right _ (List.mem_append_left _ h))
  have i_X9 : ∀ w ∈ u_ws RX9 TX9 81, w ∈ zw_r_readWant := fun w h => List.mem_append_right _ (List.mem_append_right _ (List.mem_append_right _ (List.mem_append_left _ h)))
  have lt_0 : (0 : Int32).toInt = 0 := by decide
  have lt_1 : (1 : Int32).toInt = 1 := by decide
  have lt_4 : (4 : Int32).toInt = 4 := by decide
  have lt_999 : (999 : Int32).toInt = 999 := by decide
  have lt_2000 : (2000 : Int32).toInt = 2000 := by decide
  have hl := lv_entry ([.ref p0]) (n := 2) (Nat.le_of_ble_eq_true rfl)
  rw [lg_entry_eq]
  generalize (lg_sl ([.ref p0]) ++ List.replicate (2 - (lg_sl ([.ref p0])).length) Slot.unset).toArray = ls at hl ⊢
  have hl : lv_has ls 2 [(0, .ref p0)] := hl
  have tat0 := (OKX9_g6 ho_p0).use pf_at0
  have ten := (OKX9_g7 ho_p0).use pf_en
  have ttk := (OKX9_g8 ho_p0).use pf_tk
  have tsiz := (OKX9_g3 ho_p0).use pf_siz
  have tfk := (OKX9_g4 ho_p0).use pf_fk
  have trb := (OKX9_g44 ho_p0).use pf_rb
  refine lv_iconst (v := 4) hx hb dX9_readWant_0 (by decide) (lv_aload_n hx hb dX9_readWant_1 rfl (lv_at hl 0 rfl) (qg_X9_44 hx hb hts i_X9 hown hK hP 0 rfl k_0 pf_rb dX9_readWant_2 (lv_imul hx hb dX9_readWant_5 (lv_topi fun v_1 ev_1 => ?_))))
  have tv_1 := q_mulc (c := 4) ev_1 (by decide) (by omega) (by omega)
  refine lv_aload_n hx hb dX9_readWant_6 rfl (lv_at hl 0 rfl) (qg_X9_15 hx hb hts i_X9 hown hK hP 0 rfl k_1 fr_p0_15 dX9_readWant_7 (lv_aload_n hx hb dX9_readWant_10 rfl (lv_at hl 0 rfl) (qg_X9_44 hx hb hts i_X9 hown hK hP 0 rfl k_0 pf_rb dX9_readWant_11 (q_ild hx hb hK hP 5 4 rfl rfl (q_in (by omega) (by omega)) dX9_readWant_14 (fun v_2 ev_2 => ?_)))))
  have uv_2 : v_2.toInt = (b_p0_wants rb.toNatClampNeg).toInt := by rw [ev_2]
  have tv_2 := q_rd' hr_p0_wants (q_in (by omega) (by omega)) ev_2
  refine lv_iadd hx hb dX9_readWant_15 (lv_topi fun v_3 ev_3 => ?_)
  have tv_3 := q_add ev_3 (by omega) (by omega)
  refine lv_istore_n (lv' := [(1, .int v_3), (0, .ref p0)]) hx hb dX9_readWant_16 rfl hl (by decide) rfl (fun ls hl => ?_)
  refine lv_aload_n hx hb dX9_readWant_17 rfl (lv_at hl 1 rfl) (qg_X9_25 hx hb hts i_X9 hown hK hP 0 rfl k_2 fr_p0_25 dX9_readWant_18 (lv_iload_n hx hb dX9_readWant_21 rfl (lv_at hl 0 rfl) (lv_aload_n hx hb dX9_readWant_22 rfl (lv_at hl 1 rfl) (lv_aload_n hx hb dX9_readWant_23 rfl (lv_at hl 1 rfl) (qg_X9_25 hx hb hts i_X9 hown hK hP 0 rfl k_2 fr_p0_25 dX9_readWant_24 (lv_iconst (v := 4) hx hb dX9_readWant_27 (by decide) (lv_aload_n hx hb dX9_readWant_28 rfl (lv_at hl 1 rfl) ?_)))))))
  refine qg_X9_44 hx hb hts i_X9 hown hK hP 0 rfl k_0 pf_rb dX9_readWant_29 (lv_imul hx hb dX9_readWant_32 (lv_topi fun v_4 ev_4 => ?_))
  have tv_4 := q_mulc (c := 4) ev_4 (by decide) (by omega) (by omega)
  refine lv_aload_n hx hb dX9_readWant_33 rfl (lv_at hl 1 rfl) (qg_X9_15 hx hb hts i_X9 hown hK hP 0 rfl k_1 fr_p0_15 dX9_readWant_34 (lv_aload_n hx hb dX9_readWant_37 rfl (lv_at hl 1 rfl) (qg_X9_44 hx hb hts i_X9 hown hK hP 0 rfl k_0 pf_rb dX9_readWant_38 (q_ild hx hb hK hP 5 4 rfl rfl (q_in (by omega) (by omega)) dX9_readWant_41 (fun v_5 ev_5 => ?_)))))
  have uv_5 : v_5.toInt = (b_p0_wants rb.toNatClampNeg).toInt := by rw [ev_5]
  have tv_5 := q_rd' hr_p0_wants (q_in (by omega) (by omega)) ev_5
  refine q_cVl (As := [.ref p0_nName, .int v_4, .int v_5]) (rest := [.int v_3, .ref p0_nName]) q_w0 trivial hK hP hDa za_r_readWant hS hA [0, 2, 1] [1, 0] (by decide +kernel) ⟨hx, hb, hml, hown, hts⟩ (r_fresh l dC dI s.heap.size p0 f_p0 p0_text c_p0_text b_p0_text p0_nName c_p0_nName b_p0_nName 8 v_4 v_5 at0 en tk siz fk ho_p0 fr_p0_1 pf_at0 pf_en pf_tk pf_siz pf_fk ((by omega)) ((by omega)) ((by omega)) ((by omega))) rfl rfl (cwV 3 hts (p1_gV m_3 m_4 m_5 m_6 g_r_fresh gz_r_fresh) rfl rfl rfl (by decide +kernel) ⟨by decide, by decide⟩) (va_recv hK hP (ci := 8) (q0 := 0) rfl rfl) zm_r_fresh rfl hl.1 rfl (Nat.le_of_ble_eq_true rfl) dX9_readWant_42 ⟨by decide, by decide⟩ (fun r_6 H7 lo7 hG7 hS7 => ?_)
  obtain ⟨o_8, o_9, o_10, o_11, o_12, ho_13, hf_14, z_15, z_16, z_17, z_18, z_19, z_20, hQ7⟩ := hG7
  have to_9 := (OKX9_g6 ho_13).use z_15
  have to_10 := (OKX9_g7 ho_13).use z_16
  have to_11 := (OKX9_g8 ho_13).use z_17
  have to_12 := (OKX9_g4 ho_13).use z_18
  have hP7 : va_P (dC, dI) vwCl (zW_r_readWant p0 o_8 p0_nName c_p0_nName b_p0_nName p0_text c_p0_text b_p0_text p0_wantHolds c_p0_wantHolds b_p0_wantHolds p0_wantPull c_p0_wantPull b_p0_wantPull p0_wants c_p0_wants b_p0_wants) H7 := hQ7
  clear hQ7 hP hS
  refine q_lst hx hb hK hP7 hDa za_r_readWant hS7 1 0 rfl rfl (q_in (by omega) (by omega)) dX9_readWant_45 (fun H21 lo21 g21 eg21 (hP21 : va_P (dC, dI) vwCl (zW_r_readWant p0 o_8 p0_nName c_p0_nName g21 p0_text c_p0_text b_p0_text p0_wantHolds c_p0_wantHolds b_p0_wantHolds p0_wantPull c_p0_wantPull b_p0_wantPull p0_wants c_p0_wants b_p0_wants) H21) hS21 => ?_)
  clear hP7 hS7
  refine lv_aload_n hx hb dX9_readWant_46 rfl (lv_at hl 1 rfl) (qg_X9_34 hx hb hts i_X9 hown hK hP21 0 rfl k_7 (hf_14.u (by decide) fr_p0_34) dX9_readWant_47 (lv_iload_n hx hb dX9_readWant_50 rfl (lv_at hl 0 rfl) (lv_aload_n hx hb dX9_readWant_51 rfl (lv_at hl 1 rfl) (lv_ldc2 (v := 448545973363) hx hb hown k_8 dX9_readWant_52 (lv_iconst (v := 1) hx hb dX9_readWant_55 (by decide) (lv_sipush (v := 2000) hx hb dX9_readWant_56 (by decide) ?_))))))
  refine q_cVi (As := [.long 448545973363, .int 1, .int 2000]) (rest := [.int v_3, .ref p0_wantHolds]) q_w0 trivial hK hP21 hDa za_r_readWant hS21 hA [0, 2] [1] (by decide +kernel) ⟨hx, hb, hml, hown, hts⟩ (r_after l dC dI H21.size p0 o_8 p0_text c_p0_text b_p0_text 448545973363 1 2000 o_9 o_10 o_11 siz o_12 ho_13 ((hf_14.u (by decide) fr_p0_1)) z_15 z_16 z_17 ((hf_14.u (by decide) pf_siz)) z_18 ((by omega)) ((by omega))) rfl rfl (cwV 3 hts (p1_gV m_9 m_10 m_11 m_6 g_r_after gz_r_after) rfl rfl rfl (by decide +kernel) ⟨by decide, by decide⟩) (va_recv hK hP21 (ci := 8) (q0 := 0) rfl rfl) zm_r_after rfl hl.1 rfl (Nat.le_of_ble_eq_true rfl) dX9_readWant_59 ⟨by decide, by decide⟩ (fun r_22 H23 lo23 hG23 hS23 => ?_)
  obtain ⟨o_24, o_25, o_26, o_27, o_28, z_29, ho_30, hf_31, z_32, z_33, z_34, z_35, z_36, z_37, hQ23⟩ := hG23
  have to_25 := (OKX9_g6 ho_30).use z_32
  have to_26 := (OKX9_g7 ho_30).use z_33
  have to_27 := (OKX9_g8 ho_30).use z_34
  have to_28 := (OKX9_g4 ho_30).use z_35
  have hP23 : va_P (dC, dI) vwCl (zW_r_readWant p0 o_24 p0_nName c_p0_nName g21 p0_text c_p0_text b_p0_text p0_wantHolds c_p0_wantHolds b_p0_wantHolds p0_wantPull c_p0_wantPull b_p0_wantPull p0_wants c_p0_wants b_p0_wants) H23 := hQ23
  clear hQ23 hP21 hS21
  refine q_ist hx hb hK hP23 hDa za_r_readWant hS23 3 2 rfl rfl (q_in (by omega) (by omega)) dX9_readWant_62 (fun H38 lo38 g38 eg38 (hP38 : va_P (dC, dI) vwCl (zW_r_readWant p0 o_24 p0_nName c_p0_nName g21 p0_text c_p0_text b_p0_text p0_wantHolds c_p0_wantHolds g38 p0_wantPull c_p0_wantPull b_p0_wantPull p0_wants c_p0_wants b_p0_wants) H38) hS38 => ?_)
  clear hP23 hS23
  refine lv_aload_n hx hb dX9_readWant_63 rfl (lv_at hl 1 rfl) (qg_X9_35 hx hb hts i_X9 hown hK hP38 0 rfl k_12 (hf_31.u (by decide) (hf_14.u (by decide) fr_p0_35)) dX9_readWant_64 (lv_iload_n hx hb dX9_readWant_67 rfl (lv_at hl 0 rfl) (lv_aload_n hx hb dX9_readWant_68 rfl (lv_at hl 1 rfl) (lv_ldc2 (v := 1886743660) hx hb hown k_13 dX9_readWant_69 (lv_iconst (v := 0) hx hb dX9_readWant_72 (by decide) (lv_sipush (v := 999) hx hb dX9_readWant_73 (by decide) ?_))))))
  refine q_cVi (As := [.long 1886743660, .int 0, .int 999]) (rest := [.int v_3, .ref p0_wantPull]) q_w0 trivial hK hP38 hDa za_r_readWant hS38 hA [0, 2] [1] (by decide +kernel) ⟨hx, hb, hml, hown, hts⟩ (r_after l dC dI H38.size p0 o_24 p0_text c_p0_text b_p0_text 1886743660 0 999 o_25 o_26 o_27 siz o_28 ho_30 ((hf_31.u (by decide) (hf_14.u (by decide) fr_p0_1))) z_32 z_33 z_34 ((hf_31.u (by decide) (hf_14.u (by decide) pf_siz))) z_35 ((by omega)) ((by omega))) rfl rfl (cwV 3 hts (p1_gV m_9 m_10 m_11 m_6 g_r_after gz_r_after) rfl rfl rfl (by decide +kernel) ⟨by decide, by decide⟩) (va_recv hK hP38 (ci := 8) (q0 := 0) rfl rfl) zm_r_after rfl hl.1 rfl (Nat.le_of_ble_eq_true rfl) dX9_readWant_76 ⟨by decide, by decide⟩ (fun r_39 H40 lo40 hG40 hS40 => ?_)
  obtain ⟨o_41, o_42, o_43, o_44, o_45, z_46, ho_47, hf_48, z_49, z_50, z_51, z_52, z_53, z_54, hQ40⟩ := hG40
  have to_42 := (OKX9_g6 ho_47).use z_49
  have to_43 := (OKX9_g7 ho_47).use z_50
  have to_44 := (OKX9_g8 ho_47).use z_51
  have to_45 := (OKX9_g4 ho_47).use z_52
  have hP40 : va_P (dC, dI) vwCl (zW_r_readWant p0 o_41 p0_nName c_p0_nName g21 p0_text c_p0_text b_p0_text p0_wantHolds c_p0_wantHolds g38 p0_wantPull c_p0_wantPull b_p0_wantPull p0_wants c_p0_wants b_p0_wants) H40 := hQ40
  clear hQ40 hP38 hS38
  refine q_ist hx hb hK hP40 hDa za_r_readWant hS40 4 3 rfl rfl (q_in (by omega) (by omega)) dX9_readWant_79 (fun H55 lo55 g55 eg55 (hP55 : va_P (dC, dI) vwCl (zW_r_readWant p0 o_41 p0_nName c_p0_nName g21 p0_text c_p0_text b_p0_text p0_wantHolds c_p0_wantHolds g38 p0_wantPull c_p0_wantPull g55 p0_wants c_p0_wants b_p0_wants) H55) hS55 => ?_)
  clear hP40 hS40
  refine lv_aload_n hx hb dX9_readWant_80 rfl (lv_at hl 1 rfl) (qg_X9_15 hx hb hts i_X9 hown hK hP55 0 rfl k_1 (hf_48.u (by decide) (hf_31.u (by decide) (hf_14.u (by decide) fr_p0_15))) dX9_readWant_81 (lv_aload_n hx hb dX9_readWant_84 rfl (lv_at hl 1 rfl) (qg_X9_44 hx hb hts i_X9 hown hK hP55 0 rfl k_0 (hf_48.u (by decide) (hf_31.u (by decide) (hf_14.u (by decide) pf_rb))) dX9_readWant_85 (lv_dup2_11 hx hb dX9_readWant_88 rfl rfl (q_ild hx hb hK hP55 5 4 rfl rfl (q_in (by omega) (by omega)) dX9_readWant_89 (fun v_56 ev_56 => ?_))))))
  have uv_56 : v_56.toInt = (b_p0_wants rb.toNatClampNeg).toInt := by rw [ev_56]
  have tv_56 := q_rd' hr_p0_wants (q_in (by omega) (by omega)) ev_56
  refine lv_iconst (v := 1) hx hb dX9_readWant_90 (by decide) (lv_iadd hx hb dX9_readWant_91 (lv_topi fun v_57 ev_57 => ?_))
  have tv_57 := q_add ev_57 (by omega) (by omega)
  refine q_ist hx hb hK hP55 hDa za_r_readWant hS55 5 4 rfl rfl (q_in (by omega) (by omega)) dX9_readWant_92 (fun H58 lo58 g58 eg58 (hP58 : va_P (dC, dI) vwCl (zW_r_readWant p0 o_41 p0_nName c_p0_nName g21 p0_text c_p0_text b_p0_text p0_wantHolds c_p0_wantHolds g38 p0_wantPull c_p0_wantPull g55 p0_wants c_p0_wants g58) H58) hS58 => ?_)
  clear hP55 hS55
  have hr_g58 := q_up' hr_p0_wants eg58 ⟨by omega, by omega⟩
  exact q_vret hx hb hr hlocks hS58 dX9_readWant_93 ⟨o_41, g21, g38, g55, g58, o_42, o_43, o_44, o_45, ho_47, (((q_fr.rf.tr hf_14 (by decide)).tr hf_31 (by decide)).tr hf_48 (by decide)), hr_g58, z_49, z_50, z_51, z_52, (by omega), (by omega), hP58, za_r_readWant⟩
