def zo_r_readWalk : List Cond := [.code yX9_readWalk cX9_readWalk 5 none, .fieldLink RX9 279 "BowWalkModel" "rb" "I", .fieldLink RX9 27 "BowWalkModel" "walks" "[I", .fieldLink RX9 59 "BowWalkModel" "wName" "[J", .methodLink RX9 325 yX9_fresh, .instanceMethod yX9_fresh, .selects RX9 yX9_fresh yX9_fresh, .initialized RX9, .fieldLink RX9 83 "BowWalkModel" "steps" "[I", .methodLink RX9 258 yX9_isGood, .instanceMethod yX9_isGood, .selects RX9 yX9_isGood yX9_isGood, .methodLink RX9 275 yX9_numeral, .instanceMethod yX9_numeral, .selects RX9 yX9_numeral yX9_numeral, .fieldLink RX9 86 "BowWalkModel" "strikes" "[I", .fieldLink RX9 89 "BowWalkModel" "swings" "[I", .methodLink RX9 265 yX9_misplaced, .instanceMethod yX9_misplaced, .selects RX9 yX9_misplaced yX9_misplaced, .fieldLink RX9 230 "BowWalkModel" "token" "I"]
def zw_r_readWalk : List Cond := zo_r_readWalk ++ (zw_r_fresh ++ (zw_r_isGood ++ (zw_r_numeral ++ (zw_r_misplaced ++ (wsX90 ++ [])))))
theorem gz_r_readWalk : zw_r_readWalk.all goodWord = true := p1_ga (by decide +kernel) (p1_ga gz_r_fresh (p1_ga gz_r_isGood (p1_ga gz_r_numeral (p1_ga gz_r_misplaced (p1_ga gk_X9 p1_g0)))))
theorem iz_r_readWalk : ∀ w ∈ zw_r_readWalk, w ∈ lw_tbl := p1_ia (p1_all [1382, 1081, 1050, 1060, 1355, 1357, 53, 116, 1068, 1327, 1329, 46, 1375, 1377, 58, 1069, 1070, 1343, 1345, 50, 1045] (by decide +kernel)) (p1_ia iz_r_fresh (p1_ia iz_r_isGood (p1_ia iz_r_numeral (p1_ia iz_r_misplaced (p1_ia ik_X9 p1_i0)))))
def zW_r_readWalk (p0 : Nat) (f_p0 : List Value) (p0_steps : Nat) (c_p0_steps : ClassId) (b_p0_steps : Nat → Int32) (p0_strikes : Nat) (c_p0_strikes : ClassId) (b_p0_strikes : Nat → Int32) (p0_swings : Nat) (c_p0_swings : ClassId) (b_p0_swings : Nat → Int32) (p0_text : Nat) (c_p0_text : ClassId) (b_p0_text : Nat → Int32) (p0_wName : Nat) (c_p0_wName : ClassId) (b_p0_wName : Nat → Int64) (p0_walks : Nat) (c_p0_walks : ClassId) (b_p0_walks : Nat → Int32) : va_W := [(p0, .inr (8, f_p0)), (p0_steps, .inl (c_p0_steps, 8, .inl b_p0_steps)), (p0_strikes, .inl (c_p0_strikes, 64, .inl b_p0_strikes)), (p0_swings, .inl (c_p0_swings, 64, .inl b_p0_swings)), (p0_text, .inl (c_p0_text, 1600, .inl b_p0_text)), (p0_wName, .inl (c_p0_wName, 8, .inr (.inl b_p0_wName))), (p0_walks, .inl (c_p0_walks, 2, .inl b_p0_walks))]
def zT_r_readWalk (c_p0_steps : ClassId) (c_p0_strikes : ClassId) (c_p0_swings : ClassId) (c_p0_text : ClassId) (c_p0_wName : ClassId) (c_p0_walks : ClassId) : List (ClassId × FieldType) := [(c_p0_steps, .int), (c_p0_strikes, .int), (c_p0_swings, .int), (c_p0_text, .byte), (c_p0_wName, .long), (c_p0_walks, .int)]
def zA_r_readWalk (p0 : Nat) (p0_steps : Nat) (p0_strikes : Nat) (p0_swings : Nat) (p0_text : Nat) (p0_wName : Nat) (p0_walks : Nat) : List Nat := [p0, p0_steps, p0_strikes, p0_swings, p0_text, p0_wName, p0_walks]
theorem za_r_readWalk {p0 : Nat} {f_p0 : List Value} {p0_steps : Nat} {c_p0_steps : ClassId} {b_p0_steps : Nat → Int32} {p0_strikes : Nat} {c_p0_strikes : ClassId} {b_p0_strikes : Nat → Int32} {p0_swings : Nat} {c_p0_swings : ClassId} {b_p0_swings : Nat → Int32} {p0_text : Nat} {c_p0_text : ClassId} {b_p0_text : Nat → Int32} {p0_wName : Nat} {c_p0_wName : ClassId} {b_p0_wName : Nat → Int64} {p0_walks : Nat} {c_p0_walks : ClassId} {b_p0_walks : Nat → Int32} : (zW_r_readWalk p0 f_p0 p0_steps c_p0_steps b_p0_steps p0_strikes c_p0_strikes b_p0_strikes p0_swings c_p0_swings b_p0_swings p0_text c_p0_text b_p0_text p0_wName c_p0_wName b_p0_wName p0_walks c_p0_walks b_p0_walks).map Prod.fst = (zA_r_readWalk p0 p0_steps p0_strikes p0_swings p0_text p0_wName p0_walks) := rfl
def zG_r_readWalk (p0 : Nat) (f_p0 : List Value) (p0_steps : Nat) (c_p0_steps : ClassId) (b_p0_steps : Nat → Int32) (p0_strikes : Nat) (c_p0_strikes : ClassId) (b_p0_strikes : Nat → Int32) (p0_swings : Nat) (c_p0_swings : ClassId) (b_p0_swings : Nat → Int32) (p0_text : Nat) (c_p0_text : ClassId) (b_p0_text : Nat → Int32) (p0_wName : Nat) (c_p0_wName : ClassId) (b_p0_wName : Nat → Int64) (p0_walks : Nat) (c_p0_walks : ClassId) (b_p0_walks : Nat → Int32) (at0 : Int32) (en : Int32) (tk : Int32) (siz : Int32) (fk : Int32) (rb : Int32) (X : va_W → Prop) : Prop := ∃ (y_p0 : List Value) (y_p0_steps : Nat → Int32) (y_p0_strikes : Nat → Int32) (y_p0_swings : Nat → Int32) (y_p0_wName : Nat → Int64) (y_p0_walks : Nat → Int32) (at1 : Int32) (en1 : Int32) (tk1 : Int32) (fk1 : Int32), OKX9 y_p0 ∧ q_fr [4, 5, 6, 7, 8, 9, 10] f_p0 y_p0 ∧ (q_rg 8 (0) 8 y_p0_steps) ∧ (q_rg 2 (0) 4 y_p0_walks) ∧ q_if y_p0 6 at1 ∧ q_if y_p0 7 en1 ∧ q_if y_p0 8 tk1 ∧ q_if y_p0 4 fk1 ∧ (en1.toInt ≤ siz.toInt ∧ at0.toInt ≤ at1.toInt ∧ at1.toInt ≤ en1.toInt ∧ (tk1.toInt ≠ 3 ∨ at1.toInt < en1.toInt)) ∧ (fk.toInt = 0 ∨ 1 ≤ fk1.toInt) ∧ (q_offd rb.toInt b_p0_walks y_p0_walks) ∧ (q_offd (4 * rb.toInt + (b_p0_walks rb.toNatClampNeg).toInt) b_p0_steps y_p0_steps) ∧ (1 ≤ fk1.toInt ∨ ((y_p0_walks rb.toNatClampNeg).toInt = (b_p0_walks rb.toNatClampNeg).toInt + 1 ∧ ∀ j : Nat, (j : Int) = 4 * rb.toInt + (b_p0_walks rb.toNatClampNeg).toInt → 1 ≤ (y_p0_steps j).toInt)) ∧ X (zW_r_readWalk p0 y_p0 p0_steps c_p0_steps y_p0_steps p0_strikes c_p0_strikes y_p0_strikes p0_swings c_p0_swings y_p0_swings p0_text c_p0_text b_p0_text p0_wName c_p0_wName y_p0_wName p0_walks c_p0_walks y_p0_walks)
theorem zm_r_readWalk {p0 : Nat} {f_p0 : List Value} {p0_steps : Nat} {c_p0_steps : ClassId} {b_p0_steps : Nat → Int32} {p0_strikes : Nat} {c_p0_strikes : ClassId} {b_p0_strikes : Nat → Int32} {p0_swings : Nat} {c_p0_swings : ClassId} {b_p0_swings : Nat → Int32} {p0_text : Nat} {c_p0_text : ClassId} {b_p0_text : Nat → Int32} {p0_wName : Nat} {c_p0_wName : ClassId} {b_p0_wName : Nat → Int64} {p0_walks : Nat} {c_p0_walks : ClassId} {b_p0_walks : Nat → Int32} {at0 : Int32} {en : Int32} {tk : Int32} {siz : Int32} {fk : Int32} {rb : Int32} : ∀ X Y : va_W → Prop, (∀ w, X w → Y w) → zG_r_readWalk p0 f_p0 p0_steps c_p0_steps b_p0_steps p0_strikes c_p0_strikes b_p0_strikes p0_swings c_p0_swings b_p0_swings p0_text c_p0_text b_p0_text p0_wName c_p0_wName b_p0_wName p0_walks c_p0_walks b_p0_walks at0 en tk siz fk rb X → zG_r_readWalk p0 f_p0 p0_steps c_p0_steps b_p0_steps p0_strikes c_p0_strikes b_p0_strikes p0_swings c_p0_swings b_p0_swings p0_text c_p0_text b_p0_text p0_wName c_p0_wName b_p0_wName p0_walks c_p0_walks b_p0_walks at0 en tk siz fk rb Y := fun X Y h h1 => by obtain ⟨x0, x1, x2, x3, x4, x5, x6, x7, x8, x9, x10, x11, x12, x13, x14, x15, x16, x17, x18, x19, x20, x21, x22, hx⟩ := h1; exact ⟨x0, x1, x2, x3, x4, x5, x6, x7, x8, x9, x10, x11, x12, x13, x14, x15, x16, x17, x18, x19, x20, x21, x22, h _ hx⟩
set_option maxHeartbeats 4000000 in
set_option maxRecDepth 100000 in
theorem r_readWalk (l : Launch) (dC : Nat → ClassId) (dI : Nat → Nat → Nat) (sz : Nat) (p0 : Nat) (f_p0 : List Value) (p0_steps : Nat) (c_p0_steps : ClassId) (b_p0_steps : Nat → Int32) (p0_strikes : Nat) (c_p0_strikes : ClassId) (b_p0_strikes : Nat → Int32) (p0_swings : Nat) (c_p0_swings : ClassId) (b_p0_swings : Nat → Int32) (p0_text : Nat) (c_p0_text : ClassId) (b_p0_text : Nat → Int32) (p0_wName : Nat) (c_p0_wName : ClassId) (b_p0_wName : Nat → Int64) (p0_walks : Nat) (c_p0_walks : ClassId) (b_p0_walks : Nat → Int32) (at0 : Int32) (en : Int32) (tk : Int32) (siz : Int32) (fk : Int32) (rb : Int32) (ho_p0 : OKX9 f_p0) (fr_p0_1 : q_rf f_p0 1 p0_text) (fr_p0_13 : q_rf f_p0 13 p0_walks) (fr_p0_23 : q_rf f_p0 23 p0_wName) (fr_p0_31 : q_rf f_p0 31 p0_steps) (fr_p0_32 : q_rf f_p0 32 p0_strikes) (fr_p0_33 : q_rf f_p0 33 p0_swings) (hr_p0_steps : q_rg 8 (0) 8 b_p0_steps) (hr_p0_walks : q_rg 2 (0) 4 b_p0_walks) (pf_at0 : q_if f_p0 6 at0) (pf_en : q_if f_p0 7 en) (pf_tk : q_if f_p0 8 tk) (pf_siz : q_if f_p0 3 siz) (pf_fk : q_if f_p0 4 fk) (pf_rb : q_if f_p0 44 rb) (hR : en.toInt ≤ siz.toInt ∧ at0.toInt ≤ en.toInt ∧ (tk.toInt ≠ 3 ∨ at0.toInt < en.toInt)) (hk : (b_p0_walks rb.toNatClampNeg).toInt ≤ 3) : Met l yX9_readWalk zw_r_readWalk ({ frames := 3, cells := 0, slots := 0, locals := 69 }) (va_Pc [.ref p0] (q_pre (dC, dI) (zW_r_readWalk p0 f_p0 p0_steps c_p0_steps b_p0_steps p0_strikes c_p0_strikes b_p0_strikes p0_swings c_p0_swings b_p0_swings p0_text c_p0_text b_p0_text p0_wName c_p0_wName b_p0_wName p0_walks c_p0_walks b_p0_walks) (zT_r_readWalk c_p0_steps c_p0_strikes c_p0_swings c_p0_text c_p0_wName c_p0_walks) q_E0 sz)) (q_Qv (dC, dI) (zG_r_readWalk p0 f_p0 p0_steps c_p0_steps b_p0_steps p0_strikes c_p0_strikes b_p0_strikes p0_swings c_p0_swings b_p0_swings p0_text c_p0_text b_p0_text p0_wName c_p0_wName b_p0_wName p0_walks c_p0_walks b_p0_walks at0 en tk siz fk rb) (zA_r_readWalk p0 p0_steps p0_strikes p0_swings p0_text p0_wName p0_walks) (va_A (zW_r_readWalk p0 f_p0 p0_steps c_p0_steps b_p0_steps p0_strikes c_p0_strikes b_p0_strikes p0_swings c_p0_swings b_p0_swings p0_text c_p0_text b_p0_text p0_wName c_p0_wName b_p0_wName p0_walks c_p0_walks b_p0_walks) sz)) 0 0 (va_A (zW_r_readWalk p0 f_p0 p0_steps c_p0_steps b_p0_steps p0_strikes c_p0_strikes b_p0_strikes p0_swings c_p0_swings b_p0_swings p0_text c_p0_text b_p0_text p0_wName c_p0_wName b_p0_wName p0_walks c_p0_walks b_p0_walks) sz) := by
  refine Met.ofW (cc := cX9_readWalk) (maxL := 5) (ret := none) (by decide) rfl ?_
  intro p e s m args below meth c s₁ B hml hv
  obtain ⟨rfl, hsz, hP, hK, hD0, hE⟩ := hv
  have hx := B.exec
  have hb := B.bytes
  have hr := B.returns
  have hts := atoms_spec (ws := zw_r_readWalk) B.pre
  have hown : s.vm.findClass RX9 = some m.cls := findClass_of_methodNamed B.named
  have hlocks := B.notSynchronized
  subst hsz
  have hD := hD0.self (sz := s.heap.size)
  generalize hAe : va_A (zW_r_readWalk p0 f_p0 p0_steps c_p0_steps b_p0_steps p0_strikes c_p0_strikes b_p0_strikes p0_swings c_p0_swings b_p0_swings p0_text c_p0_text b_p0_text p0_wName c_p0_wName b_p0_wName p0_walks c_p0_walks b_p0_walks) s.heap.size = A at hD hE ⊢
  have hA : ∀ q : Nat, s.heap.size ≤ q → A q := fun q h => by rw [← hAe]; exact Or.inr h
  have hDa : q_DA A (zA_r_readWalk p0 p0_steps p0_strikes p0_swings p0_text p0_wName p0_walks) := q_DA.mk hD za_r_readWalk
  clear hAe hD0 hD
  have hS : va_S A s.heap s.heap [] := va_S.rf
  have m_0 : (.fieldLink RX9 279 "BowWalkModel" "rb" "I" : Cond) ∈ zw_r_readWalk := List.mem_append_left _ (List.mem_of_getElem? (i := 1) rfl)
  have k_0 := hts _ m_0
  have m_1 : (.fieldLink RX9 27 "BowWalkModel" "walks" "[I" : Cond) ∈ zw_r_readWalk := List.mem_append_left _ (List.mem_of_getElem? (i := 2) rfl)
  have k_1 := hts _ m_1
  have m_2 : (.fieldLink RX9 59 "BowWalkModel" "wName" "[J" : Cond) ∈ zw_r_readWalk := List.mem_append_left _ (List.mem_of_getElem? (i := 3) rfl)
  have k_2 := hts _ m_2
  have m_3 : (.methodLink RX9 325 yX9_fresh : Cond) ∈ zw_r_readWalk := List.mem_append_left _ (List.mem_of_getElem? (i := 4) rfl)
  have k_3 := hts _ m_3
  have m_4 : (.instanceMethod yX9_fresh : Cond) ∈ zw_r_readWalk := List.mem_append_left _ (List.mem_of_getElem? (i := 5) rfl)
  have k_4 := hts _ m_4
  have m_5 : (.selects RX9 yX9_fresh yX9_fresh : Cond) ∈ zw_r_readWalk := List.mem_append_left _ (List.mem_of_getElem? (i := 6) rfl)
  have k_5 := hts _ m_5
  have m_6 : (.initialized RX9 : Cond) ∈ zw_r_readWalk := List.mem_append_left _ (List.mem_of_getElem? (i := 7) rfl)
  have k_6 := hts _ m_6
  have m_7 : (.fieldLink RX9 83 "BowWalkModel" "steps" "[I" : Cond) ∈ zw_r_readWalk := List.mem_append_left _ (List.mem_of_getElem? (i := 8) rfl)
  have k_7 := hts _ m_7
  have m_8 : (.methodLink RX9 258 yX9_isGood : Cond) ∈ zw_r_readWalk := List.mem_append_left _ (List.mem_of_getElem? (i := 9) rfl)
  have k_8 := hts _ m_8
  have m_9 : (.instanceMethod yX9_isGood : Cond) ∈ zw_r_readWalk := List.mem_append_left _ (List.mem_of_getElem? (i := 10) rfl)
  have k_9 := hts _ m_9
  have m_10 : (.selects RX9 yX9_isGood yX9_isGood : Cond) ∈ zw_r_readWalk := List.mem_append_left _ (List.mem_of_getElem? (i := 11) rfl)
  have k_10 := hts _ m_10
  have m_11 : (.methodLink RX9 275 yX9_numeral : Cond) ∈ zw_r_readWalk := List.mem_append_left _ (List.mem_of_getElem? (i := 12) rfl)
  have k_11 := hts _ m_11
  have m_12 : (.instanceMethod yX9_numeral : Cond) ∈ zw_r_readWalk := List.mem_append_left _ (List.mem_of_getElem? (i := 13) rfl)
  have k_12 := hts _ m_12
  have m_13 : (.selects RX9 yX9_numeral yX9_numeral : Cond) ∈ zw_r_readWalk := List.mem_append_left _ (List.mem_of_getElem? (i := 14) rfl)
  have k_13 := hts _ m_13
  have m_14 : (.fieldLink RX9 86 "BowWalkModel" "strikes" "[I" : Cond) ∈ zw_r_readWalk := List.mem_append_left _ (List.mem_of_getElem? (i := 15) rfl)
  have k_14 := hts _ m_14
  have m_15 : (.fieldLink RX9 89 "BowWalkModel" "swings" "[I" : Cond) ∈ zw_r_readWalk := List.mem_append_left _ (List.mem_of_getElem? (i := 16) rfl)
  have k_15 := hts _ m_15
  have m_16 : (.methodLink RX9 265 yX9_misplaced : Cond) ∈ zw_r_readWalk := List.mem_append_left _ (List.mem_of_getElem? (i := 17) rfl)
  have k_16 := hts _ m_16
  have m_17 : (.instanceMethod yX9_misplaced : Cond) ∈ zw_r_readWalk := List.mem_append_left _ (List.mem_of_getElem? (i := 18) rfl)
  have k_17 := hts _ m_17
  have m_18 : (.selects RX9 yX9_misplaced yX9_misplaced : Cond) ∈ zw_r_readWalk := List.mem_append_left _ (List.mem_of_getElem? (i := 19) rfl)
  have k_18 := hts _ m_18
  have m_19 : (.fieldLink RX9 230 "BowWalkModel" "token" "I" : Cond) ∈ zw_r_readWalk := List.mem_append_left _ (List.mem_of_getElem? (i := 20) rfl)
  have k_19 := hts _ m_19
  have g_r_fresh : ∀ w ∈ zw_r_fresh, w ∈ zw_r_readWalk := fun w h => List.mem_append_right _ (List.mem_append_left _ h)
  have g_r_isGood : ∀ w ∈ zw_r_isGood, w ∈ zw_r_readWalk := fun w h => List.mem_append_right _ (List.mem_append_right _ (List.mem_append_left _ h))
  have g_r_numeral : ∀ w ∈ zw_r_numeral, w ∈ zw_r_readWalk := fun w h => List.mem_append_right _ (List.mem_append_right _ (List.mem_append_right _ (List.mem_append_left _ h)))
  have g_r_misplaced : ∀ w ∈ zw_r_misplaced, w ∈ zw_r_readWalk := fun w h => List.mem_append_right _ (List.mem_append_right _ (List.mem_append_right _ (List.mem_append_right _ (List.mem_append_left _ h))))
  have i_X9 : ∀ w ∈ u_ws RX9 TX9 81, w ∈ zw_r_readWalk := fun w h => List.mem_append_right _ (List.mem_append_right _ (List.mem_append_right _ (List.mem_append_right _ (List.mem_append_right _ (List.mem_append_left _ h)))))
  have lt_0 : (0 : Int32).toInt = 0 := by decide
  have lt_1 : (1 : Int32).toInt = 1 := by decide
  have lt_4 : (4 : Int32).toInt = 4 := by decide
  have lt_8 : (8 : Int32).toInt = 8 := by decide
  have lt_99 : (99 : Int32).toInt = 99 := by decide
  have hl := lv_entry ([.ref p0]) (n := 5) (Nat.le_of_ble_eq_true rfl)
  rw [lg_entry_eq]
  generalize (lg_sl ([.ref p0]) ++ List.replicate (5 - (lg_sl ([.ref p0])).length) Slot.unset).toArray = ls at hl ⊢
  have hl : lv_has ls 5 [(0, .ref p0)] := hl
  have tat0 := (OKX9_g6 ho_p0).use pf_at0
  have ten := (OKX9_g7 ho_p0).use pf_en
  have ttk := (OKX9_g8 ho_p0).use pf_tk
  have tsiz := (OKX9_g3 ho_p0).use pf_siz
  have tfk := (OKX9_g4 ho_p0).use pf_fk
  have trb := (OKX9_g44 ho_p0).use pf_rb
  refine lv_iconst (v := 4) hx hb dX9_readWalk_0 (by decide) (lv_aload_n hx hb dX9_readWalk_1 rfl (lv_at hl 0 rfl) (qg_X9_44 hx hb hts i_X9 hown hK hP 0 rfl k_0 pf_rb dX9_readWalk_2 (lv_imul hx hb dX9_readWalk_5 (lv_topi fun v_1 ev_1 => ?_))))
  have tv_1 := q_mulc (c := 4) ev_1 (by decide) (by omega) (by omega)
  refine lv_aload_n hx hb dX9_readWalk_6 rfl (lv_at hl 0 rfl) (qg_X9_13 hx hb hts i_X9 hown hK hP 0 rfl k_1 fr_p0_13 dX9_readWalk_7 (lv_aload_n hx hb dX9_readWalk_10 rfl (lv_at hl 0 rfl) (qg_X9_44 hx hb hts i_X9 hown hK hP 0 rfl k_0 pf_rb dX9_readWalk_11 (q_ild hx hb hK hP 6 5 rfl rfl (q_in (by omega) (by omega)) dX9_readWalk_14 (fun v_2 ev_2 => ?_)))))
  have uv_2 : v_2.toInt = (b_p0_walks rb.toNatClampNeg).toInt := by rw [ev_2]
  have tv_2 := q_rd' hr_p0_walks (q_in (by omega) (by omega)) ev_2
  refine lv_iadd hx hb dX9_readWalk_15 (lv_topi fun v_3 ev_3 => ?_)
  have tv_3 := q_add ev_3 (by omega) (by omega)
  refine lv_istore_n (lv' := [(1, .int v_3), (0, .ref p0)]) hx hb dX9_readWalk_16 rfl hl (by decide) rfl (fun ls hl => ?_)
  refine lv_aload_n hx hb dX9_readWalk_17 rfl (lv_at hl 1 rfl) (qg_X9_23 hx hb hts i_X9 hown hK hP 0 rfl k_2 fr_p0_23 dX9_readWalk_18 (lv_iload_n hx hb dX9_readWalk_21 rfl (lv_at hl 0 rfl) (lv_aload_n hx hb dX9_readWalk_22 rfl (lv_at hl 1 rfl) (lv_aload_n hx hb dX9_readWalk_23 rfl (lv_at hl 1 rfl) (qg_X9_23 hx hb hts i_X9 hown hK hP 0 rfl k_2 fr_p0_23 dX9_readWalk_24 (lv_iconst (v := 4) hx hb dX9_readWalk_27 (by decide) (lv_aload_n hx hb dX9_readWalk_28 rfl (lv_at hl 1 rfl) ?_)))))))
  refine qg_X9_44 hx hb hts i_X9 hown hK hP 0 rfl k_0 pf_rb dX9_readWalk_29 (lv_imul hx hb dX9_readWalk_32 (lv_topi fun v_4 ev_4 => ?_))
  have tv_4 := q_mulc (c := 4) ev_4 (by decide) (by omega) (by omega)
  refine lv_aload_n hx hb dX9_readWalk_33 rfl (lv_at hl 1 rfl) (qg_X9_13 hx hb hts i_X9 hown hK hP 0 rfl k_1 fr_p0_13 dX9_readWalk_34 (lv_aload_n hx hb dX9_readWalk_37 rfl (lv_at hl 1 rfl) (qg_X9_44 hx hb hts i_X9 hown hK hP 0 rfl k_0 pf_rb dX9_readWalk_38 (q_ild hx hb hK hP 6 5 rfl rfl (q_in (by omega) (by omega)) dX9_readWalk_41 (fun v_5 ev_5 => ?_)))))
  have uv_5 : v_5.toInt = (b_p0_walks rb.toNatClampNeg).toInt := by rw [ev_5]
  have tv_5 := q_rd' hr_p0_walks (q_in (by omega) (by omega)) ev_5
  refine q_cVl (As := [.ref p0_wName, .int v_4, .int v_5]) (rest := [.int v_3, .ref p0_wName]) q_w0 trivial hK hP hDa za_r_readWalk hS hA [0, 4, 5] [3, 4] (by decide +kernel) ⟨hx, hb, hml, hown, hts⟩ (r_fresh l dC dI s.heap.size p0 f_p0 p0_text c_p0_text b_p0_text p0_wName c_p0_wName b_p0_wName 8 v_4 v_5 at0 en tk siz fk ho_p0 fr_p0_1 pf_at0 pf_en pf_tk pf_siz pf_fk ((by omega)) ((by omega)) ((by omega)) ((by omega))) rfl rfl (cwV 3 hts (p1_gV m_3 m_4 m_5 m_6 g_r_fresh gz_r_fresh) rfl rfl rfl (by decide +kernel) ⟨by decide, by decide⟩) (va_recv hK hP (ci := 8) (q0 := 0) rfl rfl) zm_r_fresh rfl hl.1 rfl (Nat.le_of_ble_eq_true rfl) dX9_readWalk_42 ⟨by decide, by decide⟩ (fun r_6 H7 lo7 hG7 hS7 => ?_)
  obtain ⟨o_8, o_9, o_10, o_11, o_12, ho_13, hf_14, z_15, z_16, z_17, z_18, z_19, z_20, hQ7⟩ := hG7
  have to_9 := (OKX9_g6 ho_13).use z_15
  have to_10 := (OKX9_g7 ho_13).use z_16
  have to_11 := (OKX9_g8 ho_13).use z_17
  have to_12 := (OKX9_g4 ho_13).use z_18
  have hP7 : va_P (dC, dI) vwCl (zW_r_readWalk p0 o_8 p0_steps c_p0_steps b_p0_steps p0_strikes c_p0_strikes b_p0_strikes p0_swings c_p0_swings b_p0_swings p0_text c_p0_text b_p0_text p0_wName c_p0_wName b_p0_wName p0_walks c_p0_walks b_p0_walks) H7 := hQ7
  clear hQ7 hP hS
  refine q_lst hx hb hK hP7 hDa za_r_readWalk hS7 5 4 rfl rfl (q_in (by omega) (by omega)) dX9_readWalk_45 (fun H21 lo21 g21 eg21 (hP21 : va_P (dC, dI) vwCl (zW_r_readWalk p0 o_8 p0_steps c_p0_steps b_p0_steps p0_strikes c_p0_strikes b_p0_strikes p0_swings c_p0_swings b_p0_swings p0_text c_p0_text b_p0_text p0_wName c_p0_wName g21 p0_walks c_p0_walks b_p0_walks) H21) hS21 => ?_)
  clear hP7 hS7
  refine lv_aload_n hx hb dX9_readWalk_46 rfl (lv_at hl 1 rfl) (qg_X9_31 hx hb hts i_X9 hown hK hP21 0 rfl k_7 (hf_14.u (by decide) fr_p0_31) dX9_readWalk_47 (lv_iload_n hx hb dX9_readWalk_50 rfl (lv_at hl 0 rfl) (lv_iconst (v := 0) hx hb dX9_readWalk_51 (by decide) (q_ist hx hb hK hP21 hDa za_r_readWalk hS21 1 0 rfl rfl (q_in (by omega) (by omega)) dX9_readWalk_52 (fun H22 lo22 g22 eg22 (hP22 : va_P (dC, dI) vwCl (zW_r_readWalk p0 o_8 p0_steps c_p0_steps g22 p0_strikes c_p0_strikes b_p0_strikes p0_swings c_p0_swings b_p0_swings p0_text c_p0_text b_p0_text p0_wName c_p0_wName g21 p0_walks c_p0_walks b_p0_walks) H22) hS22 => ?_)))))
  clear hP21 hS21
  have hr_g22 := q_up' hr_p0_steps eg22 ⟨by omega, by omega⟩
  have usg22 : (g22 v_3.toNatClampNeg).toInt = (0 : Int32).toInt := by rw [eg22, pk_us]
  have osg22 := (q_offd.rf : q_offd (4 * rb.toInt + (b_p0_walks rb.toNatClampNeg).toInt) b_p0_steps b_p0_steps).up eg22 (by omega) (by omega)
  have key53 : ∀ (fu53 : Nat) (fz_p0 : List Value) (fkv : Int32) (atv : Int32) (env : Int32) (tkv : Int32) (bz_p0_steps : Nat → Int32) (bz_p0_strikes : Nat → Int32) (bz_p0_swings : Nat → Int32) (H : Heap) (locs : List Loc) (ls : Array Slot) (hfu53 : (if fkv.toInt = 0 then 100 else 0) + 9 - (bz_p0_steps v_3.toNatClampNeg).toInt ≤ (fu53 : Int)) (ho_fz_p0 : OKX9 fz_p0) (hf_fz_p0 : q_fr [4, 5, 6, 7, 8, 9, 10] f_p0 fz_p0) (fr_fz_p0_1 : q_rf fz_p0 1 p0_text) (fh_fz_p0_3 : q_if fz_p0 3 siz) (fv_fz_p0_4 : q_if fz_p0 4 fkv) (tfkv : (0) ≤ fkv.toInt ∧ fkv.toInt ≤ 4) (fv_fz_p0_6 : q_if fz_p0 6 atv) (tatv : (0) ≤ atv.toInt ∧ atv.toInt ≤ 1600) (fv_fz_p0_7 : q_if fz_p0 7 env) (tenv : (0) ≤ env.toInt ∧ env.toInt ≤ 1601) (fv_fz_p0_8 : q_if fz_p0 8 tkv) (ttkv : (0) ≤ tkv.toInt ∧ tkv.toInt ≤ 5) (fr_fz_p0_13 : q_rf fz_p0 13 p0_walks) (fr_fz_p0_23 : q_rf fz_p0 23 p0_wName) (fr_fz_p0_31 : q_rf fz_p0 31 p0_steps) (fr_fz_p0_32 : q_rf fz_p0 32 p0_strikes) (fr_fz_p0_33 : q_rf fz_p0 33 p0_swings) (fh_fz_p0_44 : q_if fz_p0 44 rb) (hr_bz_p0_steps : q_rg 8 (0) 8 bz_p0_steps) (hq53_0 : env.toInt ≤ siz.toInt ∧ at0.toInt ≤ atv.toInt ∧ atv.toInt ≤ env.toInt ∧ (tkv.toInt ≠ 3 ∨ atv.toInt < env.toInt)) (hq53_1 : fk.toInt = 0 ∨ 1 ≤ fkv.toInt) (hq53_2 : q_offd (4 * rb.toInt + (b_p0_walks rb.toNatClampNeg).toInt) b_p0_steps bz_p0_steps) (hq53_3 : 0 ≤ (bz_p0_steps v_3.toNatClampNeg).toInt ∧ (bz_p0_steps v_3.toNatClampNeg).toInt ≤ 8), va_P (dC, dI) vwCl (zW_r_readWalk p0 fz_p0 p0_steps c_p0_steps bz_p0_steps p0_strikes c_p0_strikes bz_p0_strikes p0_swings c_p0_swings bz_p0_swings p0_text c_p0_text b_p0_text p0_wName c_p0_wName g21 p0_walks c_p0_walks b_p0_walks) H → va_S A s.heap H locs → lv_has ls 5 [(1, .int v_3), (0, .ref p0)] → W p l e (headSpec zw_r_readWalk { frames := 3, cells := 0, slots := 0, locals := 69 }).room s m ([.ref p0] : List Value).toArray below meth c H locs 0 0 (MQ below (q_Qv (dC, dI) (zG_r_readWalk p0 f_p0 p0_steps c_p0_steps b_p0_steps p0_strikes c_p0_strikes b_p0_strikes p0_swings c_p0_swings b_p0_swings p0_text c_p0_text b_p0_text p0_wName c_p0_wName b_p0_wName p0_walks c_p0_walks b_p0_walks at0 en tk siz fk rb) (zA_r_readWalk p0 p0_steps p0_strikes p0_swings p0_text p0_wName p0_walks) A) ([.ref p0] : List Value).toArray s 0 0 A) (F0 m 53 ls []) := by
    intro fu53
    induction fu53 using Nat.strongRecOn with
    | ind fu53 ih53 =>
      intro fz_p0 fkv atv env tkv bz_p0_steps bz_p0_strikes bz_p0_swings H23 lo23 ls hfu53 ho_fz_p0 hf_fz_p0 fr_fz_p0_1 fh_fz_p0_3 fv_fz_p0_4 tfkv fv_fz_p0_6 tatv fv_fz_p0_7 tenv fv_fz_p0_8 ttkv fr_fz_p0_13 fr_fz_p0_23 fr_fz_p0_31 fr_fz_p0_32 fr_fz_p0_33 fh_fz_p0_44 hr_bz_p0_steps hq53_0 hq53_1 hq53_2 hq53_3 hP23 hS23 hl
      refine lv_aload_n hx hb dX9_readWalk_53 rfl (lv_at hl 1 rfl) ?_
      refine q_cVi (As := []) (rest := []) q_w0 trivial hK hP23 hDa za_r_readWalk hS23 hA [0] [] (by decide +kernel) ⟨hx, hb, hml, hown, hts⟩ (r_isGood l dC dI H23.size p0 fz_p0 fkv ho_fz_p0 fv_fz_p0_4) rfl rfl (cwV 0 hts (p1_gV m_8 m_9 m_10 m_6 g_r_isGood gz_r_isGood) rfl rfl rfl (by decide +kernel) ⟨by decide, by decide⟩) (va_recv hK hP23 (ci := 8) (q0 := 0) rfl rfl) zm_r_isGood rfl hl.1 rfl (Nat.le_of_ble_eq_true rfl) dX9_readWalk_54 ⟨by decide, by decide⟩ (fun r_24 H25 lo25 hG25 hS25 => ?_)
      obtain ⟨z_26, hQ25⟩ := hG25
      have hP25 : va_P (dC, dI) vwCl (zW_r_readWalk p0 fz_p0 p0_steps c_p0_steps bz_p0_steps p0_strikes c_p0_strikes bz_p0_strikes p0_swings c_p0_swings bz_p0_swings p0_text c_p0_text b_p0_text p0_wName c_p0_wName g21 p0_walks c_p0_walks b_p0_walks) H25 := hQ25
      clear hQ25 hP23 hS23
      rcases z_26 with ⟨rfl, z_26⟩ | ⟨rfl, z_26⟩
      · refine lv_if_eq (tgt := 157) hx hb dX9_readWalk_57 (by decide) (fun c_27 => absurd c_27 (by decide)) (fun c_27 => ?_)
        refine lv_aload_n hx hb dX9_readWalk_60 rfl (lv_at hl 1 rfl) (qg_X9_31 hx hb hts i_X9 hown hK hP25 0 rfl k_7 fr_fz_p0_31 dX9_readWalk_61 (lv_iload_n hx hb dX9_readWalk_64 rfl (lv_at hl 0 rfl) (q_ild hx hb hK hP25 1 0 rfl rfl (q_in (by omega) (by omega)) dX9_readWalk_65 (fun v_28 ev_28 => ?_))))
        have uv_28 : v_28.toInt = (bz_p0_steps v_3.toNatClampNeg).toInt := by rw [ev_28]
        have tv_28 := q_rd' hr_bz_p0_steps (q_in (by omega) (by omega)) ev_28
        refine lv_if_eq (tgt := 77) hx hb dX9_readWalk_66 (by decide) (fun c_29 => ?_) (fun c_29 => ?_)
        · have tc_29 := q_eq c_29
          refine lv_aload_n hx hb dX9_readWalk_77 rfl (lv_at hl 1 rfl) (qg_X9_31 hx hb hts i_X9 hown hK hP25 0 rfl k_7 fr_fz_p0_31 dX9_readWalk_78 (lv_iload_n hx hb dX9_readWalk_81 rfl (lv_at hl 0 rfl) (q_ild hx hb hK hP25 1 0 rfl rfl (q_in (by omega) (by omega)) dX9_readWalk_82 (fun v_30 ev_30 => ?_))))
          have uv_30 : v_30.toInt = (bz_p0_steps v_3.toNatClampNeg).toInt := by rw [ev_30]
          have tv_30 := q_rd' hr_bz_p0_steps (q_in (by omega) (by omega)) ev_30
          refine lv_bipush (v := 8) hx hb dX9_readWalk_83 (by decide) ?_
          refine lv_icmp_ne (tgt := 92) hx hb dX9_readWalk_85 (by decide) (fun c_31 => ?_) (fun c_31 => ?_)
          · have tc_31 := q_ne c_31
            refine lv_bipush (v := 8) hx hb dX9_readWalk_92 (by decide) (lv_iload_n hx hb dX9_readWalk_94 rfl (lv_at hl 0 rfl) (lv_imul hx hb dX9_readWalk_95 (lv_topi fun v_32 ev_32 => ?_)))
            have tv_32 := q_mulc (c := 8) ev_32 (by decide) (by omega) (by omega)
            refine lv_aload_n hx hb dX9_readWalk_96 rfl (lv_at hl 1 rfl) (qg_X9_31 hx hb hts i_X9 hown hK hP25 0 rfl k_7 fr_fz_p0_31 dX9_readWalk_97 (lv_iload_n hx hb dX9_readWalk_100 rfl (lv_at hl 0 rfl) (q_ild hx hb hK hP25 1 0 rfl rfl (q_in (by omega) (by omega)) dX9_readWalk_101 (fun v_33 ev_33 => ?_))))
            have uv_33 : v_33.toInt = (bz_p0_steps v_3.toNatClampNeg).toInt := by rw [ev_33]
            have tv_33 := q_rd' hr_bz_p0_steps (q_in (by omega) (by omega)) ev_33
            refine lv_iadd hx hb dX9_readWalk_102 (lv_topi fun v_34 ev_34 => ?_)
            have tv_34 := q_add ev_34 (by omega) (by omega)
            refine lv_istore_n (lv' := [(2, .int v_34), (1, .int v_3), (0, .ref p0)]) hx hb dX9_readWalk_103 rfl hl (by decide) rfl (fun ls hl => ?_)
            refine lv_aload_n hx hb dX9_readWalk_104 rfl (lv_at hl 2 rfl) (lv_iconst (v := 0) hx hb dX9_readWalk_105 (by decide) (lv_bipush (v := 99) hx hb dX9_readWalk_106 (by decide) ?_))
            refine q_cVi (As := [.int 0, .int 99]) (rest := []) q_w0 trivial hK hP25 hDa za_r_readWalk hS25 hA [0, 4] [3] (by decide +kernel) ⟨hx, hb, hml, hown, hts⟩ (r_numeral l dC dI H25.size p0 fz_p0 p0_text c_p0_text b_p0_text 0 99 atv env tkv siz fkv ho_fz_p0 fr_fz_p0_1 fv_fz_p0_6 fv_fz_p0_7 fv_fz_p0_8 fh_fz_p0_3 fv_fz_p0_4 ((by omega)) ((by omega))) rfl rfl (cwV 2 hts (p1_gV m_11 m_12 m_13 m_6 g_r_numeral gz_r_numeral) rfl rfl rfl (by decide +kernel) ⟨by decide, by decide⟩) (va_recv hK hP25 (ci := 8) (q0 := 0) rfl rfl) zm_r_numeral rfl hl.1 rfl (Nat.le_of_ble_eq_true rfl) dX9_readWalk_108 ⟨by decide, by decide⟩ (fun r_35 H36 lo36 hG36 hS36 => ?_)
            obtain ⟨o_37, o_38, o_39, o_40, o_41, z_42, ho_43, hf_44, z_45, z_46, z_47, z_48, z_49, z_50, hQ36⟩ := hG36
            have to_38 := (OKX9_g6 ho_43).use z_45
            have to_39 := (OKX9_g7 ho_43).use z_46
            have to_40 := (OKX9_g8 ho_43).use z_47
            have to_41 := (OKX9_g4 ho_43).use z_48
            have hP36 : va_P (dC, dI) vwCl (zW_r_readWalk p0 o_37 p0_steps c_p0_steps bz_p0_steps p0_strikes c_p0_strikes bz_p0_strikes p0_swings c_p0_swings bz_p0_swings p0_text c_p0_text b_p0_text p0_wName c_p0_wName g21 p0_walks c_p0_walks b_p0_walks) H36 := hQ36
            clear hQ36 hP25 hS25
            refine lv_istore_n (lv' := [(3, .int r_35), (2, .int v_34), (1, .int v_3), (0, .ref p0)]) hx hb dX9_readWalk_111 rfl hl (by decide) rfl (fun ls hl => ?_)
            refine lv_aload_n hx hb dX9_readWalk_112 rfl (lv_at hl 3 rfl) (lv_iconst (v := 0) hx hb dX9_readWalk_113 (by decide) (lv_bipush (v := 99) hx hb dX9_readWalk_114 (by decide) ?_))
            refine q_cVi (As := [.int 0, .int 99]) (rest := []) q_w0 trivial hK hP36 hDa za_r_readWalk hS36 hA [0, 4] [3] (by decide +kernel) ⟨hx, hb, hml, hown, hts⟩ (r_numeral l dC dI H36.size p0 o_37 p0_text c_p0_text b_p0_text 0 99 o_38 o_39 o_40 siz o_41 ho_43 ((hf_44.u (by decide) fr_fz_p0_1)) z_45 z_46 z_47 ((hf_44.u (by decide) fh_fz_p0_3)) z_48 ((by omega)) ((by omega))) rfl rfl (cwV 2 hts (p1_gV m_11 m_12 m_13 m_6 g_r_numeral gz_r_numeral) rfl rfl rfl (by decide +kernel) ⟨by decide, by decide⟩) (va_recv hK hP36 (ci := 8) (q0 := 0) rfl rfl) zm_r_numeral rfl hl.1 rfl (Nat.le_of_ble_eq_true rfl) dX9_readWalk_116 ⟨by decide, by decide⟩ (fun r_51 H52 lo52 hG52 hS52 => ?_)
            obtain ⟨o_53, o_54, o_55, o_56, o_57, z_58, ho_59, hf_60, z_61, z_62, z_63, z_64, z_65, z_66, hQ52⟩ := hG52
            have to_54 := (OKX9_g6 ho_59).use z_61
            have to_55 := (OKX9_g7 ho_59).use z_62
            have to_56 := (OKX9_g8 ho_59).use z_63
            have to_57 := (OKX9_g4 ho_59).use z_64
            have hP52 : va_P (dC, dI) vwCl (zW_r_readWalk p0 o_53 p0_steps c_p0_steps bz_p0_steps p0_strikes c_p0_strikes bz_p0_strikes p0_swings c_p0_swings bz_p0_swings p0_text c_p0_text b_p0_text p0_wName c_p0_wName g21 p0_walks c_p0_walks b_p0_walks) H52 := hQ52
            clear hQ52 hP36 hS36
            refine lv_istore (lv' := [(4, .int r_51), (3, .int r_35), (2, .int v_34), (1, .int v_3), (0, .ref p0)]) hx hb dX9_readWalk_119 hl (by decide) rfl (fun ls hl => ?_)
            refine lv_aload_n hx hb dX9_readWalk_121 rfl (lv_at hl 4 rfl) ?_
            refine q_cVi (As := []) (rest := []) q_w0 trivial hK hP52 hDa za_r_readWalk hS52 hA [0] [] (by decide +kernel) ⟨hx, hb, hml, hown, hts⟩ (r_isGood l dC dI H52.size p0 o_53 o_57 ho_59 z_64) rfl rfl (cwV 0 hts (p1_gV m_8 m_9 m_10 m_6 g_r_isGood gz_r_isGood) rfl rfl rfl (by decide +kernel) ⟨by decide, by decide⟩) (va_recv hK hP52 (ci := 8) (q0 := 0) rfl rfl) zm_r_isGood rfl hl.1 rfl (Nat.le_of_ble_eq_true rfl) dX9_readWalk_122 ⟨by decide, by decide⟩ (fun r_67 H68 lo68 hG68 hS68 => ?_)
            obtain ⟨z_69, hQ68⟩ := hG68
            have hP68 : va_P (dC, dI) vwCl (zW_r_readWalk p0 o_53 p0_steps c_p0_steps bz_p0_steps p0_strikes c_p0_strikes bz_p0_strikes p0_swings c_p0_swings bz_p0_swings p0_text c_p0_text b_p0_text p0_wName c_p0_wName g21 p0_walks c_p0_walks b_p0_walks) H68 := hQ68
            clear hQ68 hP52 hS52
            rcases z_69 with ⟨rfl, z_69⟩ | ⟨rfl, z_69⟩
            · refine lv_if_ne (tgt := 129) hx hb dX9_readWalk_125 (by decide) (fun c_70 => ?_) (fun c_70 => absurd c_70 (by decide))
              refine lv_aload_n hx hb dX9_readWalk_129 rfl (lv_at hl 4 rfl) (qg_X9_32 hx hb hts i_X9 hown hK hP68 0 rfl k_14 (hf_60.u (by decide) (hf_44.u (by decide) fr_fz_p0_32)) dX9_readWalk_130 (lv_iload_n hx hb dX9_readWalk_133 rfl (lv_at hl 2 rfl) (lv_iload_n hx hb dX9_readWalk_134 rfl (lv_at hl 1 rfl) (q_ist hx hb hK hP68 hDa za_r_readWalk hS68 2 1 rfl rfl (q_in (by omega) (by omega)) dX9_readWalk_135 (fun H71 lo71 g71 eg71 (hP71 : va_P (dC, dI) vwCl (zW_r_readWalk p0 o_53 p0_steps c_p0_steps bz_p0_steps p0_strikes c_p0_strikes g71 p0_swings c_p0_swings bz_p0_swings p0_text c_p0_text b_p0_text p0_wName c_p0_wName g21 p0_walks c_p0_walks b_p0_walks) H71) hS71 => ?_)))))
              clear hP68 hS68
              refine lv_aload_n hx hb dX9_readWalk_136 rfl (lv_at hl 4 rfl) (qg_X9_33 hx hb hts i_X9 hown hK hP71 0 rfl k_15 (hf_60.u (by decide) (hf_44.u (by decide) fr_fz_p0_33)) dX9_readWalk_137 (lv_iload_n hx hb dX9_readWalk_140 rfl (lv_at hl 2 rfl) (lv_iload hx hb dX9_readWalk_141 (lv_at hl 0 rfl) (q_ist hx hb hK hP71 hDa za_r_readWalk hS71 3 2 rfl rfl (q_in (by omega) (by omega)) dX9_readWalk_143 (fun H72 lo72 g72 eg72 (hP72 : va_P (dC, dI) vwCl (zW_r_readWalk p0 o_53 p0_steps c_p0_steps bz_p0_steps p0_strikes c_p0_strikes g71 p0_swings c_p0_swings g72 p0_text c_p0_text b_p0_text p0_wName c_p0_wName g21 p0_walks c_p0_walks b_p0_walks) H72) hS72 => ?_)))))
              clear hP71 hS71
              refine lv_aload_n hx hb dX9_readWalk_144 rfl (lv_at hl 4 rfl) (qg_X9_31 hx hb hts i_X9 hown hK hP72 0 rfl k_7 (hf_60.u (by decide) (hf_44.u (by decide) fr_fz_p0_31)) dX9_readWalk_145 (lv_iload_n hx hb dX9_readWalk_148 rfl (lv_at hl 3 rfl) (lv_dup2_11 hx hb dX9_readWalk_149 rfl rfl (q_ild hx hb hK hP72 1 0 rfl rfl (q_in (by omega) (by omega)) dX9_readWalk_150 (fun v_73 ev_73 => ?_)))))
              have uv_73 : v_73.toInt = (bz_p0_steps v_3.toNatClampNeg).toInt := by rw [ev_73]
              have tv_73 := q_rd' hr_bz_p0_steps (q_in (by omega) (by omega)) ev_73
              refine lv_iconst (v := 1) hx hb dX9_readWalk_151 (by decide) (lv_iadd hx hb dX9_readWalk_152 (lv_topi fun v_74 ev_74 => ?_))
              have tv_74 := q_add ev_74 (by omega) (by omega)
              refine q_ist hx hb hK hP72 hDa za_r_readWalk hS72 1 0 rfl rfl (q_in (by omega) (by omega)) dX9_readWalk_153 (fun H75 lo75 g75 eg75 (hP75 : va_P (dC, dI) vwCl (zW_r_readWalk p0 o_53 p0_steps c_p0_steps g75 p0_strikes c_p0_strikes g71 p0_swings c_p0_swings g72 p0_text c_p0_text b_p0_text p0_wName c_p0_wName g21 p0_walks c_p0_walks b_p0_walks) H75) hS75 => ?_)
              clear hP72 hS72
              have hr_g75 := q_up' hr_bz_p0_steps eg75 ⟨by omega, by omega⟩
              have usg75 : (g75 v_3.toNatClampNeg).toInt = v_74.toInt := by rw [eg75, pk_us]
              have osg75 := (hq53_2 : q_offd (4 * rb.toInt + (b_p0_walks rb.toNatClampNeg).toInt) b_p0_steps bz_p0_steps).up eg75 (by omega) (by omega)
              refine lv_goto (tgt := 53) hx hb dX9_readWalk_154 (by decide) ?_
              exact ih53 (fu53 - 1) (by omega) o_53 o_57 o_54 o_55 o_56 g75 g71 g72 _ _ _ (by omega) ho_59 ((hf_fz_p0.tr hf_44 (by decide)).tr hf_60 (by decide)) (hf_60.u (by decide) (hf_44.u (by decide) fr_fz_p0_1)) (hf_60.u (by decide) (hf_44.u (by decide) fh_fz_p0_3)) z_64 (by omega) z_61 (by omega) z_62 (by omega) z_63 (by omega) (hf_60.u (by decide) (hf_44.u (by decide) fr_fz_p0_13)) (hf_60.u (by decide) (hf_44.u (by decide) fr_fz_p0_23)) (hf_60.u (by decide) (hf_44.u (by decide) fr_fz_p0_31)) (hf_60.u (by decide) (hf_44.u (by decide) fr_fz_p0_32)) (hf_60.u (by decide) (hf_44.u (by decide) fr_fz_p0_33)) (hf_60.u (by decide) (hf_44.u (by decide) fh_fz_p0_44)) hr_g75 (by omega) (by omega) osg75 (by omega) hP75 hS75 (lv_sub hl [3, 4] rfl)
            · refine lv_if_ne (tgt := 129) hx hb dX9_readWalk_125 (by decide) (fun c_76 => absurd c_76 (by decide)) (fun c_76 => ?_)
              exact q_vret hx hb hr hlocks hS68 dX9_readWalk_128 ⟨o_53, bz_p0_steps, bz_p0_strikes, bz_p0_swings, g21, b_p0_walks, o_54, o_55, o_56, o_57, ho_59, ((hf_fz_p0.tr hf_44 (by decide)).tr hf_60 (by decide)), hr_bz_p0_steps, hr_p0_walks, z_61, z_62, z_63, z_64, (by omega), (by omega), q_offd.rf, hq53_2, (Or.inl (by omega)), hP68, za_r_readWalk⟩
          · have tc_31 := q_eqN c_31
            refine lv_aload_n hx hb dX9_readWalk_88 rfl (lv_at hl 1 rfl) ?_
            refine q_cVv (As := []) (rest := []) q_w0 trivial hK hP25 hDa za_r_readWalk hS25 hA [0] [] (by decide +kernel) ⟨hx, hb, hml, hown, hts⟩ (r_misplaced l dC dI H25.size p0 fz_p0 ho_fz_p0) rfl rfl (cwV 0 hts (p1_gV m_16 m_17 m_18 m_6 g_r_misplaced gz_r_misplaced) rfl rfl rfl (by decide +kernel) ⟨by decide, by decide⟩) (va_recv hK hP25 (ci := 8) (q0 := 0) rfl rfl) zm_r_misplaced rfl hl.1 rfl (Nat.le_of_ble_eq_true rfl) dX9_readWalk_89 ⟨by decide, by decide⟩ (fun H78 lo78 hG78 hS78 => ?_)
            obtain ⟨o_79, o_80, ho_81, hf_82, z_83, z_84, hQ78⟩ := hG78
            have to_80 := (OKX9_g4 ho_81).use z_83
            have hP78 : va_P (dC, dI) vwCl (zW_r_readWalk p0 o_79 p0_steps c_p0_steps bz_p0_steps p0_strikes c_p0_strikes bz_p0_strikes p0_swings c_p0_swings bz_p0_swings p0_text c_p0_text b_p0_text p0_wName c_p0_wName g21 p0_walks c_p0_walks b_p0_walks) H78 := hQ78
            clear hQ78 hP25 hS25
            refine lv_bipush (v := 8) hx hb dX9_readWalk_92 (by decide) (lv_iload_n hx hb dX9_readWalk_94 rfl (lv_at hl 0 rfl) (lv_imul hx hb dX9_readWalk_95 (lv_topi fun v_85 ev_85 => ?_)))
            have tv_85 := q_mulc (c := 8) ev_85 (by decide) (by omega) (by omega)
            refine lv_aload_n hx hb dX9_readWalk_96 rfl (lv_at hl 1 rfl) (qg_X9_31 hx hb hts i_X9 hown hK hP78 0 rfl k_7 (hf_82.u (by decide) fr_fz_p0_31) dX9_readWalk_97 (lv_iload_n hx hb dX9_readWalk_100 rfl (lv_at hl 0 rfl) (q_ild hx hb hK hP78 1 0 rfl rfl (q_in (by omega) (by omega)) dX9_readWalk_101 (fun v_86 ev_86 => ?_))))
            have uv_86 : v_86.toInt = (bz_p0_steps v_3.toNatClampNeg).toInt := by rw [ev_86]
            have tv_86 := q_rd' hr_bz_p0_steps (q_in (by omega) (by omega)) ev_86
            refine lv_iadd hx hb dX9_readWalk_102 (lv_topi fun v_87 ev_87 => ?_)
            have tv_87 := q_add ev_87 (by omega) (by omega)
            refine lv_istore_n (lv' := [(2, .int v_87), (1, .int v_3), (0, .ref p0)]) hx hb dX9_readWalk_103 rfl hl (by decide) rfl (fun ls hl => ?_)
            refine lv_aload_n hx hb dX9_readWalk_104 rfl (lv_at hl 2 rfl) (lv_iconst (v := 0) hx hb dX9_readWalk_105 (by decide) (lv_bipush (v := 99) hx hb dX9_readWalk_106 (by decide) ?_))
            refine q_cVi (As := [.int 0, .int 99]) (rest := []) q_w0 trivial hK hP78 hDa za_r_readWalk hS78 hA [0, 4] [3] (by decide +kernel) ⟨hx, hb, hml, hown, hts⟩ (r_numeral l dC dI H78.size p0 o_79 p0_text c_p0_text b_p0_text 0 99 atv env tkv siz o_80 ho_81 ((hf_82.u (by decide) fr_fz_p0_1)) ((hf_82.u (by decide) fv_fz_p0_6)) ((hf_82.u (by decide) fv_fz_p0_7)) ((hf_82.u (by decide) fv_fz_p0_8)) ((hf_82.u (by decide) fh_fz_p0_3)) z_83 ((by omega)) ((by omega))) rfl rfl (cwV 2 hts (p1_gV m_11 m_12 m_13 m_6 g_r_numeral gz_r_numeral) rfl rfl rfl (by decide +kernel) ⟨by decide, by decide⟩) (va_recv hK hP78 (ci := 8) (q0 := 0) rfl rfl) zm_r_numeral rfl hl.1 rfl (Nat.le_of_ble_eq_true rfl) dX9_readWalk_108 ⟨by decide, by decide⟩ (fun r_88 H89 lo89 hG89 hS89 => ?_)
            obtain ⟨o_90, o_91, o_92, o_93, o_94, z_95, ho_96, hf_97, z_98, z_99, z_100, z_101, z_102, z_103, hQ89⟩ := hG89
            have to_91 := (OKX9_g6 ho_96).use z_98
            have to_92 := (OKX9_g7 ho_96).use z_99
            have to_93 := (OKX9_g8 ho_96).use z_100
            have to_94 := (OKX9_g4 ho_96).use z_101
            have hP89 : va_P (dC, dI) vwCl (zW_r_readWalk p0 o_90 p0_steps c_p0_steps bz_p0_steps p0_strikes c_p0_strikes bz_p0_strikes p0_swings c_p0_swings bz_p0_swings p0_text c_p0_text b_p0_text p0_wName c_p0_wName g21 p0_walks c_p0_walks b_p0_walks) H89 := hQ89
            clear hQ89 hP78 hS78
            refine lv_istore_n (lv' := [(3, .int r_88), (2, .int v_87), (1, .int v_3), (0, .ref p0)]) hx hb dX9_readWalk_111 rfl hl (by decide) rfl (fun ls hl => ?_)
            refine lv_aload_n hx hb dX9_readWalk_112 rfl (lv_at hl 3 rfl) (lv_iconst (v := 0) hx hb dX9_readWalk_113 (by decide) (lv_bipush (v := 99) hx hb dX9_readWalk_114 (by decide) ?_))
            refine q_cVi (As := [.int 0, .int 99]) (rest := []) q_w0 trivial hK hP89 hDa za_r_readWalk hS89 hA [0, 4] [3] (by decide +kernel) ⟨hx, hb, hml, hown, hts⟩ (r_numeral l dC dI H89.size p0 o_90 p0_text c_p0_text b_p0_text 0 99 o_91 o_92 o_93 siz o_94 ho_96 ((hf_97.u (by decide) (hf_82.u (by decide) fr_fz_p0_1))) z_98 z_99 z_100 ((hf_97.u (by decide) (hf_82.u (by decide) fh_fz_p0_3))) z_101 ((by omega)) ((by omega))) rfl rfl (cwV 2 hts (p1_gV m_11 m_12 m_13 m_6 g_r_numeral gz_r_numeral) rfl rfl rfl (by decide +kernel) ⟨by decide, by decide⟩) (va_recv hK hP89 (ci := 8) (q0 := 0) rfl rfl) zm_r_numeral rfl hl.1 rfl (Nat.le_of_ble_eq_true rfl) dX9_readWalk_116 ⟨by decide, by decide⟩ (fun r_104 H105 lo105 hG105 hS105 => ?_)
            obtain ⟨o_106, o_107, o_108, o_109, o_110, z_111, ho_112, hf_113, z_114, z_115, z_116, z_117, z_118, z_119, hQ105⟩ := hG105
            have to_107 := (OKX9_g6 ho_112).use z_114
            have to_108 := (OKX9_g7 ho_112).use z_115
            have to_109 := (OKX9_g8 ho_112).use z_116
            have to_110 := (OKX9_g4 ho_112).use z_117
            have hP105 : va_P (dC, dI) vwCl (zW_r_readWalk p0 o_106 p0_steps c_p0_steps bz_p0_steps p0_strikes c_p0_strikes bz_p0_strikes p0_swings c_p0_swings bz_p0_swings p0_text c_p0_text b_p0_text p0_wName c_p0_wName g21 p0_walks c_p0_walks b_p0_walks) H105 := hQ105
            clear hQ105 hP89 hS89
            refine lv_istore (lv' := [(4, .int r_104), (3, .int r_88), (2, .int v_87), (1, .int v_3), (0, .ref p0)]) hx hb dX9_readWalk_119 hl (by decide) rfl (fun ls hl => ?_)
            refine lv_aload_n hx hb dX9_readWalk_121 rfl (lv_at hl 4 rfl) ?_
            refine q_cVi (As := []) (rest := []) q_w0 trivial hK hP105 hDa za_r_readWalk hS105 hA [0] [] (by decide +kernel) ⟨hx, hb, hml, hown, hts⟩ (r_isGood l dC dI H105.size p0 o_106 o_110 ho_112 z_117) rfl rfl (cwV 0 hts (p1_gV m_8 m_9 m_10 m_6 g_r_isGood gz_r_isGood) rfl rfl rfl (by decide +kernel) ⟨by decide, by decide⟩) (va_recv hK hP105 (ci := 8) (q0 := 0) rfl rfl) zm_r_isGood rfl hl.1 rfl (Nat.le_of_ble_eq_true rfl) dX9_readWalk_122 ⟨by decide, by decide⟩ (fun r_120 H121 lo121 hG121 hS121 => ?_)
            obtain ⟨z_122, hQ121⟩ := hG121
            have hP121 : va_P (dC, dI) vwCl (zW_r_readWalk p0 o_106 p0_steps c_p0_steps bz_p0_steps p0_strikes c_p0_strikes bz_p0_strikes p0_swings c_p0_swings bz_p0_swings p0_text c_p0_text b_p0_text p0_wName c_p0_wName g21 p0_walks c_p0_walks b_p0_walks) H121 := hQ121
            clear hQ121 hP105 hS105
            rcases z_122 with ⟨rfl, z_122⟩ | ⟨rfl, z_122⟩
            · refine lv_if_ne (tgt := 129) hx hb dX9_readWalk_125 (by decide) (fun c_123 => ?_) (fun c_123 => absurd c_123 (by decide))
              refine lv_aload_n hx hb dX9_readWalk_129 rfl (lv_at hl 4 rfl) (qg_X9_32 hx hb hts i_X9 hown hK hP121 0 rfl k_14 (hf_113.u (by decide) (hf_97.u (by decide) (hf_82.u (by decide) fr_fz_p0_32))) dX9_readWalk_130 (lv_iload_n hx hb dX9_readWalk_133 rfl (lv_at hl 2 rfl) (lv_iload_n hx hb dX9_readWalk_134 rfl (lv_at hl 1 rfl) (q_ist hx hb hK hP121 hDa za_r_readWalk hS121 2 1 rfl rfl (q_in (by omega) (by omega)) dX9_readWalk_135 (fun H124 lo124 g124 eg124 (hP124 : va_P (dC, dI) vwCl (zW_r_readWalk p0 o_106 p0_steps c_p0_steps bz_p0_steps p0_strikes c_p0_strikes g124 p0_swings c_p0_swings bz_p0_swings p0_text c_p0_text b_p0_text p0_wName c_p0_wName g21 p0_walks c_p0_walks b_p0_walks) H124) hS124 => ?_)))))
              clear hP121 hS121
              refine lv_aload_n hx hb dX9_readWalk_136 rfl (lv_at hl 4 rfl) (qg_X9_33 hx hb hts i_X9 hown hK hP124 0 rfl k_15 (hf_113.u (by decide) (hf_97.u (by decide) (hf_82.u (by decide) fr_fz_p0_33))) dX9_readWalk_137 (lv_iload_n hx hb dX9_readWalk_140 rfl (lv_at hl 2 rfl) (lv_iload hx hb dX9_readWalk_141 (lv_at hl 0 rfl) (q_ist hx hb hK hP124 hDa za_r_readWalk hS124 3 2 rfl rfl (q_in (by omega) (by omega)) dX9_readWalk_143 (fun H125 lo125 g125 eg125 (hP125 : va_P (dC, dI) vwCl (zW_r_readWalk p0 o_106 p0_steps c_p0_steps bz_p0_steps p0_strikes c_p0_strikes g124 p0_swings c_p0_swings g125 p0_text c_p0_text b_p0_text p0_wName c_p0_wName g21 p0_walks c_p0_walks b_p0_walks) H125) hS125 => ?_)))))
              clear hP124 hS124
              refine lv_aload_n hx hb dX9_readWalk_144 rfl (lv_at hl 4 rfl) (qg_X9_31 hx hb hts i_X9 hown hK hP125 0 rfl k_7 (hf_113.u (by decide) (hf_97.u (by decide) (hf_82.u (by decide) fr_fz_p0_31))) dX9_readWalk_145 (lv_iload_n hx hb dX9_readWalk_148 rfl (lv_at hl 3 rfl) (lv_dup2_11 hx hb dX9_readWalk_149 rfl rfl (q_ild hx hb hK hP125 1 0 rfl rfl (q_in (by omega) (by omega)) dX9_readWalk_150 (fun v_126 ev_126 => ?_)))))
              have uv_126 : v_126.toInt = (bz_p0_steps v_3.toNatClampNeg).toInt := by rw [ev_126]
              have tv_126 := q_rd' hr_bz_p0_steps (q_in (by omega) (by omega)) ev_126
              refine lv_iconst (v := 1) hx hb dX9_readWalk_151 (by decide) (lv_iadd hx hb dX9_readWalk_152 (lv_topi fun v_127 ev_127 => ?_))
              have tv_127 := q_add ev_127 (by omega) (by omega)
              refine q_ist hx hb hK hP125 hDa za_r_readWalk hS125 1 0 rfl rfl (q_in (by omega) (by omega)) dX9_readWalk_153 (fun H128 lo128 g128 eg128 (hP128 : va_P (dC, dI) vwCl (zW_r_readWalk p0 o_106 p0_steps c_p0_steps g128 p0_strikes c_p0_strikes g124 p0_swings c_p0_swings g125 p0_text c_p0_text b_p0_text p0_wName c_p0_wName g21 p0_walks c_p0_walks b_p0_walks) H128) hS128 => ?_)
              clear hP125 hS125
              have hr_g128 := q_up' hr_bz_p0_steps eg128 ⟨by omega, by omega⟩
              have usg128 : (g128 v_3.toNatClampNeg).toInt = v_127.toInt := by rw [eg128, pk_us]
              have osg128 := (hq53_2 : q_offd (4 * rb.toInt + (b_p0_walks rb.toNatClampNeg).toInt) b_p0_steps bz_p0_steps).up eg128 (by omega) (by omega)
              refine lv_goto (tgt := 53) hx hb dX9_readWalk_154 (by decide) ?_
              exact ih53 (fu53 - 1) (by omega) o_106 o_110 o_107 o_108 o_109 g128 g124 g125 _ _ _ (by omega) ho_112 (((hf_fz_p0.tr hf_82 (by decide)).tr hf_97 (by decide)).tr hf_113 (by decide)) (hf_113.u (by decide) (hf_97.u (by decide) (hf_82.u (by decide) fr_fz_p0_1))) (hf_113.u (by decide) (hf_97.u (by decide) (hf_82.u (by decide) fh_fz_p0_3))) z_117 (by omega) z_114 (by omega) z_115 (by omega) z_116 (by omega) (hf_113.u (by decide) (hf_97.u (by decide) (hf_82.u (by decide) fr_fz_p0_13))) (hf_113.u (by decide) (hf_97.u (by decide) (hf_82.u (by decide) fr_fz_p0_23))) (hf_113.u (by decide) (hf_97.u (by decide) (hf_82.u (by decide) fr_fz_p0_31))) (hf_113.u (by decide) (hf_97.u (by decide) (hf_82.u (by decide) fr_fz_p0_32))) (hf_113.u (by decide) (hf_97.u (by decide) (hf_82.u (by decide) fr_fz_p0_33))) (hf_113.u (by decide) (hf_97.u (by decide) (hf_82.u (by decide) fh_fz_p0_44))) hr_g128 (by omega) (by omega) osg128 (by omega) hP128 hS128 (lv_sub hl [3, 4] rfl)
            · refine lv_if_ne (tgt := 129) hx hb dX9_readWalk_125 (by decide) (fun c_129 => absurd c_129 (by decide)) (fun c_129 => ?_)
              exact q_vret hx hb hr hlocks hS121 dX9_readWalk_128 ⟨o_106, bz_p0_steps, bz_p0_strikes, bz_p0_swings, g21, b_p0_walks, o_107, o_108, o_109, o_110, ho_112, (((hf_fz_p0.tr hf_82 (by decide)).tr hf_97 (by decide)).tr hf_113 (by decide)), hr_bz_p0_steps, hr_p0_walks, z_114, z_115, z_116, z_117, (by omega), (by omega), q_offd.rf, hq53_2, (Or.inl (by omega)), hP121, za_r_readWalk⟩
        · have tc_29 := q_neN c_29
          refine lv_aload_n hx hb dX9_readWalk_69 rfl (lv_at hl 1 rfl) (qg_X9_8 hx hb hts i_X9 hown hK hP25 0 rfl k_19 fv_fz_p0_8 dX9_readWalk_70 (lv_iconst (v := 4) hx hb dX9_readWalk_73 (by decide) ?_))
          refine lv_icmp_ne (tgt := 157) hx hb dX9_readWalk_74 (by decide) (fun c_130 => ?_) (fun c_130 => ?_)
          · have tc_130 := q_ne c_130
            refine lv_aload_n hx hb dX9_readWalk_157 rfl (lv_at hl 1 rfl) (qg_X9_13 hx hb hts i_X9 hown hK hP25 0 rfl k_1 fr_fz_p0_13 dX9_readWalk_158 (lv_aload_n hx hb dX9_readWalk_161 rfl (lv_at hl 1 rfl) (qg_X9_44 hx hb hts i_X9 hown hK hP25 0 rfl k_0 fh_fz_p0_44 dX9_readWalk_162 (lv_dup2_11 hx hb dX9_readWalk_165 rfl rfl (q_ild hx hb hK hP25 6 5 rfl rfl (q_in (by omega) (by omega)) dX9_readWalk_166 (fun v_131 ev_131 => ?_))))))
            have uv_131 : v_131.toInt = (b_p0_walks rb.toNatClampNeg).toInt := by rw [ev_131]
            have tv_131 := q_rd' hr_p0_walks (q_in (by omega) (by omega)) ev_131
            refine lv_iconst (v := 1) hx hb dX9_readWalk_167 (by decide) (lv_iadd hx hb dX9_readWalk_168 (lv_topi fun v_132 ev_132 => ?_))
            have tv_132 := q_add ev_132 (by omega) (by omega)
            refine q_ist hx hb hK hP25 hDa za_r_readWalk hS25 6 5 rfl rfl (q_in (by omega) (by omega)) dX9_readWalk_169 (fun H133 lo133 g133 eg133 (hP133 : va_P (dC, dI) vwCl (zW_r_readWalk p0 fz_p0 p0_steps c_p0_steps bz_p0_steps p0_strikes c_p0_strikes bz_p0_strikes p0_swings c_p0_swings bz_p0_swings p0_text c_p0_text b_p0_text p0_wName c_p0_wName g21 p0_walks c_p0_walks g133) H133) hS133 => ?_)
            clear hP25 hS25
            have hr_g133 := q_up' hr_p0_walks eg133 ⟨by omega, by omega⟩
            have usg133 : (g133 rb.toNatClampNeg).toInt = v_132.toInt := by rw [eg133, pk_us]
            have owg133 := (q_offd.rf : q_offd rb.toInt b_p0_walks b_p0_walks).up eg133 (by omega) rfl
            exact q_vret hx hb hr hlocks hS133 dX9_readWalk_170 ⟨fz_p0, bz_p0_steps, bz_p0_strikes, bz_p0_swings, g21, g133, atv, env, tkv, fkv, ho_fz_p0, hf_fz_p0, hr_bz_p0_steps, hr_g133, fv_fz_p0_6, fv_fz_p0_7, fv_fz_p0_8, fv_fz_p0_4, (by omega), (by omega), owg133, hq53_2, (by by_cases q0 : fkv.toInt = 0; exact Or.inr ⟨by omega, fun j hj => by have q1 := q_nc (i := v_3) (by omega); rw [show j = v_3.toNatClampNeg by omega]; omega⟩; exact Or.inl (by omega)), hP133, za_r_readWalk⟩
          · have tc_130 := q_eqN c_130
            refine lv_aload_n hx hb dX9_readWalk_77 rfl (lv_at hl 1 rfl) (qg_X9_31 hx hb hts i_X9 hown hK hP25 0 rfl k_7 fr_fz_p0_31 dX9_readWalk_78 (lv_iload_n hx hb dX9_readWalk_81 rfl (lv_at hl 0 rfl) (q_ild hx hb hK hP25 1 0 rfl rfl (q_in (by omega) (by omega)) dX9_readWalk_82 (fun v_134 ev_134 => ?_))))
            have uv_134 : v_134.toInt = (bz_p0_steps v_3.toNatClampNeg).toInt := by rw [ev_134]
            have tv_134 := q_rd' hr_bz_p0_steps (q_in (by omega) (by omega)) ev_134
            refine lv_bipush (v := 8) hx hb dX9_readWalk_83 (by decide) ?_
            refine lv_icmp_ne (tgt := 92) hx hb dX9_readWalk_85 (by decide) (fun c_135 => ?_) (fun c_135 => ?_)
            · have tc_135 := q_ne c_135
              refine lv_bipush (v := 8) hx hb dX9_readWalk_92 (by decide) (lv_iload_n hx hb dX9_readWalk_94 rfl (lv_at hl 0 rfl) (lv_imul hx hb dX9_readWalk_95 (lv_topi fun v_136 ev_136 => ?_)))
              have tv_136 := q_mulc (c := 8) ev_136 (by decide) (by omega) (by omega)
              refine lv_aload_n hx hb dX9_readWalk_96 rfl (lv_at hl 1 rfl) (qg_X9_31 hx hb hts i_X9 hown hK hP25 0 rfl k_7 fr_fz_p0_31 dX9_readWalk_97 (lv_iload_n hx hb dX9_readWalk_100 rfl (lv_at hl 0 rfl) (q_ild hx hb hK hP25 1 0 rfl rfl (q_in (by omega) (by omega)) dX9_readWalk_101 (fun v_137 ev_137 => ?_))))
              have uv_137 : v_137.toInt = (bz_p0_steps v_3.toNatClampNeg).toInt := by rw [ev_137]
              have tv_137 := q_rd' hr_bz_p0_steps (q_in (by omega) (by omega)) ev_137
              refine lv_iadd hx hb dX9_readWalk_102 (lv_topi fun v_138 ev_138 => ?_)
              have tv_138 := q_add ev_138 (by omega) (by omega)
              refine lv_istore_n (lv' := [(2, .int v_138), (1, .int v_3), (0, .ref p0)]) hx hb dX9_readWalk_103 rfl hl (by decide) rfl (fun ls hl => ?_)
              refine lv_aload_n hx hb dX9_readWalk_104 rfl (lv_at hl 2 rfl) (lv_iconst (v := 0) hx hb dX9_readWalk_105 (by decide) (lv_bipush (v := 99) hx hb dX9_readWalk_106 (by decide) ?_))
              refine q_cVi (As := [.int 0, .int 99]) (rest := []) q_w0 trivial hK hP25 hDa za_r_readWalk hS25 hA [0, 4] [3] (by decide +kernel) ⟨hx, hb, hml, hown, hts⟩ (r_numeral l dC dI H25.size p0 fz_p0 p0_text c_p0_text b_p0_text 0 99 atv env tkv siz fkv ho_fz_p0 fr_fz_p0_1 fv_fz_p0_6 fv_fz_p0_7 fv_fz_p0_8 fh_fz_p0_3 fv_fz_p0_4 ((by omega)) ((by omega))) rfl rfl (cwV 2 hts (p1_gV m_11 m_12 m_13 m_6 g_r_numeral gz_r_numeral) rfl rfl rfl (by decide +kernel) ⟨by decide, by decide⟩) (va_recv hK hP25 (ci := 8) (q0 := 0) rfl rfl) zm_r_numeral rfl hl.1 rfl (Nat.le_of_ble_eq_true rfl) dX9_readWalk_108 ⟨by decide, by decide⟩ (fun r_139 H140 lo140 hG140 hS140 => ?_)
              obtain ⟨o_141, o_142, o_143, o_144, o_145, z_146, ho_147, hf_148, z_149, z_150, z_151, z_152, z_153, z_154, hQ140⟩ := hG140
              have to_142 := (OKX9_g6 ho_147).use z_149
              have to_143 := (OKX9_g7 ho_147).use z_150
              have to_144 := (OKX9_g8 ho_147).use z_151
              have to_145 := (OKX9_g4 ho_147).use z_152
              have hP140 : va_P (dC, dI) vwCl (zW_r_readWalk p0 o_141 p0_steps c_p0_steps bz_p0_steps p0_strikes c_p0_strikes bz_p0_strikes p0_swings c_p0_swings bz_p0_swings p0_text c_p0_text b_p0_text p0_wName c_p0_wName g21 p0_walks c_p0_walks b_p0_walks) H140 := hQ140
              clear hQ140 hP25 hS25
              refine lv_istore_n (lv' := [(3, .int r_139), (2, .int v_138), (1, .int v_3), (0, .ref p0)]) hx hb dX9_readWalk_111 rfl hl (by decide) rfl (fun ls hl => ?_)
              refine lv_aload_n hx hb dX9_readWalk_112 rfl (lv_at hl 3 rfl) (lv_iconst (v := 0) hx hb dX9_readWalk_113 (by decide) (lv_bipush (v := 99) hx hb dX9_readWalk_114 (by decide) ?_))
              refine q_cVi (As := [.int 0, .int 99]) (rest := []) q_w0 trivial hK hP140 hDa za_r_readWalk hS140 hA [0, 4] [3] (by decide +kernel) ⟨hx, hb, hml, hown, hts⟩ (r_numeral l dC dI H140.size p0 o_141 p0_text c_p0_text b_p0_text 0 99 o_142 o_143 o_144 siz o_145 ho_147 ((hf_148.u (by decide) fr_fz_p0_1)) z_149 z_150 z_151 ((hf_148.u (by decide) fh_fz_p0_3)) z_152 ((by omega)) ((by omega))) rfl rfl (cwV 2 hts (p1_gV m_11 m_12 m_13 m_6 g_r_numeral gz_r_numeral) rfl rfl rfl (by decide +kernel) ⟨by decide, by decide⟩) (va_recv hK hP140 (ci := 8) (q0 := 0) rfl rfl) zm_r_numeral rfl hl.1 rfl (Nat.le_of_ble_eq_true rfl) dX9_readWalk_116 ⟨by decide, by decide⟩ (fun r_155 H156 lo156 hG156 hS156 => ?_)
              obtain ⟨o_157, o_158, o_159, o_160, o_161, z_162, ho_163, hf_164, z_165, z_166, z_167, z_168, z_169, z_170, hQ156⟩ := hG156
              have to_158 := (OKX9_g6 ho_163).use z_165
              have to_159 := (OKX9_g7 ho_163).use z_166
              have to_160 := (OKX9_g8 ho_163).use z_167
              have to_161 := (OKX9_g4 ho_163).use z_168
              have hP156 : va_P (dC, dI) vwCl (zW_r_readWalk p0 o_157 p0_steps c_p0_steps bz_p0_steps p0_strikes c_p0_strikes bz_p0_strikes p0_swings c_p0_swings bz_p0_swings p0_text c_p0_text b_p0_text p0_wName c_p0_wName g21 p0_walks c_p0_walks b_p0_walks) H156 := hQ156
              clear hQ156 hP140 hS140
              refine lv_istore (lv' := [(4, .int r_155), (3, .int r_139), (2, .int v_138), (1, .int v_3), (0, .ref p0)]) hx hb dX9_readWalk_119 hl (by decide) rfl (fun ls hl => ?_)
              refine lv_aload_n hx hb dX9_readWalk_121 rfl (lv_at hl 4 rfl) ?_
              refine q_cVi (As := []) (rest := []) q_w0 trivial hK hP156 hDa za_r_readWalk hS156 hA [0] [] (by decide +kernel) ⟨hx, hb, hml, hown, hts⟩ (r_isGood l dC dI H156.size p0 o_157 o_161 ho_163 z_168) rfl rfl (cwV 0 hts (p1_gV m_8 m_9 m_10 m_6 g_r_isGood gz_r_isGood) rfl rfl rfl (by decide +kernel) ⟨by decide, by decide⟩) (va_recv hK hP156 (ci := 8) (q0 := 0) rfl rfl) zm_r_isGood rfl hl.1 rfl (Nat.le_of_ble_eq_true rfl) dX9_readWalk_122 ⟨by decide, by decide⟩ (fun r_171 H172 lo172 hG172 hS172 => ?_)
              obtain ⟨z_173, hQ172⟩ := hG172
              have hP172 : va_P (dC, dI) vwCl (zW_r_readWalk p0 o_157 p0_steps c_p0_steps bz_p0_steps p0_strikes c_p0_strikes bz_p0_strikes p0_swings c_p0_swings bz_p0_swings p0_text c_p0_text b_p0_text p0_wName c_p0_wName g21 p0_walks c_p0_walks b_p0_walks) H172 := hQ172
              clear hQ172 hP156 hS156
              rcases z_173 with ⟨rfl, z_173⟩ | ⟨rfl, z_173⟩
              · refine lv_if_ne (tgt := 129) hx hb dX9_readWalk_125 (by decide) (fun c_174 => ?_) (fun c_174 => absurd c_174 (by decide))
                refine lv_aload_n hx hb dX9_readWalk_129 rfl (lv_at hl 4 rfl) (qg_X9_32 hx hb hts i_X9 hown hK hP172 0 rfl k_14 (hf_164.u (by decide) (hf_148.u (by decide) fr_fz_p0_32)) dX9_readWalk_130 (lv_iload_n hx hb dX9_readWalk_133 rfl (lv_at hl 2 rfl) (lv_iload_n hx hb dX9_readWalk_134 rfl (lv_at hl 1 rfl) (q_ist hx hb hK hP172 hDa za_r_readWalk hS172 2 1 rfl rfl (q_in (by omega) (by omega)) dX9_readWalk_135 (fun H175 lo175 g175 eg175 (hP175 : va_P (dC, dI) vwCl (zW_r_readWalk p0 o_157 p0_steps c_p0_steps bz_p0_steps p0_strikes c_p0_strikes g175 p0_swings c_p0_swings bz_p0_swings p0_text c_p0_text b_p0_text p0_wName c_p0_wName g21 p0_walks c_p0_walks b_p0_walks) H175) hS175 => ?_)))))
                clear hP172 hS172
                refine lv_aload_n hx hb dX9_readWalk_136 rfl (lv_at hl 4 rfl) (qg_X9_33 hx hb hts i_X9 hown hK hP175 0 rfl k_15 (hf_164.u (by decide) (hf_148.u (by decide) fr_fz_p0_33)) dX9_readWalk_137 (lv_iload_n hx hb dX9_readWalk_140 rfl (lv_at hl 2 rfl) (lv_iload hx hb dX9_readWalk_141 (lv_at hl 0 rfl) (q_ist hx hb hK hP175 hDa za_r_readWalk hS175 3 2 rfl rfl (q_in (by omega) (by omega)) dX9_readWalk_143 (fun H176 lo176 g176 eg176 (hP176 : va_P (dC, dI) vwCl (zW_r_readWalk p0 o_157 p0_steps c_p0_steps bz_p0_steps p0_strikes c_p0_strikes g175 p0_swings c_p0_swings g176 p0_text c_p0_text b_p0_text p0_wName c_p0_wName g21 p0_walks c_p0_walks b_p0_walks) H176) hS176 => ?_)))))
                clear hP175 hS175
                refine lv_aload_n hx hb dX9_readWalk_144 rfl (lv_at hl 4 rfl) (qg_X9_31 hx hb hts i_X9 hown hK hP176 0 rfl k_7 (hf_164.u (by decide) (hf_148.u (by decide) fr_fz_p0_31)) dX9_readWalk_145 (lv_iload_n hx hb dX9_readWalk_148 rfl (lv_at hl 3 rfl) (lv_dup2_11 hx hb dX9_readWalk_149 rfl rfl (q_ild hx hb hK hP176 1 0 rfl rfl (q_in (by omega) (by omega)) dX9_readWalk_150 (fun v_177 ev_177 => ?_)))))
                have uv_177 : v_177.toInt = (bz_p0_steps v_3.toNatClampNeg).toInt := by rw [ev_177]
                have tv_177 := q_rd' hr_bz_p0_steps (q_in (by omega) (by omega)) ev_177
                refine lv_iconst (v := 1) hx hb dX9_readWalk_151 (by decide) (lv_iadd hx hb dX9_readWalk_152 (lv_topi fun v_178 ev_178 => ?_))
                have tv_178 := q_add ev_178 (by omega) (by omega)
                refine q_ist hx hb hK hP176 hDa za_r_readWalk hS176 1 0 rfl rfl (q_in (by omega) (by omega)) dX9_readWalk_153 (fun H179 lo179 g179 eg179 (hP179 : va_P (dC, dI) vwCl (zW_r_readWalk p0 o_157 p0_steps c_p0_steps g179 p0_strikes c_p0_strikes g175 p0_swings c_p0_swings g176 p0_text c_p0_text b_p0_text p0_wName c_p0_wName g21 p0_walks c_p0_walks b_p0_walks) H179) hS179 => ?_)
                clear hP176 hS176
                have hr_g179 := q_up' hr_bz_p0_steps eg179 ⟨by omega, by omega⟩
                have usg179 : (g179 v_3.toNatClampNeg).toInt = v_178.toInt := by rw [eg179, pk_us]
                have osg179 := (hq53_2 : q_offd (4 * rb.toInt + (b_p0_walks rb.toNatClampNeg).toInt) b_p0_steps bz_p0_steps).up eg179 (by omega) (by omega)
                refine lv_goto (tgt := 53) hx hb dX9_readWalk_154 (by decide) ?_
                exact ih53 (fu53 - 1) (by omega) o_157 o_161 o_158 o_159 o_160 g179 g175 g176 _ _ _ (by omega) ho_163 ((hf_fz_p0.tr hf_148 (by decide)).tr hf_164 (by decide)) (hf_164.u (by decide) (hf_148.u (by decide) fr_fz_p0_1)) (hf_164.u (by decide) (hf_148.u (by decide) fh_fz_p0_3)) z_168 (by omega) z_165 (by omega) z_166 (by omega) z_167 (by omega) (hf_164.u (by decide) (hf_148.u (by decide) fr_fz_p0_13)) (hf_164.u (by decide) (hf_148.u (by decide) fr_fz_p0_23)) (hf_164.u (by decide) (hf_148.u (by decide) fr_fz_p0_31)) (hf_164.u (by decide) (hf_148.u (by decide) fr_fz_p0_32)) (hf_164.u (by decide) (hf_148.u (by decide) fr_fz_p0_33)) (hf_164.u (by decide) (hf_148.u (by decide) fh_fz_p0_44)) hr_g179 (by omega) (by omega) osg179 (by omega) hP179 hS179 (lv_sub hl [3, 4] rfl)
              · refine lv_if_ne (tgt := 129) hx hb dX9_readWalk_125 (by decide) (fun c_180 => absurd c_180 (by decide)) (fun c_180 => ?_)
                exact q_vret hx hb hr hlocks hS172 dX9_readWalk_128 ⟨o_157, bz_p0_steps, bz_p0_strikes, bz_p0_swings, g21, b_p0_walks, o_158, o_159, o_160, o_161, ho_163, ((hf_fz_p0.tr hf_148 (by decide)).tr hf_164 (by decide)), hr_bz_p0_steps, hr_p0_walks, z_165, z_166, z_167, z_168, (by omega), (by omega), q_offd.rf, hq53_2, (Or.inl (by omega)), hP172, za_r_readWalk⟩
            · have tc_135 := q_eqN c_135
              refine lv_aload_n hx hb dX9_readWalk_88 rfl (lv_at hl 1 rfl) ?_
              refine q_cVv (As := []) (rest := []) q_w0 trivial hK hP25 hDa za_r_readWalk hS25 hA [0] [] (by decide +kernel) ⟨hx, hb, hml, hown, hts⟩ (r_misplaced l dC dI H25.size p0 fz_p0 ho_fz_p0) rfl rfl (cwV 0 hts (p1_gV m_16 m_17 m_18 m_6 g_r_misplaced gz_r_misplaced) rfl rfl rfl (by decide +kernel) ⟨by decide, by decide⟩) (va_recv hK hP25 (ci := 8) (q0 := 0) rfl rfl) zm_r_misplaced rfl hl.1 rfl (Nat.le_of_ble_eq_true rfl) dX9_readWalk_89 ⟨by decide, by decide⟩ (fun H182 lo182 hG182 hS182 => ?_)
              obtain ⟨o_183, o_184, ho_185, hf_186, z_187, z_188, hQ182⟩ := hG182
              have to_184 := (OKX9_g4 ho_185).use z_187
              have hP182 : va_P (dC, dI) vwCl (zW_r_readWalk p0 o_183 p0_steps c_p0_steps bz_p0_steps p0_strikes c_p0_strikes bz_p0_strikes p0_swings c_p0_swings bz_p0_swings p0_text c_p0_text b_p0_text p0_wName c_p0_wName g21 p0_walks c_p0_walks b_p0_walks) H182 := hQ182
              clear hQ182 hP25 hS25
              refine lv_bipush (v := 8) hx hb dX9_readWalk_92 (by decide) (lv_iload_n hx hb dX9_readWalk_94 rfl (lv_at hl 0 rfl) (lv_imul hx hb dX9_readWalk_95 (lv_topi fun v_189 ev_189 => ?_)))
              have tv_189 := q_mulc (c := 8) ev_189 (by decide) (by omega) (by omega)
              refine lv_aload_n hx hb dX9_readWalk_96 rfl (lv_at hl 1 rfl) (qg_X9_31 hx hb hts i_X9 hown hK hP182 0 rfl k_7 (hf_186.u (by decide) fr_fz_p0_31) dX9_readWalk_97 (lv_iload_n hx hb dX9_readWalk_100 rfl (lv_at hl 0 rfl) (q_ild hx hb hK hP182 1 0 rfl rfl (q_in (by omega) (by omega)) dX9_readWalk_101 (fun v_190 ev_190 => ?_))))
              have uv_190 : v_190.toInt = (bz_p0_steps v_3.toNatClampNeg).toInt := by rw [ev_190]
              have tv_190 := q_rd' hr_bz_p0_steps (q_in (by omega) (by omega)) ev_190
              refine lv_iadd hx hb dX9_readWalk_102 (lv_topi fun v_191 ev_191 => ?_)
              have tv_191 := q_add ev_191 (by omega) (by omega)
              refine lv_istore_n (lv' := [(2, .int v_191), (1, .int v_3), (0, .ref p0)]) hx hb dX9_readWalk_103 rfl hl (by decide) rfl (fun ls hl => ?_)
              refine lv_aload_n hx hb dX9_readWalk_104 rfl (lv_at hl 2 rfl) (lv_iconst (v := 0) hx hb dX9_readWalk_105 (by decide) (lv_bipush (v := 99) hx hb dX9_readWalk_106 (by decide) ?_))
              refine q_cVi (As := [.int 0, .int 99]) (rest := []) q_w0 trivial hK hP182 hDa za_r_readWalk hS182 hA [0, 4] [3] (by decide +kernel) ⟨hx, hb, hml, hown, hts⟩ (r_numeral l dC dI H182.size p0 o_183 p0_text c_p0_text b_p0_text 0 99 atv env tkv siz o_184 ho_185 ((hf_186.u (by decide) fr_fz_p0_1)) ((hf_186.u (by decide) fv_fz_p0_6)) ((hf_186.u (by decide) fv_fz_p0_7)) ((hf_186.u (by decide) fv_fz_p0_8)) ((hf_186.u (by decide) fh_fz_p0_3)) z_187 ((by omega)) ((by omega))) rfl rfl (cwV 2 hts (p1_gV m_11 m_12 m_13 m_6 g_r_numeral gz_r_numeral) rfl rfl rfl (by decide +kernel) ⟨by decide, by decide⟩) (va_recv hK hP182 (ci := 8) (q0 := 0) rfl rfl) zm_r_numeral rfl hl.1 rfl (Nat.le_of_ble_eq_true rfl) dX9_readWalk_108 ⟨by decide, by decide⟩ (fun r_192 H193 lo193 hG193 hS193 => ?_)
              obtain ⟨o_194, o_195, o_196, o_197, o_198, z_199, ho_200, hf_201, z_202, z_203, z_204, z_205, z_206, z_207, hQ193⟩ := hG193
              have to_195 := (OKX9_g6 ho_200).use z_202
              have to_196 := (OKX9_g7 ho_200).use z_203
              have to_197 := (OKX9_g8 ho_200).use z_204
              have to_198 := (OKX9_g4 ho_200).use z_205
              have hP193 : va_P (dC, dI) vwCl (zW_r_readWalk p0 o_194 p0_steps c_p0_steps bz_p0_steps p0_strikes c_p0_strikes bz_p0_strikes p0_swings c_p0_swings bz_p0_swings p0_text c_p0_text b_p0_text p0_wName c_p0_wName g21 p0_walks c_p0_walks b_p0_walks) H193 := hQ193
              clear hQ193 hP182 hS182
              refine lv_istore_n (lv' := [(3, .int r_192), (2, .int v_191), (1, .int v_3), (0, .ref p0)]) hx hb dX9_readWalk_111 rfl hl (by decide) rfl (fun ls hl => ?_)
              refine lv_aload_n hx hb dX9_readWalk_112 rfl (lv_at hl 3 rfl) (lv_iconst (v := 0) hx hb dX9_readWalk_113 (by decide) (lv_bipush (v := 99) hx hb dX9_readWalk_114 (by decide) ?_))
              refine q_cVi (As := [.int 0, .int 99]) (rest := []) q_w0 trivial hK hP193 hDa za_r_readWalk hS193 hA [0, 4] [3] (by decide +kernel) ⟨hx, hb, hml, hown, hts⟩ (r_numeral l dC dI H193.size p0 o_194 p0_text c_p0_text b_p0_text 0 99 o_195 o_196 o_197 siz o_198 ho_200 ((hf_201.u (by decide) (hf_186.u (by decide) fr_fz_p0_1))) z_202 z_203 z_204 ((hf_201.u (by decide) (hf_186.u (by decide) fh_fz_p0_3))) z_205 ((by omega)) ((by omega))) rfl rfl (cwV 2 hts (p1_gV m_11 m_12 m_13 m_6 g_r_numeral gz_r_numeral) rfl rfl rfl (by decide +kernel) ⟨by decide, by decide⟩) (va_recv hK hP193 (ci := 8) (q0 := 0) rfl rfl) zm_r_numeral rfl hl.1 rfl (Nat.le_of_ble_eq_true rfl) dX9_readWalk_116 ⟨by decide, by decide⟩ (fun r_208 H209 lo209 hG209 hS209 => ?_)
              obtain ⟨o_210, o_211, o_212, o_213, o_214, z_215, ho_216, hf_217, z_218, z_219, z_220, z_221, z_222, z_223, hQ209⟩ := hG209
              have to_211 := (OKX9_g6 ho_216).use z_218
              have to_212 := (OKX9_g7 ho_216).use z_219
              have to_213 := (OKX9_g8 ho_216).use z_220
              have to_214 := (OKX9_g4 ho_216).use z_221
              have hP209 : va_P (dC, dI) vwCl (zW_r_readWalk p0 o_210 p0_steps c_p0_steps bz_p0_steps p0_strikes c_p0_strikes bz_p0_strikes p0_swings c_p0_swings bz_p0_swings p0_text c_p0_text b_p0_text p0_wName c_p0_wName g21 p0_walks c_p0_walks b_p0_walks) H209 := hQ209
              clear hQ209 hP193 hS193
              refine lv_istore (lv' := [(4, .int r_208), (3, .int r_192), (2, .int v_191), (1, .int v_3), (0, .ref p0)]) hx hb dX9_readWalk_119 hl (by decide) rfl (fun ls hl => ?_)
              refine lv_aload_n hx hb dX9_readWalk_121 rfl (lv_at hl 4 rfl) ?_
              refine q_cVi (As := []) (rest := []) q_w0 trivial hK hP209 hDa za_r_readWalk hS209 hA [0] [] (by decide +kernel) ⟨hx, hb, hml, hown, hts⟩ (r_isGood l dC dI H209.size p0 o_210 o_214 ho_216 z_221) rfl rfl (cwV 0 hts (p1_gV m_8 m_9 m_10 m_6 g_r_isGood gz_r_isGood) rfl rfl rfl (by decide +kernel) ⟨by decide, by decide⟩) (va_recv hK hP209 (ci := 8) (q0 := 0) rfl rfl) zm_r_isGood rfl hl.1 rfl (Nat.le_of_ble_eq_true rfl) dX9_readWalk_122 ⟨by decide, by decide⟩ (fun r_224 H225 lo225 hG225 hS225 => ?_)
              obtain ⟨z_226, hQ225⟩ := hG225
              have hP225 : va_P (dC, dI) vwCl (zW_r_readWalk p0 o_210 p0_steps c_p0_steps bz_p0_steps p0_strikes c_p0_strikes bz_p0_strikes p0_swings c_p0_swings bz_p0_swings p0_text c_p0_text b_p0_text p0_wName c_p0_wName g21 p0_walks c_p0_walks b_p0_walks) H225 := hQ225
              clear hQ225 hP209 hS209
              rcases z_226 with ⟨rfl, z_226⟩ | ⟨rfl, z_226⟩
              · refine lv_if_ne (tgt := 129) hx hb dX9_readWalk_125 (by decide) (fun c_227 => ?_) (fun c_227 => absurd c_227 (by decide))
                refine lv_aload_n hx hb dX9_readWalk_129 rfl (lv_at hl 4 rfl) (qg_X9_32 hx hb hts i_X9 hown hK hP225 0 rfl k_14 (hf_217.u (by decide) (hf_201.u (by decide) (hf_186.u (by decide) fr_fz_p0_32))) dX9_readWalk_130 (lv_iload_n hx hb dX9_readWalk_133 rfl (lv_at hl 2 rfl) (lv_iload_n hx hb dX9_readWalk_134 rfl (lv_at hl 1 rfl) (q_ist hx hb hK hP225 hDa za_r_readWalk hS225 2 1 rfl rfl (q_in (by omega) (by omega)) dX9_readWalk_135 (fun H228 lo228 g228 eg228 (hP228 : va_P (dC, dI) vwCl (zW_r_readWalk p0 o_210 p0_steps c_p0_steps bz_p0_steps p0_strikes c_p0_strikes g228 p0_swings c_p0_swings bz_p0_swings p0_text c_p0_text b_p0_text p0_wName c_p0_wName g21 p0_walks c_p0_walks b_p0_walks) H228) hS228 => ?_)))))
                clear hP225 hS225
                refine lv_aload_n hx hb dX9_readWalk_136 rfl (lv_at hl 4 rfl) (qg_X9_33 hx hb hts i_X9 hown hK hP228 0 rfl k_15 (hf_217.u (by decide) (hf_201.u (by decide) (hf_186.u (by decide) fr_fz_p0_33))) dX9_readWalk_137 (lv_iload_n hx hb dX9_readWalk_140 rfl (lv_at hl 2 rfl) (lv_iload hx hb dX9_readWalk_141 (lv_at hl 0 rfl) (q_ist hx hb hK hP228 hDa za_r_readWalk hS228 3 2 rfl rfl (q_in (by omega) (by omega)) dX9_readWalk_143 (fun H229 lo229 g229 eg229 (hP229 : va_P (dC, dI) vwCl (zW_r_readWalk p0 o_210 p0_steps c_p0_steps bz_p0_steps p0_strikes c_p0_strikes g228 p0_swings c_p0_swings g229 p0_text c_p0_text b_p0_text p0_wName c_p0_wName g21 p0_walks c_p0_walks b_p0_walks) H229) hS229 => ?_)))))
                clear hP228 hS228
                refine lv_aload_n hx hb dX9_readWalk_144 rfl (lv_at hl 4 rfl) (qg_X9_31 hx hb hts i_X9 hown hK hP229 0 rfl k_7 (hf_217.u (by decide) (hf_201.u (by decide) (hf_186.u (by decide) fr_fz_p0_31))) dX9_readWalk_145 (lv_iload_n hx hb dX9_readWalk_148 rfl (lv_at hl 3 rfl) (lv_dup2_11 hx hb dX9_readWalk_149 rfl rfl (q_ild hx hb hK hP229 1 0 rfl rfl (q_in (by omega) (by omega)) dX9_readWalk_150 (fun v_230 ev_230 => ?_)))))
                have uv_230 : v_230.toInt = (bz_p0_steps v_3.toNatClampNeg).toInt := by rw [ev_230]
                have tv_230 := q_rd' hr_bz_p0_steps (q_in (by omega) (by omega)) ev_230
                refine lv_iconst (v := 1) hx hb dX9_readWalk_151 (by decide) (lv_iadd hx hb dX9_readWalk_152 (lv_topi fun v_231 ev_231 => ?_))
                have tv_231 := q_add ev_231 (by omega) (by omega)
                refine q_ist hx hb hK hP229 hDa za_r_readWalk hS229 1 0 rfl rfl (q_in (by omega) (by omega)) dX9_readWalk_153 (fun H232 lo232 g232 eg232 (hP232 : va_P (dC, dI) vwCl (zW_r_readWalk p0 o_210 p0_steps c_p0_steps g232 p0_strikes c_p0_strikes g228 p0_swings c_p0_swings g229 p0_text c_p0_text b_p0_text p0_wName c_p0_wName g21 p0_walks c_p0_walks b_p0_walks) H232) hS232 => ?_)
                clear hP229 hS229
                have hr_g232 := q_up' hr_bz_p0_steps eg232 ⟨by omega, by omega⟩
                have usg232 : (g232 v_3.toNatClampNeg).toInt = v_231.toInt := by rw [eg232, pk_us]
                have osg232 := (hq53_2 : q_offd (4 * rb.toInt + (b_p0_walks rb.toNatClampNeg).toInt) b_p0_steps bz_p0_steps).up eg232 (by omega) (by omega)
                refine lv_goto (tgt := 53) hx hb dX9_readWalk_154 (by decide) ?_
                exact ih53 (fu53 - 1) (by omega) o_210 o_214 o_211 o_212 o_213 g232 g228 g229 _ _ _ (by omega) ho_216 (((hf_fz_p0.tr hf_186 (by decide)).tr hf_201 (by decide)).tr hf_217 (by decide)) (hf_217.u (by decide) (hf_201.u (by decide) (hf_186.u (by decide) fr_fz_p0_1))) (hf_217.u (by decide) (hf_201.u (by decide) (hf_186.u (by decide) fh_fz_p0_3))) z_221 (by omega) z_218 (by omega) z_219 (by omega) z_220 (by omega) (hf_217.u (by decide) (hf_201.u (by decide) (hf_186.u (by decide) fr_fz_p0_13))) (hf_217.u (by decide) (hf_201.u (by decide) (hf_186.u (by decide) fr_fz_p0_23))) (hf_217.u (by decide) (hf_201.u (by decide) (hf_186.u (by decide) fr_fz_p0_31))) (hf_217.u (by decide) (hf_201.u (by decide) (hf_186.u (by decide) fr_fz_p0_32))) (hf_217.u (by decide) (hf_201.u (by decide) (hf_186.u (by decide) fr_fz_p0_33))) (hf_217.u (by decide) (hf_201.u (by decide) (hf_186.u (by decide) fh_fz_p0_44))) hr_g232 (by omega) (by omega) osg232 (by omega) hP232 hS232 (lv_sub hl [3, 4] rfl)
              · refine lv_if_ne (tgt := 129) hx hb dX9_readWalk_125 (by decide) (fun c_233 => absurd c_233 (by decide)) (fun c_233 => ?_)
                exact q_vret hx hb hr hlocks hS225 dX9_readWalk_128 ⟨o_210, bz_p0_steps, bz_p0_strikes, bz_p0_swings, g21, b_p0_walks, o_211, o_212, o_213, o_214, ho_216, (((hf_fz_p0.tr hf_186 (by decide)).tr hf_201 (by decide)).tr hf_217 (by decide)), hr_bz_p0_steps, hr_p0_walks, z_218, z_219, z_220, z_221, (by omega), (by omega), q_offd.rf, hq53_2, (Or.inl (by omega)), hP225, za_r_readWalk⟩
      · refine lv_if_eq (tgt := 157) hx hb dX9_readWalk_57 (by decide) (fun c_234 => ?_) (fun c_234 => absurd c_234 (by decide))
        refine lv_aload_n hx hb dX9_readWalk_157 rfl (lv_at hl 1 rfl) (qg_X9_13 hx hb hts i_X9 hown hK hP25 0 rfl k_1 fr_fz_p0_13 dX9_readWalk_158 (lv_aload_n hx hb dX9_readWalk_161 rfl (lv_at hl 1 rfl) (qg_X9_44 hx hb hts i_X9 hown hK hP25 0 rfl k_0 fh_fz_p0_44 dX9_readWalk_162 (lv_dup2_11 hx hb dX9_readWalk_165 rfl rfl (q_ild hx hb hK hP25 6 5 rfl rfl (q_in (by omega) (by omega)) dX9_readWalk_166 (fun v_235 ev_235 => ?_))))))
        have uv_235 : v_235.toInt = (b_p0_walks rb.toNatClampNeg).toInt := by rw [ev_235]
        have tv_235 := q_rd' hr_p0_walks (q_in (by omega) (by omega)) ev_235
        refine lv_iconst (v := 1) hx hb dX9_readWalk_167 (by decide) (lv_iadd hx hb dX9_readWalk_168 (lv_topi fun v_236 ev_236 => ?_))
        have tv_236 := q_add ev_236 (by omega) (by omega)
        refine q_ist hx hb hK hP25 hDa za_r_readWalk hS25 6 5 rfl rfl (q_in (by omega) (by omega)) dX9_readWalk_169 (fun H237 lo237 g237 eg237 (hP237 : va_P (dC, dI) vwCl (zW_r_readWalk p0 fz_p0 p0_steps c_p0_steps bz_p0_steps p0_strikes c_p0_strikes bz_p0_strikes p0_swings c_p0_swings bz_p0_swings p0_text c_p0_text b_p0_text p0_wName c_p0_wName g21 p0_walks c_p0_walks g237) H237) hS237 => ?_)
        clear hP25 hS25
        have hr_g237 := q_up' hr_p0_walks eg237 ⟨by omega, by omega⟩
        have usg237 : (g237 rb.toNatClampNeg).toInt = v_236.toInt := by rw [eg237, pk_us]
        have owg237 := (q_offd.rf : q_offd rb.toInt b_p0_walks b_p0_walks).up eg237 (by omega) rfl
        exact q_vret hx hb hr hlocks hS237 dX9_readWalk_170 ⟨fz_p0, bz_p0_steps, bz_p0_strikes, bz_p0_swings, g21, g237, atv, env, tkv, fkv, ho_fz_p0, hf_fz_p0, hr_bz_p0_steps, hr_g237, fv_fz_p0_6, fv_fz_p0_7, fv_fz_p0_8, fv_fz_p0_4, (by omega), (by omega), owg237, hq53_2, (by by_cases q0 : fkv.toInt = 0; exact Or.inr ⟨by omega, fun j hj => by have q1 := q_nc (i := v_3) (by omega); rw [show j = v_3.toNatClampNeg by omega]; omega⟩; exact Or.inl (by omega)), hP237, za_r_readWalk⟩
  exact key53 109 o_8 o_12 o_9 o_10 o_11 g22 b_p0_strikes b_p0_swings _ _ _ (by omega) ho_13 (q_fr.rf.tr hf_14 (by decide)) (hf_14.u (by decide) fr_p0_1) (hf_14.u (by decide) pf_siz) z_18 (by omega) z_15 (by omega) z_16 (by omega) z_17 (by omega) (hf_14.u (by decide) fr_p0_13) (hf_14.u (by decide) fr_p0_23) (hf_14.u (by decide) fr_p0_31) (hf_14.u (by decide) fr_p0_32) (hf_14.u (by decide) fr_p0_33) (hf_14.u (by decide) pf_rb) hr_g22 (by omega) (by omega) osg22 (by omega) hP22 hS22 (lv_sub hl [0, 1] rfl)
