def zo_r_isWord : List Cond := [.code yX9_isWord cX9_isWord 3 (some .boolean), .fieldLink RX9 230 "BowWalkModel" "token" "I", .fieldLink RX9 237 "BowWalkModel" "name" "J"]
def zw_r_isWord : List Cond := zo_r_isWord ++ (wsX90 ++ [])
theorem gz_r_isWord : zw_r_isWord.all goodWord = true := p1_ga (by decide +kernel) (p1_ga gk_X9 p1_g0)
theorem iz_r_isWord : ∀ w ∈ zw_r_isWord, w ∈ lw_tbl := p1_ia (p1_all [1342, 1045, 1047] (by decide +kernel)) (p1_ia ik_X9 p1_i0)
def zW_r_isWord (p0 : Nat) (f_p0 : List Value) : va_W := [(p0, .inr (8, f_p0))]
def zT_r_isWord : List (ClassId × FieldType) := []
def zA_r_isWord (p0 : Nat) : List Nat := [p0]
theorem za_r_isWord {p0 : Nat} {f_p0 : List Value} : (zW_r_isWord p0 f_p0).map Prod.fst = (zA_r_isWord p0) := rfl
def zG_r_isWord (p0 : Nat) (f_p0 : List Value) (a1 : Int64) (tk : Int32) (nm : Int64) (r : Int32) (X : va_W → Prop) : Prop := ((r = 1 ∧ (tk.toInt = 3 ∧ nm = a1)) ∨ (r = 0 ∧ (tk.toInt ≠ 3 ∨ ¬ nm = a1))) ∧ X (zW_r_isWord p0 f_p0)
theorem zm_r_isWord {p0 : Nat} {f_p0 : List Value} {a1 : Int64} {tk : Int32} {nm : Int64} : ∀ (r : Int32), ∀ X Y : va_W → Prop, (∀ w, X w → Y w) → zG_r_isWord p0 f_p0 a1 tk nm r X → zG_r_isWord p0 f_p0 a1 tk nm r Y := fun r X Y h h1 => by obtain ⟨x0, hx⟩ := h1; exact ⟨x0, h _ hx⟩
set_option maxHeartbeats 4000000 in
set_option maxRecDepth 100000 in
theorem r_isWord (l : Launch) (dC : Nat → ClassId) (dI : Nat → Nat → Nat) (sz : Nat) (p0 : Nat) (f_p0 : List Value) (a1 : Int64) (tk : Int32) (nm : Int64) (ho_p0 : OKX9 f_p0) (pf_tk : q_if f_p0 8 tk) (pf_nm : q_lf f_p0 10 nm) : Met l yX9_isWord zw_r_isWord ({ frames := 0, cells := 0, slots := 0, locals := 0 }) (va_Pc [.ref p0, .long a1] (q_pre (dC, dI) (zW_r_isWord p0 f_p0) (zT_r_isWord) q_E0 sz)) (q_Qi (dC, dI) (zG_r_isWord p0 f_p0 a1 tk nm) (zA_r_isWord p0) (va_A (zW_r_isWord p0 f_p0) sz)) 0 0 (va_A (zW_r_isWord p0 f_p0) sz) := by
  refine Met.ofW (cc := cX9_isWord) (maxL := 3) (ret := (some .boolean)) (by decide) rfl ?_
  intro p e s m args below meth c s₁ B hml hv
  obtain ⟨rfl, hsz, hP, hK, hD0, hE⟩ := hv
  have hx := B.exec
  have hb := B.bytes
  have hr := B.returns
  have hts := atoms_spec (ws := zw_r_isWord) B.pre
  have hown : s.vm.findClass RX9 = some m.cls := findClass_of_methodNamed B.named
  have hlocks := B.notSynchronized
  subst hsz
  have hD := hD0.self (sz := s.heap.size)
  generalize hAe : va_A (zW_r_isWord p0 f_p0) s.heap.size = A at hD hE ⊢
  have hA : ∀ q : Nat, s.heap.size ≤ q → A q := fun q h => by rw [← hAe]; exact Or.inr h
  have hDa : q_DA A (zA_r_isWord p0) := q_DA.mk hD za_r_isWord
  clear hAe hD0 hD
  have hS : va_S A s.heap s.heap [] := va_S.rf
  have m_0 : (.fieldLink RX9 230 "BowWalkModel" "token" "I" : Cond) ∈ zw_r_isWord := List.mem_append_left _ (List.mem_of_getElem? (i := 1) rfl)
  have k_0 := hts _ m_0
  have m_1 : (.fieldLink RX9 237 "BowWalkModel" "name" "J" : Cond) ∈ zw_r_isWord := List.mem_append_left _ (List.mem_of_getElem? (i := 2) rfl)
  have k_1 := hts _ m_1
  have i_X9 : ∀ w ∈ u_ws RX9 TX9 81, w ∈ zw_r_isWord := fun w h => List.mem_append_right _ (List.mem_append_left _ h)
  have lt_0 : (0 : Int32).toInt = 0 := by decide
  have lt_1 : (1 : Int32).toInt = 1 := by decide
  have lt_3 : (3 : Int32).toInt = 3 := by decide
  have hl := lv_entry ([.ref p0, .long a1]) (n := 3) (Nat.le_of_ble_eq_true rfl)
  rw [lg_entry_eq]
  generalize (lg_sl ([.ref p0, .long a1]) ++ List.replicate (3 - (lg_sl ([.ref p0, .long a1])).length) Slot.unset).toArray = ls at hl ⊢
  have hl : lv_has ls 3 [(0, .ref p0), (1, .long a1)] := hl
  have ttk := (OKX9_g8 ho_p0).use pf_tk
  refine lv_aload_n hx hb dX9_isWord_0 rfl (lv_at hl 0 rfl) (qg_X9_8 hx hb hts i_X9 hown hK hP 0 rfl k_0 pf_tk dX9_isWord_1 (lv_iconst (v := 3) hx hb dX9_isWord_4 (by decide) ?_))
  refine lv_icmp_ne (tgt := 21) hx hb dX9_isWord_5 (by decide) (fun c_1 => ?_) (fun c_1 => ?_)
  · have tc_1 := q_ne c_1
    refine lv_iconst (v := 0) hx hb dX9_isWord_21 (by decide) ?_
    exact q_zret hx hb hr hlocks (by decide) hS dX9_isWord_22 ⟨(Or.inr ⟨rfl, Or.inl (by omega)⟩), hP, za_r_isWord⟩
  · have tc_1 := q_eqN c_1
    refine lv_aload_n hx hb dX9_isWord_8 rfl (lv_at hl 0 rfl) (qg_X9_10 hx hb hts i_X9 hown hK hP 0 rfl k_1 pf_nm dX9_isWord_9 (lv_lload_n hx hb dX9_isWord_12 rfl (lv_at hl 1 rfl) (W.lcmp hx hb dX9_isWord_13 (lv_topi fun v_2 ev_2 => ?_))))
    refine lv_if_ne (tgt := 21) hx hb dX9_isWord_14 (by decide) (fun c_3 => ?_) (fun c_3 => ?_)
    · have tc_3 := q_ne c_3
      have lc_3 := q_lcn ev_2 (by omega)
      refine lv_iconst (v := 0) hx hb dX9_isWord_21 (by decide) ?_
      exact q_zret hx hb hr hlocks (by decide) hS dX9_isWord_22 ⟨(Or.inr ⟨rfl, Or.inr lc_3⟩), hP, za_r_isWord⟩
    · have tc_3 := q_eqN c_3
      have lc_3 := q_lc ev_2 (by omega)
      refine lv_iconst (v := 1) hx hb dX9_isWord_17 (by decide) (lv_goto (tgt := 22) hx hb dX9_isWord_18 (by decide) ?_)
      exact q_zret hx hb hr hlocks (by decide) hS dX9_isWord_22 ⟨(Or.inl ⟨rfl, by omega, lc_3⟩), hP, za_r_isWord⟩
def zo_r_goOn : List Cond := [.code yX9_goOn cX9_goOn 3 none, .fieldLink RX9 220 "BowWalkModel" "end" "I", .fieldLink RX9 223 "BowWalkModel" "at" "I", .fieldLink RX9 170 "BowWalkModel" "size" "I", .methodLink RX9 226 yX9_sign, .instanceMethod yX9_sign, .selects RX9 yX9_sign yX9_sign, .initialized RX9, .methodLink RX9 233 yX9_isLetter, .static yX9_isLetter, .fieldLink RX9 237 "BowWalkModel" "name" "J", .methodLink RX9 241 yX9_isKept, .static yX9_isKept, .fieldLink RX9 230 "BowWalkModel" "token" "I", .methodLink RX9 245 yX9_isDigit, .static yX9_isDigit, .fieldLink RX9 248 "BowWalkModel" "number" "I", .methodLink RX9 251 yX9_isSign, .static yX9_isSign]
def zw_r_goOn : List Cond := zo_r_goOn ++ (zw_r_sign ++ (zw_r_isLetter ++ (zw_r_isKept ++ (zw_r_isDigit ++ (zw_r_isSign ++ (wsX90 ++ []))))))
theorem gz_r_goOn : zw_r_goOn.all goodWord = true := p1_ga (by decide +kernel) (p1_ga gz_r_sign (p1_ga gz_r_isLetter (p1_ga gz_r_isKept (p1_ga gz_r_isDigit (p1_ga gz_r_isSign (p1_ga gk_X9 p1_g0))))))
theorem iz_r_goOn : ∀ w ∈ zw_r_goOn, w ∈ lw_tbl := p1_ia (p1_all [1288, 1044, 1043, 1040, 1289, 1291, 45, 116, 1293, 1294, 1047, 1296, 1297, 1045, 1321, 1322, 1046, 1324, 1325] (by decide +kernel)) (p1_ia iz_r_sign (p1_ia iz_r_isLetter (p1_ia iz_r_isKept (p1_ia iz_r_isDigit (p1_ia iz_r_isSign (p1_ia ik_X9 p1_i0))))))
def zW_r_goOn (p0 : Nat) (f_p0 : List Value) (p0_text : Nat) (c_p0_text : ClassId) (b_p0_text : Nat → Int32) : va_W := [(p0, .inr (8, f_p0)), (p0_text, .inl (c_p0_text, 1600, .inl b_p0_text))]
def zT_r_goOn (c_p0_text : ClassId) : List (ClassId × FieldType) := [(c_p0_text, .byte)]
def zA_r_goOn (p0 : Nat) (p0_text : Nat) : List Nat := [p0, p0_text]
theorem za_r_goOn {p0 : Nat} {f_p0 : List Value} {p0_text : Nat} {c_p0_text : ClassId} {b_p0_text : Nat → Int32} : (zW_r_goOn p0 f_p0 p0_text c_p0_text b_p0_text).map Prod.fst = (zA_r_goOn p0 p0_text) := rfl
def zG_r_goOn (p0 : Nat) (f_p0 : List Value) (p0_text : Nat) (c_p0_text : ClassId) (b_p0_text : Nat → Int32) (en : Int32) (siz : Int32) (X : va_W → Prop) : Prop := ∃ (y_p0 : List Value) (at1 : Int32) (en1 : Int32) (tk1 : Int32), OKX9 y_p0 ∧ q_fr [6, 7, 8, 9, 10] f_p0 y_p0 ∧ q_if y_p0 6 at1 ∧ q_if y_p0 7 en1 ∧ q_if y_p0 8 tk1 ∧ (en1.toInt ≤ siz.toInt ∧ en.toInt ≤ at1.toInt ∧ at1.toInt ≤ en1.toInt ∧ (tk1.toInt ≠ 3 ∨ at1.toInt < en1.toInt)) ∧ X (zW_r_goOn p0 y_p0 p0_text c_p0_text b_p0_text)
theorem zm_r_goOn {p0 : Nat} {f_p0 : List Value} {p0_text : Nat} {c_p0_text : ClassId} {b_p0_text : Nat → Int32} {en : Int32} {siz : Int32} : ∀ X Y : va_W → Prop, (∀ w, X w → Y w) → zG_r_goOn p0 f_p0 p0_text c_p0_text b_p0_text en siz X → zG_r_goOn p0 f_p0 p0_text c_p0_text b_p0_text en siz Y := fun X Y h h1 => by obtain ⟨x0, x1, x2, x3, x4, x5, x6, x7, x8, x9, hx⟩ := h1; exact ⟨x0, x1, x2, x3, x4, x5, x6, x7, x8, x9, h _ hx⟩
set_option maxHeartbeats 4000000 in
set_option maxRecDepth 100000 in
theorem r_goOn (l : Launch) (dC : Nat → ClassId) (dI : Nat → Nat → Nat) (sz : Nat) (p0 : Nat) (f_p0 : List Value) (p0_text : Nat) (c_p0_text : ClassId) (b_p0_text : Nat → Int32) (en : Int32) (siz : Int32) (ho_p0 : OKX9 f_p0) (fr_p0_1 : q_rf f_p0 1 p0_text) (pf_en : q_if f_p0 7 en) (pf_siz : q_if f_p0 3 siz) (hR : en.toInt ≤ siz.toInt) : Met l yX9_goOn zw_r_goOn ({ frames := 1, cells := 0, slots := 0, locals := 22 }) (va_Pc [.ref p0] (q_pre (dC, dI) (zW_r_goOn p0 f_p0 p0_text c_p0_text b_p0_text) (zT_r_goOn c_p0_text) q_E0 sz)) (q_Qv (dC, dI) (zG_r_goOn p0 f_p0 p0_text c_p0_text b_p0_text en siz) (zA_r_goOn p0 p0_text) (va_A (zW_r_goOn p0 f_p0 p0_text c_p0_text b_p0_text) sz)) 0 0 (va_A (zW_r_goOn p0 f_p0 p0_text c_p0_text b_p0_text) sz) := by
  refine Met.ofW (cc := cX9_goOn) (maxL := 3) (ret := none) (by decide) rfl ?_
  intro p e s m args below meth c s₁ B hml hv
  obtain ⟨rfl, hsz, hP, hK, hD0, hE⟩ := hv
  have hx := B.exec
  have hb := B.bytes
  have hr := B.returns
  have hts := atoms_spec (ws := zw_r_goOn) B.pre
  have hown : s.vm.findClass RX9 = some m.cls := findClass_of_methodNamed B.named
  have hlocks := B.notSynchronized
  subst hsz
  have hD := hD0.self (sz := s.heap.size)
  generalize hAe : va_A (zW_r_goOn p0 f_p0 p0_text c_p0_text b_p0_text) s.heap.size = A at hD hE ⊢
  have hA : ∀ q : Nat, s.heap.size ≤ q → A q := fun q h => by rw [← hAe]; exact Or.inr h
  have hDa : q_DA A (zA_r_goOn p0 p0_text) := q_DA.mk hD za_r_goOn
  clear hAe hD0 hD
  have hS : va_S A s.heap s.heap [] := va_S.rf
  have m_0 : (.fieldLink RX9 220 "BowWalkModel" "end" "I" : Cond) ∈ zw_r_goOn := List.mem_append_left _ (List.mem_of_getElem? (i := 1) rfl)
  have k_0 := hts _ m_0
  have m_1 : (.fieldLink RX9 223 "BowWalkModel" "at" "I" : Cond) ∈ zw_r_goOn := List.mem_append_left _ (List.mem_of_getElem? (i := 2) rfl)
  have k_1 := hts _ m_1
  have m_2 : (.fieldLink RX9 170 "BowWalkModel" "size" "I" : Cond) ∈ zw_r_goOn := List.mem_append_left _ (List.mem_of_getElem? (i := 3) rfl)
  have k_2 := hts _ m_2
  have m_3 : (.methodLink RX9 226 yX9_sign : Cond) ∈ zw_r_goOn := List.mem_append_left _ (List.mem_of_getElem? (i := 4) rfl)
  have k_3 := hts _ m_3
  have m_4 : (.instanceMethod yX9_sign : Cond) ∈ zw_r_goOn := List.mem_append_left _ (List.mem_of_getElem? (i := 5) rfl)
  have k_4 := hts _ m_4
  have m_5 : (.selects RX9 yX9_sign yX9_sign : Cond) ∈ zw_r_goOn := List.mem_append_left _ (List.mem_of_getElem? (i := 6) rfl)
  have k_5 := hts _ m_5
  have m_6 : (.initialized RX9 : Cond) ∈ zw_r_goOn := List.mem_append_left _ (List.mem_of_getElem? (i := 7) rfl)
  have k_6 := hts _ m_6
  have m_7 : (.methodLink RX9 233 yX9_isLetter : Cond) ∈ zw_r_goOn := List.mem_append_left _ (List.mem_of_getElem? (i := 8) rfl)
  have k_7 := hts _ m_7
  have m_8 : (.static yX9_isLetter : Cond) ∈ zw_r_goOn := List.mem_append_left _ (List.mem_of_getElem? (i := 9) rfl)
  have k_8 := hts _ m_8
  have m_9 : (.fieldLink RX9 237 "BowWalkModel" "name" "J" : Cond) ∈ zw_r_goOn := List.mem_append_left _ (List.mem_of_getElem? (i := 10) rfl)
  have k_9 := hts _ m_9
  have m_10 : (.methodLink RX9 241 yX9_isKept : Cond) ∈ zw_r_goOn := List.mem_append_left _ (List.mem_of_getElem? (i := 11) rfl)
  have k_10 := hts _ m_10
  have m_11 : (.static yX9_isKept : Cond) ∈ zw_r_goOn := List.mem_append_left _ (List.mem_of_getElem? (i := 12) rfl)
  have k_11 := hts _ m_11
  have m_12 : (.fieldLink RX9 230 "BowWalkModel" "token" "I" : Cond) ∈ zw_r_goOn := List.mem_append_left _ (List.mem_of_getElem? (i := 13) rfl)
  have k_12 := hts _ m_12
  have m_13 : (.methodLink RX9 245 yX9_isDigit : Cond) ∈ zw_r_goOn := List.mem_append_left _ (List.mem_of_getElem? (i := 14) rfl)
  have k_13 := hts _ m_13
  have m_14 : (.static yX9_isDigit : Cond) ∈ zw_r_goOn := List.mem_append_left _ (List.mem_of_getElem? (i := 15) rfl)
  have k_14 := hts _ m_14
  have m_15 : (.fieldLink RX9 248 "BowWalkModel" "number" "I" : Cond) ∈ zw_r_goOn := List.mem_append_left _ (List.mem_of_getElem? (i := 16) rfl)
  have k_15 := hts _ m_15
  have m_16 : (.methodLink RX9 251 yX9_isSign : Cond) ∈ zw_r_goOn := List.mem_append_left _ (List.mem_of_getElem? (i := 17) rfl)
  have k_16 := hts _ m_16
  have m_17 : (.static yX9_isSign : Cond) ∈ zw_r_goOn := List.mem_append_left _ (List.mem_of_getElem? (i := 18) rfl)
  have k_17 := hts _ m_17
  have g_r_sign : ∀ w ∈ zw_r_sign, w ∈ zw_r_goOn := fun w h => List.mem_append_right _ (List.mem_append_left _ h)
  have g_r_isLetter : ∀ w ∈ zw_r_isLetter, w ∈ zw_r_goOn := fun w h => List.mem_append_right _ (List.mem_append_right _ (List.mem_append_left _ h))
  have g_r_isKept : ∀ w ∈ zw_r_isKept, w ∈ zw_r_goOn := fun w h => List.mem_append_right _ (List.mem_append_right _ (List.mem_append_right _ (List.mem_append_left _ h)))
  have g_r_isDigit : ∀ w ∈ zw_r_isDigit, w ∈ zw_r_goOn := fun w h => List.mem_append_right _ (List.mem_append_right _ (List.mem_append_right _ (List.mem_append_right _ (List.mem_append_left _ h))))
  have g_r_isSign : ∀ w ∈ zw_r_isSign, w ∈ zw_r_goOn := fun w h => List.mem_append_right _ (List.mem_append_right _ (List.mem_append_right _ (List.mem_append_right _ (List.mem_append_right _ (List.mem_append_left _ h)))))
  have i_X9 : ∀ w ∈ u_ws RX9 TX9 81, w ∈ zw_r_goOn := fun w h => List.mem_append_right _ (List.mem_append_right _ (List.mem_append_right _ (List.mem_append_right _ (List.mem_append_right _ (List.mem_append_right _ (List.mem_append_left _ h))))))
  have lt_0 : (0 : Int32).toInt = 0 := by decide
  have lt_1 : (1 : Int32).toInt = 1 := by decide
  have lt_2 : (2 : Int32).toInt = 2 := by decide
  have lt_3 : (3 : Int32).toInt = 3 := by decide
  have lt_4 : (4 : Int32).toInt = 4 := by decide
  have lt_5 : (5 : Int32).toInt = 5 := by decide
  have lt_8 : (8 : Int32).toInt = 8 := by decide
  have lt_10 : (10 : Int32).toInt = 10 := by decide
  have lt_32 : (32 : Int32).toInt = 32 := by decide
  have lt_48 : (48 : Int32).toInt = 48 := by decide
  have hl := lv_entry ([.ref p0]) (n := 3) (Nat.le_of_ble_eq_true rfl)
  rw [lg_entry_eq]
  generalize (lg_sl ([.ref p0]) ++ List.replicate (3 - (lg_sl ([.ref p0])).length) Slot.unset).toArray = ls at hl ⊢
  have hl : lv_has ls 3 [(0, .ref p0)] := hl
  have ten := (OKX9_g7 ho_p0).use pf_en
  have tsiz := (OKX9_g3 ho_p0).use pf_siz
  refine lv_aload_n hx hb dX9_goOn_0 rfl (lv_at hl 0 rfl) (lv_aload_n hx hb dX9_goOn_1 rfl (lv_at hl 0 rfl) (qg_X9_7 hx hb hts i_X9 hown hK hP 0 rfl k_0 pf_en dX9_goOn_2 (qp_X9_6 hx hb hts i_X9 hown hK hP hDa za_r_goOn hS 0 rfl k_1 (OKX9_l ho_p0) dX9_goOn_5 (fun H1 lo1 fs1 efs1 (hP1 : va_P (dC, dI) vwCl (zW_r_goOn p0 fs1 p0_text c_p0_text b_p0_text) H1) hS1 => ?_))))
  have ho1 := OKX9_p6 ho_p0 efs1 ⟨by omega, by omega⟩
  clear hP hS
  have key8 : ∀ (fu8 : Nat) (fz_p0 : List Value) (atv : Int32) (H : Heap) (locs : List Loc) (ls : Array Slot) (hfu8 : siz.toInt - atv.toInt ≤ (fu8 : Int)) (ho_fz_p0 : OKX9 fz_p0) (hf_fz_p0 : q_fr [6, 7, 8, 9, 10] f_p0 fz_p0) (fr_fz_p0_1 : q_rf fz_p0 1 p0_text) (fh_fz_p0_3 : q_if fz_p0 3 siz) (fv_fz_p0_6 : q_if fz_p0 6 atv) (tatv : (0) ≤ atv.toInt ∧ atv.toInt ≤ 1600) (fh_fz_p0_7 : q_if fz_p0 7 en) (hq8_0 : en.toInt ≤ atv.toInt ∧ atv.toInt ≤ siz.toInt), va_P (dC, dI) vwCl (zW_r_goOn p0 fz_p0 p0_text c_p0_text b_p0_text) H → va_S A s.heap H locs → lv_has ls 3 [(0, .ref p0)] → W p l e (headSpec zw_r_goOn { frames := 1, cells := 0, slots := 0, locals := 22 }).room s m ([.ref p0] : List Value).toArray below meth c H locs 0 0 (MQ below (q_Qv (dC, dI) (zG_r_goOn p0 f_p0 p0_text c_p0_text b_p0_text en siz) (zA_r_goOn p0 p0_text) A) ([.ref p0] : List Value).toArray s 0 0 A) (F0 m 8 ls []) := by
    intro fu8
    induction fu8 using Nat.strongRecOn with
    | ind fu8 ih8 =>
      intro fz_p0 atv H2 lo2 ls hfu8 ho_fz_p0 hf_fz_p0 fr_fz_p0_1 fh_fz_p0_3 fv_fz_p0_6 tatv fh_fz_p0_7 hq8_0 hP2 hS2 hl
      refine lv_aload_n hx hb dX9_goOn_8 rfl (lv_at hl 0 rfl) (qg_X9_6 hx hb hts i_X9 hown hK hP2 0 rfl k_1 fv_fz_p0_6 dX9_goOn_9 (lv_aload_n hx hb dX9_goOn_12 rfl (lv_at hl 0 rfl) (qg_X9_3 hx hb hts i_X9 hown hK hP2 0 rfl k_2 fh_fz_p0_3 dX9_goOn_13 ?_)))
      refine lv_icmp_ge (tgt := 58) hx hb dX9_goOn_16 (by decide) (fun c_3 => ?_) (fun c_3 => ?_)
      · have tc_3 := q_ge c_3
        refine lv_aload_n hx hb dX9_goOn_58 rfl (lv_at hl 0 rfl) (lv_aload_n hx hb dX9_goOn_59 rfl (lv_at hl 0 rfl) (qg_X9_6 hx hb hts i_X9 hown hK hP2 0 rfl k_1 fv_fz_p0_6 dX9_goOn_60 ?_))
        refine q_cVi (As := [.int atv]) (rest := []) q_w0 trivial hK hP2 hDa za_r_goOn hS2 hA [0, 1] [0] (by decide +kernel) ⟨hx, hb, hml, hown, hts⟩ (r_sign l dC dI H2.size p0 fz_p0 p0_text c_p0_text b_p0_text atv siz ho_fz_p0 fr_fz_p0_1 fh_fz_p0_3 ((by omega))) rfl rfl (cwV 1 hts (p1_gV m_3 m_4 m_5 m_6 g_r_sign gz_r_sign) rfl rfl rfl (by decide +kernel) ⟨by decide, by decide⟩) (va_recv hK hP2 (ci := 8) (q0 := 0) rfl rfl) zm_r_sign rfl hl.1 rfl (Nat.le_of_ble_eq_true rfl) dX9_goOn_63 ⟨by decide, by decide⟩ (fun r_4 H5 lo5 hG5 hS5 => ?_)
        obtain ⟨z_6, hQ5⟩ := hG5
        have hP5 : va_P (dC, dI) vwCl (zW_r_goOn p0 fz_p0 p0_text c_p0_text b_p0_text) H5 := hQ5
        clear hQ5 hP2 hS2
        refine lv_istore_n (lv' := [(1, .int r_4), (0, .ref p0)]) hx hb dX9_goOn_66 rfl hl (by decide) rfl (fun ls hl => ?_)
        refine lv_aload_n hx hb dX9_goOn_67 rfl (lv_at hl 1 rfl) (lv_aload_n hx hb dX9_goOn_68 rfl (lv_at hl 1 rfl) (qg_X9_6 hx hb hts i_X9 hown hK hP5 0 rfl k_1 fv_fz_p0_6 dX9_goOn_69 (lv_iconst (v := 1) hx hb dX9_goOn_72 (by decide) (lv_iadd hx hb dX9_goOn_73 (lv_topi fun v_7 ev_7 => ?_)))))
        have tv_7 := q_add ev_7 (by omega) (by omega)
        refine qp_X9_7 hx hb hts i_X9 hown hK hP5 hDa za_r_goOn hS5 0 rfl k_0 (OKX9_l ho_fz_p0) dX9_goOn_74 (fun H8 lo8 fs8 efs8 (hP8 : va_P (dC, dI) vwCl (zW_r_goOn p0 fs8 p0_text c_p0_text b_p0_text) H8) hS8 => ?_)
        have ho8 := OKX9_p7 ho_fz_p0 efs8 ⟨by omega, by omega⟩
        clear hP5 hS5
        refine lv_aload_n hx hb dX9_goOn_77 rfl (lv_at hl 1 rfl) (qg_X9_6 hx hb hts i_X9 hown hK hP8 0 rfl k_1 (q_sn efs8 (by decide) fv_fz_p0_6) dX9_goOn_78 (lv_aload_n hx hb dX9_goOn_81 rfl (lv_at hl 1 rfl) (qg_X9_3 hx hb hts i_X9 hown hK hP8 0 rfl k_2 (q_sn efs8 (by decide) fh_fz_p0_3) dX9_goOn_82 ?_)))
        refine lv_icmp_lt (tgt := 112) hx hb dX9_goOn_85 (by decide) (fun c_9 => ?_) (fun c_9 => ?_)
        · have tc_9 := q_lt c_9
          refine lv_iload_n hx hb dX9_goOn_112 rfl (lv_at hl 0 rfl) ?_
          refine q_cSi (As := [.int r_4]) (rest := []) q_w0 trivial hK hP8 hDa za_r_goOn hS8 hA [] [] (by decide +kernel) ⟨hx, hb, hml, hown, hts⟩ (r_isLetter l dC dI H8.size r_4) rfl rfl (va_cwS 1 hts (p1_gS m_7 m_8 m_6 g_r_isLetter gz_r_isLetter) rfl rfl rfl (by decide +kernel) ⟨by decide, by decide⟩) zm_r_isLetter rfl hl.1 rfl (Nat.le_of_ble_eq_true rfl) dX9_goOn_113 ⟨by decide, by decide⟩ (fun r_10 H11 lo11 hG11 hS11 => ?_)
          obtain ⟨z_12, hQ11⟩ := hG11
          have hP11 : va_P (dC, dI) vwCl (zW_r_goOn p0 fs8 p0_text c_p0_text b_p0_text) H11 := hQ11
          clear hQ11 hP8 hS8
          rcases z_12 with ⟨rfl, z_12⟩ | ⟨rfl, z_12⟩
          · refine lv_if_eq (tgt := 239) hx hb dX9_goOn_116 (by decide) (fun c_13 => absurd c_13 (by decide)) (fun c_13 => ?_)
            have key119 : ∀ (fu119 : Nat) (fz_p0 : List Value) (env : Int32) (H : Heap) (locs : List Loc) (ls : Array Slot) (hfu119 : 1601 - env.toInt ≤ (fu119 : Int)) (ho_fz_p0 : OKX9 fz_p0) (hf_fz_p0 : q_fr [6, 7, 8, 9, 10] f_p0 fz_p0) (fr_fz_p0_1 : q_rf fz_p0 1 p0_text) (fh_fz_p0_3 : q_if fz_p0 3 siz) (fh_fz_p0_6 : q_if fz_p0 6 atv) (fv_fz_p0_7 : q_if fz_p0 7 env) (tenv : (0) ≤ env.toInt ∧ env.toInt ≤ 1601) (hq119_0 : atv.toInt + 1 ≤ env.toInt ∧ env.toInt ≤ siz.toInt), va_P (dC, dI) vwCl (zW_r_goOn p0 fz_p0 p0_text c_p0_text b_p0_text) H → va_S A s.heap H locs → lv_has ls 3 [(1, .int r_4), (0, .ref p0)] → W p l e (headSpec zw_r_goOn { frames := 1, cells := 0, slots := 0, locals := 22 }).room s m ([.ref p0] : List Value).toArray below meth c H locs 0 0 (MQ below (q_Qv (dC, dI) (zG_r_goOn p0 f_p0 p0_text c_p0_text b_p0_text en siz) (zA_r_goOn p0 p0_text) A) ([.ref p0] : List Value).toArray s 0 0 A) (F0 m 119 ls []) := by
              intro fu119
              induction fu119 using Nat.strongRecOn with
              | ind fu119 ih119 =>
                intro fz_p0 env H14 lo14 ls hfu119 ho_fz_p0 hf_fz_p0 fr_fz_p0_1 fh_fz_p0_3 fh_fz_p0_6 fv_fz_p0_7 tenv hq119_0 hP14 hS14 hl
                refine lv_aload_n hx hb dX9_goOn_119 rfl (lv_at hl 1 rfl) (lv_aload_n hx hb dX9_goOn_120 rfl (lv_at hl 1 rfl) (qg_X9_7 hx hb hts i_X9 hown hK hP14 0 rfl k_0 fv_fz_p0_7 dX9_goOn_121 ?_))
                refine q_cVi (As := [.int env]) (rest := []) q_w0 trivial hK hP14 hDa za_r_goOn hS14 hA [0, 1] [0] (by decide +kernel) ⟨hx, hb, hml, hown, hts⟩ (r_sign l dC dI H14.size p0 fz_p0 p0_text c_p0_text b_p0_text env siz ho_fz_p0 fr_fz_p0_1 fh_fz_p0_3 ((by omega))) rfl rfl (cwV 1 hts (p1_gV m_3 m_4 m_5 m_6 g_r_sign gz_r_sign) rfl rfl rfl (by decide +kernel) ⟨by decide, by decide⟩) (va_recv hK hP14 (ci := 8) (q0 := 0) rfl rfl) zm_r_sign rfl hl.1 rfl (Nat.le_of_ble_eq_true rfl) dX9_goOn_124 ⟨by decide, by decide⟩ (fun r_15 H16 lo16 hG16 hS16 => ?_)
                obtain ⟨z_17, hQ16⟩ := hG16
                have hP16 : va_P (dC, dI) vwCl (zW_r_goOn p0 fz_p0 p0_text c_p0_text b_p0_text) H16 := hQ16
                clear hQ16 hP14 hS14
                refine q_cSi (As := [.int r_15]) (rest := []) q_w0 trivial hK hP16 hDa za_r_goOn hS16 hA [] [] (by decide +kernel) ⟨hx, hb, hml, hown, hts⟩ (r_isLetter l dC dI H16.size r_15) rfl rfl (va_cwS 1 hts (p1_gS m_7 m_8 m_6 g_r_isLetter gz_r_isLetter) rfl rfl rfl (by decide +kernel) ⟨by decide, by decide⟩) zm_r_isLetter rfl hl.1 rfl (Nat.le_of_ble_eq_true rfl) dX9_goOn_127 ⟨by decide, by decide⟩ (fun r_18 H19 lo19 hG19 hS19 => ?_)
                obtain ⟨z_20, hQ19⟩ := hG19
                have hP19 : va_P (dC, dI) vwCl (zW_r_goOn p0 fz_p0 p0_text c_p0_text b_p0_text) H19 := hQ19
                clear hQ19 hP16 hS16
                rcases z_20 with ⟨rfl, z_20⟩ | ⟨rfl, z_20⟩
                · refine lv_if_eq (tgt := 146) hx hb dX9_goOn_130 (by decide) (fun c_21 => absurd c_21 (by decide)) (fun c_21 => ?_)
                  refine lv_aload_n hx hb dX9_goOn_133 rfl (lv_at hl 1 rfl) (lv_dup hx hb dX9_goOn_134 rfl (qg_X9_7 hx hb hts i_X9 hown hK hP19 0 rfl k_0 fv_fz_p0_7 dX9_goOn_135 (lv_iconst (v := 1) hx hb dX9_goOn_138 (by decide) (lv_iadd hx hb dX9_goOn_139 (lv_topi fun v_22 ev_22 => ?_)))))
                  have tv_22 := q_add ev_22 (by omega) (by omega)
                  refine qp_X9_7 hx hb hts i_X9 hown hK hP19 hDa za_r_goOn hS19 0 rfl k_0 (OKX9_l ho_fz_p0) dX9_goOn_140 (fun H23 lo23 fs23 efs23 (hP23 : va_P (dC, dI) vwCl (zW_r_goOn p0 fs23 p0_text c_p0_text b_p0_text) H23) hS23 => ?_)
                  have ho23 := OKX9_p7 ho_fz_p0 efs23 ⟨by omega, by omega⟩
                  clear hP19 hS19
                  refine lv_goto (tgt := 119) hx hb dX9_goOn_143 (by decide) ?_
                  exact ih119 (fu119 - 1) (by omega) fs23 v_22 _ _ _ (by omega) ho23 (hf_fz_p0.st efs23 (by decide)) (q_sn efs23 (by decide) fr_fz_p0_1) (q_sn efs23 (by decide) fh_fz_p0_3) (q_sn efs23 (by decide) fh_fz_p0_6) (q_sa efs23 (OKX9_l ho_fz_p0) (by decide)) (by omega) (by omega) hP23 hS23 (lv_sub hl [0, 1] rfl)
                · refine lv_if_eq (tgt := 146) hx hb dX9_goOn_130 (by decide) (fun c_24 => ?_) (fun c_24 => absurd c_24 (by decide))
                  refine lv_aload_n hx hb dX9_goOn_146 rfl (lv_at hl 1 rfl) (lv_lconst (v := 0) hx hb dX9_goOn_147 (by decide) (qp_X9_10 hx hb hts i_X9 hown hK hP19 hDa za_r_goOn hS19 0 rfl k_9 (OKX9_l ho_fz_p0) dX9_goOn_148 (fun H25 lo25 fs25 efs25 (hP25 : va_P (dC, dI) vwCl (zW_r_goOn p0 fs25 p0_text c_p0_text b_p0_text) H25) hS25 => ?_)))
                  have ho25 := OKX9_p10 ho_fz_p0 efs25
                  clear hP19 hS19
                  refine lv_aload_n hx hb dX9_goOn_151 rfl (lv_at hl 1 rfl) (qg_X9_6 hx hb hts i_X9 hown hK hP25 0 rfl k_1 (q_sn efs25 (by decide) fh_fz_p0_6) dX9_goOn_152 (lv_istore_n (lv' := [(2, .int atv), (1, .int r_4), (0, .ref p0)]) hx hb dX9_goOn_155 rfl hl (by decide) rfl (fun ls hl => ?_)))
                  have key156 : ∀ (fu156 : Nat) (kk : Int32) (fz_p0 : List Value) (H : Heap) (locs : List Loc) (ls : Array Slot) (hfu156 : 1601 - kk.toInt ≤ (fu156 : Int)) (tkk : (0) ≤ kk.toInt ∧ kk.toInt ≤ 1601) (ho_fz_p0 : OKX9 fz_p0) (hf_fz_p0 : q_fr [6, 7, 8, 9, 10] f_p0 fz_p0) (fr_fz_p0_1 : q_rf fz_p0 1 p0_text) (fh_fz_p0_3 : q_if fz_p0 3 siz) (fh_fz_p0_6 : q_if fz_p0 6 atv) (fh_fz_p0_7 : q_if fz_p0 7 env), va_P (dC, dI) vwCl (zW_r_goOn p0 fz_p0 p0_text c_p0_text b_p0_text) H → va_S A s.heap H locs → lv_has ls 3 [(2, .int kk), (1, .int r_4), (0, .ref p0)] → W p l e (headSpec zw_r_goOn { frames := 1, cells := 0, slots := 0, locals := 22 }).room s m ([.ref p0] : List Value).toArray below meth c H locs 0 0 (MQ below (q_Qv (dC, dI) (zG_r_goOn p0 f_p0 p0_text c_p0_text b_p0_text en siz) (zA_r_goOn p0 p0_text) A) ([.ref p0] : List Value).toArray s 0 0 A) (F0 m 156 ls []) := by
                    intro fu156
                    induction fu156 using Nat.strongRecOn with
                    | ind fu156 ih156 =>
                      intro kk fz_p0 H26 lo26 ls hfu156 tkk ho_fz_p0 hf_fz_p0 fr_fz_p0_1 fh_fz_p0_3 fh_fz_p0_6 fh_fz_p0_7 hP26 hS26 hl
                      refine lv_iload_n hx hb dX9_goOn_156 rfl (lv_at hl 0 rfl) (lv_aload_n hx hb dX9_goOn_157 rfl (lv_at hl 2 rfl) (qg_X9_7 hx hb hts i_X9 hown hK hP26 0 rfl k_0 fh_fz_p0_7 dX9_goOn_158 ?_))
                      refine lv_icmp_ge (tgt := 199) hx hb dX9_goOn_161 (by decide) (fun c_27 => ?_) (fun c_27 => ?_)
                      · have tc_27 := q_ge c_27
                        refine lv_aload_n hx hb dX9_goOn_199 rfl (lv_at hl 2 rfl) (lv_aload_n hx hb dX9_goOn_200 rfl (lv_at hl 2 rfl) (qg_X9_7 hx hb hts i_X9 hown hK hP26 0 rfl k_0 fh_fz_p0_7 dX9_goOn_201 (lv_aload_n hx hb dX9_goOn_204 rfl (lv_at hl 2 rfl) (qg_X9_6 hx hb hts i_X9 hown hK hP26 0 rfl k_1 fh_fz_p0_6 dX9_goOn_205 (lv_isub hx hb dX9_goOn_208 (lv_topi fun v_28 ev_28 => ?_))))))
                        have tv_28 := q_sub ev_28 (by omega) (by omega)
                        refine lv_bipush (v := 8) hx hb dX9_goOn_209 (by decide) ?_
                        refine lv_icmp_le (tgt := 218) hx hb dX9_goOn_211 (by decide) (fun c_29 => ?_) (fun c_29 => ?_)
                        · have tc_29 := q_le c_29
                          refine lv_aload_n hx hb dX9_goOn_218 rfl (lv_at hl 2 rfl) ?_
                          obtain ⟨v_30, fv_30⟩ := OKX9_g10 ho_fz_p0
                          refine qg_X9_10 hx hb hts i_X9 hown hK hP26 0 rfl k_9 fv_30 dX9_goOn_219 ?_
                          refine q_cSi (As := [.long v_30]) (rest := [.ref p0]) q_w0 trivial hK hP26 hDa za_r_goOn hS26 hA [] [] (by decide +kernel) ⟨hx, hb, hml, hown, hts⟩ (r_isKept l dC dI H26.size v_30) rfl rfl (va_cwS 1 hts (p1_gS m_10 m_11 m_6 g_r_isKept gz_r_isKept) rfl rfl rfl (by decide +kernel) ⟨by decide, by decide⟩) zm_r_isKept rfl hl.1 rfl (Nat.le_of_ble_eq_true rfl) dX9_goOn_222 ⟨by decide, by decide⟩ (fun r_31 H32 lo32 hG32 hS32 => ?_)
                          obtain ⟨z_33, hQ32⟩ := hG32
                          have hP32 : va_P (dC, dI) vwCl (zW_r_goOn p0 fz_p0 p0_text c_p0_text b_p0_text) H32 := hQ32
                          clear hQ32 hP26 hS26
                          rcases z_33 with ⟨rfl, z_33⟩ | ⟨rfl, z_33⟩
                          · refine lv_if_eq (tgt := 232) hx hb dX9_goOn_225 (by decide) (fun c_34 => absurd c_34 (by decide)) (fun c_34 => ?_)
                            refine lv_iconst (v := 3) hx hb dX9_goOn_228 (by decide) (lv_goto (tgt := 233) hx hb dX9_goOn_229 (by decide) (qp_X9_8 hx hb hts i_X9 hown hK hP32 hDa za_r_goOn hS32 0 rfl k_12 (OKX9_l ho_fz_p0) dX9_goOn_233 (fun H35 lo35 fs35 efs35 (hP35 : va_P (dC, dI) vwCl (zW_r_goOn p0 fs35 p0_text c_p0_text b_p0_text) H35) hS35 => ?_)))
                            have ho35 := OKX9_p8 ho_fz_p0 efs35 ⟨by omega, by omega⟩
                            clear hP32 hS32
                            refine lv_goto (tgt := 377) hx hb dX9_goOn_236 (by decide) ?_
                            exact q_vret hx hb hr hlocks hS35 dX9_goOn_377 ⟨fs35, atv, env, 3, ho35, (hf_fz_p0.st efs35 (by decide)), (q_sn efs35 (by decide) fh_fz_p0_6), (q_sn efs35 (by decide) fh_fz_p0_7), (q_sa efs35 (OKX9_l ho_fz_p0) (by decide)), (by omega), hP35, za_r_goOn⟩
                          · refine lv_if_eq (tgt := 232) hx hb dX9_goOn_225 (by decide) (fun c_36 => ?_) (fun c_36 => absurd c_36 (by decide))
                            refine lv_iconst (v := 2) hx hb dX9_goOn_232 (by decide) (qp_X9_8 hx hb hts i_X9 hown hK hP32 hDa za_r_goOn hS32 0 rfl k_12 (OKX9_l ho_fz_p0) dX9_goOn_233 (fun H37 lo37 fs37 efs37 (hP37 : va_P (dC, dI) vwCl (zW_r_goOn p0 fs37 p0_text c_p0_text b_p0_text) H37) hS37 => ?_))
                            have ho37 := OKX9_p8 ho_fz_p0 efs37 ⟨by omega, by omega⟩
                            clear hP32 hS32
                            refine lv_goto (tgt := 377) hx hb dX9_goOn_236 (by decide) ?_
                            exact q_vret hx hb hr hlocks hS37 dX9_goOn_377 ⟨fs37, atv, env, 2, ho37, (hf_fz_p0.st efs37 (by decide)), (q_sn efs37 (by decide) fh_fz_p0_6), (q_sn efs37 (by decide) fh_fz_p0_7), (q_sa efs37 (OKX9_l ho_fz_p0) (by decide)), (by omega), hP37, za_r_goOn⟩
                        · have tc_29 := q_gtN c_29
                          refine lv_iconst (v := 1) hx hb dX9_goOn_214 (by decide) (lv_goto (tgt := 233) hx hb dX9_goOn_215 (by decide) (qp_X9_8 hx hb hts i_X9 hown hK hP26 hDa za_r_goOn hS26 0 rfl k_12 (OKX9_l ho_fz_p0) dX9_goOn_233 (fun H38 lo38 fs38 efs38 (hP38 : va_P (dC, dI) vwCl (zW_r_goOn p0 fs38 p0_text c_p0_text b_p0_text) H38) hS38 => ?_)))
                          have ho38 := OKX9_p8 ho_fz_p0 efs38 ⟨by omega, by omega⟩
                          clear hP26 hS26
                          refine lv_goto (tgt := 377) hx hb dX9_goOn_236 (by decide) ?_
                          exact q_vret hx hb hr hlocks hS38 dX9_goOn_377 ⟨fs38, atv, env, 1, ho38, (hf_fz_p0.st efs38 (by decide)), (q_sn efs38 (by decide) fh_fz_p0_6), (q_sn efs38 (by decide) fh_fz_p0_7), (q_sa efs38 (OKX9_l ho_fz_p0) (by decide)), (by omega), hP38, za_r_goOn⟩
                      · have tc_27 := q_ltN c_27
                        refine lv_iload_n hx hb dX9_goOn_164 rfl (lv_at hl 0 rfl) (lv_aload_n hx hb dX9_goOn_165 rfl (lv_at hl 2 rfl) (qg_X9_6 hx hb hts i_X9 hown hK hP26 0 rfl k_1 fh_fz_p0_6 dX9_goOn_166 (lv_bipush (v := 8) hx hb dX9_goOn_169 (by decide) (lv_iadd hx hb dX9_goOn_171 (lv_topi fun v_39 ev_39 => ?_)))))
                        have tv_39 := q_add ev_39 (by omega) (by omega)
                        refine lv_icmp_ge (tgt := 199) hx hb dX9_goOn_172 (by decide) (fun c_40 => ?_) (fun c_40 => ?_)
                        · have tc_40 := q_ge c_40
                          refine lv_aload_n hx hb dX9_goOn_199 rfl (lv_at hl 2 rfl) (lv_aload_n hx hb dX9_goOn_200 rfl (lv_at hl 2 rfl) (qg_X9_7 hx hb hts i_X9 hown hK hP26 0 rfl k_0 fh_fz_p0_7 dX9_goOn_201 (lv_aload_n hx hb dX9_goOn_204 rfl (lv_at hl 2 rfl) (qg_X9_6 hx hb hts i_X9 hown hK hP26 0 rfl k_1 fh_fz_p0_6 dX9_goOn_205 (lv_isub hx hb dX9_goOn_208 (lv_topi fun v_41 ev_41 => ?_))))))
                          have tv_41 := q_sub ev_41 (by omega) (by omega)
                          refine lv_bipush (v := 8) hx hb dX9_goOn_209 (by decide) ?_
                          refine lv_icmp_le (tgt := 218) hx hb dX9_goOn_211 (by decide) (fun c_42 => ?_) (fun c_42 => ?_)
                          · have tc_42 := q_le c_42
                            refine lv_aload_n hx hb dX9_goOn_218 rfl (lv_at hl 2 rfl) ?_
                            obtain ⟨v_43, fv_43⟩ := OKX9_g10 ho_fz_p0
                            refine qg_X9_10 hx hb hts i_X9 hown hK hP26 0 rfl k_9 fv_43 dX9_goOn_219 ?_
                            refine q_cSi (As := [.long v_43]) (rest := [.ref p0]) q_w0 trivial hK hP26 hDa za_r_goOn hS26 hA [] [] (by decide +kernel) ⟨hx, hb, hml, hown, hts⟩ (r_isKept l dC dI H26.size v_43) rfl rfl (va_cwS 1 hts (p1_gS m_10 m_11 m_6 g_r_isKept gz_r_isKept) rfl rfl rfl (by decide +kernel) ⟨by decide, by decide⟩) zm_r_isKept rfl hl.1 rfl (Nat.le_of_ble_eq_true rfl) dX9_goOn_222 ⟨by decide, by decide⟩ (fun r_44 H45 lo45 hG45 hS45 => ?_)
                            obtain ⟨z_46, hQ45⟩ := hG45
                            have hP45 : va_P (dC, dI) vwCl (zW_r_goOn p0 fz_p0 p0_text c_p0_text b_p0_text) H45 := hQ45
                            clear hQ45 hP26 hS26
                            rcases z_46 with ⟨rfl, z_46⟩ | ⟨rfl, z_46⟩
                            · refine lv_if_eq (tgt := 232) hx hb dX9_goOn_225 (by decide) (fun c_47 => absurd c_47 (by decide)) (fun c_47 => ?_)
                              refine lv_iconst (v := 3) hx hb dX9_goOn_228 (by decide) (lv_goto (tgt := 233) hx hb dX9_goOn_229 (by decide) (qp_X9_8 hx hb hts i_X9 hown hK hP45 hDa za_r_goOn hS45 0 rfl k_12 (OKX9_l ho_fz_p0) dX9_goOn_233 (fun H48 lo48 fs48 efs48 (hP48 : va_P (dC, dI) vwCl (zW_r_goOn p0 fs48 p0_text c_p0_text b_p0_text) H48) hS48 => ?_)))
                              have ho48 := OKX9_p8 ho_fz_p0 efs48 ⟨by omega, by omega⟩
                              clear hP45 hS45
                              refine lv_goto (tgt := 377) hx hb dX9_goOn_236 (by decide) ?_
                              exact q_vret hx hb hr hlocks hS48 dX9_goOn_377 ⟨fs48, atv, env, 3, ho48, (hf_fz_p0.st efs48 (by decide)), (q_sn efs48 (by decide) fh_fz_p0_6), (q_sn efs48 (by decide) fh_fz_p0_7), (q_sa efs48 (OKX9_l ho_fz_p0) (by decide)), (by omega), hP48, za_r_goOn⟩
                            · refine lv_if_eq (tgt := 232) hx hb dX9_goOn_225 (by decide) (fun c_49 => ?_) (fun c_49 => absurd c_49 (by decide))
                              refine lv_iconst (v := 2) hx hb dX9_goOn_232 (by decide) (qp_X9_8 hx hb hts i_X9 hown hK hP45 hDa za_r_goOn hS45 0 rfl k_12 (OKX9_l ho_fz_p0) dX9_goOn_233 (fun H50 lo50 fs50 efs50 (hP50 : va_P (dC, dI) vwCl (zW_r_goOn p0 fs50 p0_text c_p0_text b_p0_text) H50) hS50 => ?_))
                              have ho50 := OKX9_p8 ho_fz_p0 efs50 ⟨by omega, by omega⟩
                              clear hP45 hS45
                              refine lv_goto (tgt := 377) hx hb dX9_goOn_236 (by decide) ?_
                              exact q_vret hx hb hr hlocks hS50 dX9_goOn_377 ⟨fs50, atv, env, 2, ho50, (hf_fz_p0.st efs50 (by decide)), (q_sn efs50 (by decide) fh_fz_p0_6), (q_sn efs50 (by decide) fh_fz_p0_7), (q_sa efs50 (OKX9_l ho_fz_p0) (by decide)), (by omega), hP50, za_r_goOn⟩
                          · have tc_42 := q_gtN c_42
                            refine lv_iconst (v := 1) hx hb dX9_goOn_214 (by decide) (lv_goto (tgt := 233) hx hb dX9_goOn_215 (by decide) (qp_X9_8 hx hb hts i_X9 hown hK hP26 hDa za_r_goOn hS26 0 rfl k_12 (OKX9_l ho_fz_p0) dX9_goOn_233 (fun H51 lo51 fs51 efs51 (hP51 : va_P (dC, dI) vwCl (zW_r_goOn p0 fs51 p0_text c_p0_text b_p0_text) H51) hS51 => ?_)))
                            have ho51 := OKX9_p8 ho_fz_p0 efs51 ⟨by omega, by omega⟩
                            clear hP26 hS26
                            refine lv_goto (tgt := 377) hx hb dX9_goOn_236 (by decide) ?_
                            exact q_vret hx hb hr hlocks hS51 dX9_goOn_377 ⟨fs51, atv, env, 1, ho51, (hf_fz_p0.st efs51 (by decide)), (q_sn efs51 (by decide) fh_fz_p0_6), (q_sn efs51 (by decide) fh_fz_p0_7), (q_sa efs51 (OKX9_l ho_fz_p0) (by decide)), (by omega), hP51, za_r_goOn⟩
                        · have tc_40 := q_ltN c_40
                          refine lv_aload_n hx hb dX9_goOn_175 rfl (lv_at hl 2 rfl) (lv_aload_n hx hb dX9_goOn_176 rfl (lv_at hl 2 rfl) ?_)
                          obtain ⟨v_52, fv_52⟩ := OKX9_g10 ho_fz_p0
                          refine qg_X9_10 hx hb hts i_X9 hown hK hP26 0 rfl k_9 fv_52 dX9_goOn_177 (lv_bipush (v := 8) hx hb dX9_goOn_180 (by decide) (lv_lshl hx hb dX9_goOn_182 rfl (lv_topl fun w_53 ew_53 => lv_aload_n hx hb dX9_goOn_183 rfl (lv_at hl 2 rfl) (lv_iload_n hx hb dX9_goOn_184 rfl (lv_at hl 0 rfl) ?_))))
                          refine q_cVi (As := [.int kk]) (rest := [.long w_53, .ref p0]) q_w0 trivial hK hP26 hDa za_r_goOn hS26 hA [0, 1] [0] (by decide +kernel) ⟨hx, hb, hml, hown, hts⟩ (r_sign l dC dI H26.size p0 fz_p0 p0_text c_p0_text b_p0_text kk siz ho_fz_p0 fr_fz_p0_1 fh_fz_p0_3 ((by omega))) rfl rfl (cwV 1 hts (p1_gV m_3 m_4 m_5 m_6 g_r_sign gz_r_sign) rfl rfl rfl (by decide +kernel) ⟨by decide, by decide⟩) (va_recv hK hP26 (ci := 8) (q0 := 0) rfl rfl) zm_r_sign rfl hl.1 rfl (Nat.le_of_ble_eq_true rfl) dX9_goOn_185 ⟨by decide, by decide⟩ (fun r_54 H55 lo55 hG55 hS55 => ?_)
                          obtain ⟨z_56, hQ55⟩ := hG55
                          have hP55 : va_P (dC, dI) vwCl (zW_r_goOn p0 fz_p0 p0_text c_p0_text b_p0_text) H55 := hQ55
                          clear hQ55 hP26 hS26
                          refine lv_i2l hx hb dX9_goOn_188 rfl (lv_topl fun w_57 ew_57 => lv_lor hx hb dX9_goOn_189 (lv_topl fun w_58 ew_58 => qp_X9_10 hx hb hts i_X9 hown hK hP55 hDa za_r_goOn hS55 0 rfl k_9 (OKX9_l ho_fz_p0) dX9_goOn_190 (fun H59 lo59 fs59 efs59 (hP59 : va_P (dC, dI) vwCl (zW_r_goOn p0 fs59 p0_text c_p0_text b_p0_text) H59) hS59 => ?_)))
                          have ho59 := OKX9_p10 ho_fz_p0 efs59
                          clear hP55 hS55
                          obtain ⟨v_60, ev_60⟩ : ∃ y : Int32, y = kk + 1 := ⟨_, rfl⟩
                          have tv_60 := q_add ev_60 (by omega) (by omega)
                          refine lv_iinc (v := v_60) (lv' := [(2, .int v_60), (1, .int r_4), (0, .ref p0)]) hx hb dX9_goOn_193 hl (k := 0) rfl (by rw [ev_60]; rfl) (by decide) rfl (fun ls hl => ?_)
                          refine lv_goto (tgt := 156) hx hb dX9_goOn_196 (by decide) ?_
                          exact ih156 (fu156 - 1) (by omega) v_60 fs59 _ _ _ (by omega) (by omega) ho59 (hf_fz_p0.st efs59 (by decide)) (q_sn efs59 (by decide) fr_fz_p0_1) (q_sn efs59 (by decide) fh_fz_p0_3) (q_sn efs59 (by decide) fh_fz_p0_6) (q_sn efs59 (by decide) fh_fz_p0_7) hP59 hS59 (lv_sub hl [0, 1, 2] rfl)
                  exact key156 1601 atv fs25 _ _ _ (by omega) (by omega) ho25 (hf_fz_p0.st efs25 (by decide)) (q_sn efs25 (by decide) fr_fz_p0_1) (q_sn efs25 (by decide) fh_fz_p0_3) (q_sn efs25 (by decide) fh_fz_p0_6) (q_sn efs25 (by decide) fv_fz_p0_7) hP25 hS25 (lv_sub hl [0, 1, 2] rfl)
            exact key119 1601 fs8 v_7 _ _ _ (by omega) ho8 (hf_fz_p0.st efs8 (by decide)) (q_sn efs8 (by decide) fr_fz_p0_1) (q_sn efs8 (by decide) fh_fz_p0_3) (q_sn efs8 (by decide) fv_fz_p0_6) (q_sa efs8 (OKX9_l ho_fz_p0) (by decide)) (by omega) (by omega) hP11 hS11 (lv_sub hl [0, 1] rfl)
          · refine lv_if_eq (tgt := 239) hx hb dX9_goOn_116 (by decide) (fun c_61 => ?_) (fun c_61 => absurd c_61 (by decide))
            refine lv_iload_n hx hb dX9_goOn_239 rfl (lv_at hl 0 rfl) ?_
            refine q_cSi (As := [.int r_4]) (rest := []) q_w0 trivial hK hP11 hDa za_r_goOn hS11 hA [] [] (by decide +kernel) ⟨hx, hb, hml, hown, hts⟩ (r_isDigit l dC dI H11.size r_4) rfl rfl (va_cwS 1 hts (p1_gS m_13 m_14 m_6 g_r_isDigit gz_r_isDigit) rfl rfl rfl (by decide +kernel) ⟨by decide, by decide⟩) zm_r_isDigit rfl hl.1 rfl (Nat.le_of_ble_eq_true rfl) dX9_goOn_240 ⟨by decide, by decide⟩ (fun r_62 H63 lo63 hG63 hS63 => ?_)
            obtain ⟨z_64, hQ63⟩ := hG63
            have hP63 : va_P (dC, dI) vwCl (zW_r_goOn p0 fs8 p0_text c_p0_text b_p0_text) H63 := hQ63
            clear hQ63 hP11 hS11
            rcases z_64 with ⟨rfl, z_64⟩ | ⟨rfl, z_64⟩
            · refine lv_if_eq (tgt := 361) hx hb dX9_goOn_243 (by decide) (fun c_65 => absurd c_65 (by decide)) (fun c_65 => ?_)
              refine lv_aload_n hx hb dX9_goOn_246 rfl (lv_at hl 1 rfl) (lv_iconst (v := 0) hx hb dX9_goOn_247 (by decide) (qp_X9_9 hx hb hts i_X9 hown hK hP63 hDa za_r_goOn hS63 0 rfl k_15 (OKX9_l ho8) dX9_goOn_248 (fun H66 lo66 fs66 efs66 (hP66 : va_P (dC, dI) vwCl (zW_r_goOn p0 fs66 p0_text c_p0_text b_p0_text) H66) hS66 => ?_)))
              have ho66 := OKX9_p9 ho8 efs66
              clear hP63 hS63
              refine lv_aload_n hx hb dX9_goOn_251 rfl (lv_at hl 1 rfl) (lv_aload_n hx hb dX9_goOn_252 rfl (lv_at hl 1 rfl) (qg_X9_6 hx hb hts i_X9 hown hK hP66 0 rfl k_1 (q_sn efs66 (by decide) (q_sn efs8 (by decide) fv_fz_p0_6)) dX9_goOn_253 (qp_X9_7 hx hb hts i_X9 hown hK hP66 hDa za_r_goOn hS66 0 rfl k_0 (OKX9_l ho66) dX9_goOn_256 (fun H67 lo67 fs67 efs67 (hP67 : va_P (dC, dI) vwCl (zW_r_goOn p0 fs67 p0_text c_p0_text b_p0_text) H67) hS67 => ?_))))
              have ho67 := OKX9_p7 ho66 efs67 ⟨by omega, by omega⟩
              clear hP66 hS66
              have key259 : ∀ (fu259 : Nat) (fz_p0 : List Value) (env : Int32) (H : Heap) (locs : List Loc) (ls : Array Slot) (hfu259 : 1601 - env.toInt ≤ (fu259 : Int)) (ho_fz_p0 : OKX9 fz_p0) (hf_fz_p0 : q_fr [6, 7, 8, 9, 10] f_p0 fz_p0) (fr_fz_p0_1 : q_rf fz_p0 1 p0_text) (fh_fz_p0_3 : q_if fz_p0 3 siz) (fh_fz_p0_6 : q_if fz_p0 6 atv) (fv_fz_p0_7 : q_if fz_p0 7 env) (tenv : (0) ≤ env.toInt ∧ env.toInt ≤ 1601) (hq259_0 : atv.toInt ≤ env.toInt ∧ env.toInt ≤ siz.toInt), va_P (dC, dI) vwCl (zW_r_goOn p0 fz_p0 p0_text c_p0_text b_p0_text) H → va_S A s.heap H locs → lv_has ls 3 [(1, .int r_4), (0, .ref p0)] → W p l e (headSpec zw_r_goOn { frames := 1, cells := 0, slots := 0, locals := 22 }).room s m ([.ref p0] : List Value).toArray below meth c H locs 0 0 (MQ below (q_Qv (dC, dI) (zG_r_goOn p0 f_p0 p0_text c_p0_text b_p0_text en siz) (zA_r_goOn p0 p0_text) A) ([.ref p0] : List Value).toArray s 0 0 A) (F0 m 259 ls []) := by
                intro fu259
                induction fu259 using Nat.strongRecOn with
                | ind fu259 ih259 =>
                  intro fz_p0 env H68 lo68 ls hfu259 ho_fz_p0 hf_fz_p0 fr_fz_p0_1 fh_fz_p0_3 fh_fz_p0_6 fv_fz_p0_7 tenv hq259_0 hP68 hS68 hl
                  refine lv_aload_n hx hb dX9_goOn_259 rfl (lv_at hl 1 rfl) (lv_aload_n hx hb dX9_goOn_260 rfl (lv_at hl 1 rfl) (qg_X9_7 hx hb hts i_X9 hown hK hP68 0 rfl k_0 fv_fz_p0_7 dX9_goOn_261 ?_))
                  refine q_cVi (As := [.int env]) (rest := []) q_w0 trivial hK hP68 hDa za_r_goOn hS68 hA [0, 1] [0] (by decide +kernel) ⟨hx, hb, hml, hown, hts⟩ (r_sign l dC dI H68.size p0 fz_p0 p0_text c_p0_text b_p0_text env siz ho_fz_p0 fr_fz_p0_1 fh_fz_p0_3 ((by omega))) rfl rfl (cwV 1 hts (p1_gV m_3 m_4 m_5 m_6 g_r_sign gz_r_sign) rfl rfl rfl (by decide +kernel) ⟨by decide, by decide⟩) (va_recv hK hP68 (ci := 8) (q0 := 0) rfl rfl) zm_r_sign rfl hl.1 rfl (Nat.le_of_ble_eq_true rfl) dX9_goOn_264 ⟨by decide, by decide⟩ (fun r_69 H70 lo70 hG70 hS70 => ?_)
                  obtain ⟨z_71, hQ70⟩ := hG70
                  have hP70 : va_P (dC, dI) vwCl (zW_r_goOn p0 fz_p0 p0_text c_p0_text b_p0_text) H70 := hQ70
                  clear hQ70 hP68 hS68
                  refine q_cSi (As := [.int r_69]) (rest := []) q_w0 trivial hK hP70 hDa za_r_goOn hS70 hA [] [] (by decide +kernel) ⟨hx, hb, hml, hown, hts⟩ (r_isDigit l dC dI H70.size r_69) rfl rfl (va_cwS 1 hts (p1_gS m_13 m_14 m_6 g_r_isDigit gz_r_isDigit) rfl rfl rfl (by decide +kernel) ⟨by decide, by decide⟩) zm_r_isDigit rfl hl.1 rfl (Nat.le_of_ble_eq_true rfl) dX9_goOn_267 ⟨by decide, by decide⟩ (fun r_72 H73 lo73 hG73 hS73 => ?_)
                  obtain ⟨z_74, hQ73⟩ := hG73
                  have hP73 : va_P (dC, dI) vwCl (zW_r_goOn p0 fz_p0 p0_text c_p0_text b_p0_text) H73 := hQ73
                  clear hQ73 hP70 hS70
                  rcases z_74 with ⟨rfl, z_74⟩ | ⟨rfl, z_74⟩
                  · refine lv_if_eq (tgt := 322) hx hb dX9_goOn_270 (by decide) (fun c_75 => absurd c_75 (by decide)) (fun c_75 => ?_)
                    refine lv_aload_n hx hb dX9_goOn_273 rfl (lv_at hl 1 rfl) (qg_X9_7 hx hb hts i_X9 hown hK hP73 0 rfl k_0 fv_fz_p0_7 dX9_goOn_274 (lv_aload_n hx hb dX9_goOn_277 rfl (lv_at hl 1 rfl) (qg_X9_6 hx hb hts i_X9 hown hK hP73 0 rfl k_1 fh_fz_p0_6 dX9_goOn_278 (lv_isub hx hb dX9_goOn_281 (lv_topi fun v_76 ev_76 => ?_)))))
                    have tv_76 := q_sub ev_76 (by omega) (by omega)
                    refine lv_iconst (v := 4) hx hb dX9_goOn_282 (by decide) ?_
                    refine lv_icmp_ge (tgt := 309) hx hb dX9_goOn_283 (by decide) (fun c_77 => ?_) (fun c_77 => ?_)
                    · have tc_77 := q_ge c_77
                      refine lv_aload_n hx hb dX9_goOn_309 rfl (lv_at hl 1 rfl) (lv_dup hx hb dX9_goOn_310 rfl (qg_X9_7 hx hb hts i_X9 hown hK hP73 0 rfl k_0 fv_fz_p0_7 dX9_goOn_311 (lv_iconst (v := 1) hx hb dX9_goOn_314 (by decide) (lv_iadd hx hb dX9_goOn_315 (lv_topi fun v_78 ev_78 => ?_)))))
                      have tv_78 := q_add ev_78 (by omega) (by omega)
                      refine qp_X9_7 hx hb hts i_X9 hown hK hP73 hDa za_r_goOn hS73 0 rfl k_0 (OKX9_l ho_fz_p0) dX9_goOn_316 (fun H79 lo79 fs79 efs79 (hP79 : va_P (dC, dI) vwCl (zW_r_goOn p0 fs79 p0_text c_p0_text b_p0_text) H79) hS79 => ?_)
                      have ho79 := OKX9_p7 ho_fz_p0 efs79 ⟨by omega, by omega⟩
                      clear hP73 hS73
                      refine lv_goto (tgt := 259) hx hb dX9_goOn_319 (by decide) ?_
                      exact ih259 (fu259 - 1) (by omega) fs79 v_78 _ _ _ (by omega) ho79 (hf_fz_p0.st efs79 (by decide)) (q_sn efs79 (by decide) fr_fz_p0_1) (q_sn efs79 (by decide) fh_fz_p0_3) (q_sn efs79 (by decide) fh_fz_p0_6) (q_sa efs79 (OKX9_l ho_fz_p0) (by decide)) (by omega) (by omega) hP79 hS79 (lv_sub hl [0, 1] rfl)
                    · have tc_77 := q_ltN c_77
                      refine lv_aload_n hx hb dX9_goOn_286 rfl (lv_at hl 1 rfl) (lv_bipush (v := 10) hx hb dX9_goOn_287 (by decide) (lv_aload_n hx hb dX9_goOn_289 rfl (lv_at hl 1 rfl) ?_))
                      obtain ⟨v_80, fv_80⟩ := OKX9_g9 ho_fz_p0
                      refine qg_X9_9 hx hb hts i_X9 hown hK hP73 0 rfl k_15 fv_80 dX9_goOn_290 (lv_imul hx hb dX9_goOn_293 (lv_topi fun v_81 ev_81 => lv_aload_n hx hb dX9_goOn_294 rfl (lv_at hl 1 rfl) (lv_aload_n hx hb dX9_goOn_295 rfl (lv_at hl 1 rfl) (qg_X9_7 hx hb hts i_X9 hown hK hP73 0 rfl k_0 fv_fz_p0_7 dX9_goOn_296 ?_))))
                      refine q_cVi (As := [.int env]) (rest := [.int v_81, .ref p0]) q_w0 trivial hK hP73 hDa za_r_goOn hS73 hA [0, 1] [0] (by decide +kernel) ⟨hx, hb, hml, hown, hts⟩ (r_sign l dC dI H73.size p0 fz_p0 p0_text c_p0_text b_p0_text env siz ho_fz_p0 fr_fz_p0_1 fh_fz_p0_3 ((by omega))) rfl rfl (cwV 1 hts (p1_gV m_3 m_4 m_5 m_6 g_r_sign gz_r_sign) rfl rfl rfl (by decide +kernel) ⟨by decide, by decide⟩) (va_recv hK hP73 (ci := 8) (q0 := 0) rfl rfl) zm_r_sign rfl hl.1 rfl (Nat.le_of_ble_eq_true rfl) dX9_goOn_299 ⟨by decide, by decide⟩ (fun r_82 H83 lo83 hG83 hS83 => ?_)
                      obtain ⟨z_84, hQ83⟩ := hG83
                      have hP83 : va_P (dC, dI) vwCl (zW_r_goOn p0 fz_p0 p0_text c_p0_text b_p0_text) H83 := hQ83
                      clear hQ83 hP73 hS73
                      refine lv_iadd hx hb dX9_goOn_302 (lv_topi fun v_85 ev_85 => lv_bipush (v := 48) hx hb dX9_goOn_303 (by decide) (lv_isub hx hb dX9_goOn_305 (lv_topi fun v_86 ev_86 => qp_X9_9 hx hb hts i_X9 hown hK hP83 hDa za_r_goOn hS83 0 rfl k_15 (OKX9_l ho_fz_p0) dX9_goOn_306 (fun H87 lo87 fs87 efs87 (hP87 : va_P (dC, dI) vwCl (zW_r_goOn p0 fs87 p0_text c_p0_text b_p0_text) H87) hS87 => ?_))))
                      have ho87 := OKX9_p9 ho_fz_p0 efs87
                      clear hP83 hS83
                      refine lv_aload_n hx hb dX9_goOn_309 rfl (lv_at hl 1 rfl) (lv_dup hx hb dX9_goOn_310 rfl (qg_X9_7 hx hb hts i_X9 hown hK hP87 0 rfl k_0 (q_sn efs87 (by decide) fv_fz_p0_7) dX9_goOn_311 (lv_iconst (v := 1) hx hb dX9_goOn_314 (by decide) (lv_iadd hx hb dX9_goOn_315 (lv_topi fun v_88 ev_88 => ?_)))))
                      have tv_88 := q_add ev_88 (by omega) (by omega)
                      refine qp_X9_7 hx hb hts i_X9 hown hK hP87 hDa za_r_goOn hS87 0 rfl k_0 (OKX9_l ho87) dX9_goOn_316 (fun H89 lo89 fs89 efs89 (hP89 : va_P (dC, dI) vwCl (zW_r_goOn p0 fs89 p0_text c_p0_text b_p0_text) H89) hS89 => ?_)
                      have ho89 := OKX9_p7 ho87 efs89 ⟨by omega, by omega⟩
                      clear hP87 hS87
                      refine lv_goto (tgt := 259) hx hb dX9_goOn_319 (by decide) ?_
                      exact ih259 (fu259 - 1) (by omega) fs89 v_88 _ _ _ (by omega) ho89 ((hf_fz_p0.st efs87 (by decide)).st efs89 (by decide)) (q_sn efs89 (by decide) (q_sn efs87 (by decide) fr_fz_p0_1)) (q_sn efs89 (by decide) (q_sn efs87 (by decide) fh_fz_p0_3)) (q_sn efs89 (by decide) (q_sn efs87 (by decide) fh_fz_p0_6)) (q_sa efs89 (OKX9_l ho87) (by decide)) (by omega) (by omega) hP89 hS89 (lv_sub hl [0, 1] rfl)
                  · refine lv_if_eq (tgt := 322) hx hb dX9_goOn_270 (by decide) (fun c_90 => ?_) (fun c_90 => absurd c_90 (by decide))
                    refine lv_aload_n hx hb dX9_goOn_322 rfl (lv_at hl 1 rfl) (lv_aload_n hx hb dX9_goOn_323 rfl (lv_at hl 1 rfl) (qg_X9_7 hx hb hts i_X9 hown hK hP73 0 rfl k_0 fv_fz_p0_7 dX9_goOn_324 (lv_aload_n hx hb dX9_goOn_327 rfl (lv_at hl 1 rfl) (qg_X9_6 hx hb hts i_X9 hown hK hP73 0 rfl k_1 fh_fz_p0_6 dX9_goOn_328 (lv_isub hx hb dX9_goOn_331 (lv_topi fun v_91 ev_91 => ?_))))))
                    have tv_91 := q_sub ev_91 (by omega) (by omega)
                    refine lv_iconst (v := 4) hx hb dX9_goOn_332 (by decide) ?_
                    refine lv_icmp_gt (tgt := 350) hx hb dX9_goOn_333 (by decide) (fun c_92 => ?_) (fun c_92 => ?_)
                    · have tc_92 := q_gt c_92
                      refine lv_iconst (v := 1) hx hb dX9_goOn_350 (by decide) (lv_goto (tgt := 355) hx hb dX9_goOn_351 (by decide) (qp_X9_8 hx hb hts i_X9 hown hK hP73 hDa za_r_goOn hS73 0 rfl k_12 (OKX9_l ho_fz_p0) dX9_goOn_355 (fun H93 lo93 fs93 efs93 (hP93 : va_P (dC, dI) vwCl (zW_r_goOn p0 fs93 p0_text c_p0_text b_p0_text) H93) hS93 => ?_)))
                      have ho93 := OKX9_p8 ho_fz_p0 efs93 ⟨by omega, by omega⟩
                      clear hP73 hS73
                      refine lv_goto (tgt := 377) hx hb dX9_goOn_358 (by decide) ?_
                      exact q_vret hx hb hr hlocks hS93 dX9_goOn_377 ⟨fs93, atv, env, 1, ho93, (hf_fz_p0.st efs93 (by decide)), (q_sn efs93 (by decide) fh_fz_p0_6), (q_sn efs93 (by decide) fv_fz_p0_7), (q_sa efs93 (OKX9_l ho_fz_p0) (by decide)), (by omega), hP93, za_r_goOn⟩
                    · have tc_92 := q_leN c_92
                      refine lv_aload_n hx hb dX9_goOn_336 rfl (lv_at hl 1 rfl) (lv_aload_n hx hb dX9_goOn_337 rfl (lv_at hl 1 rfl) (qg_X9_7 hx hb hts i_X9 hown hK hP73 0 rfl k_0 fv_fz_p0_7 dX9_goOn_338 ?_))
                      refine q_cVi (As := [.int env]) (rest := [.ref p0]) q_w0 trivial hK hP73 hDa za_r_goOn hS73 hA [0, 1] [0] (by decide +kernel) ⟨hx, hb, hml, hown, hts⟩ (r_sign l dC dI H73.size p0 fz_p0 p0_text c_p0_text b_p0_text env siz ho_fz_p0 fr_fz_p0_1 fh_fz_p0_3 ((by omega))) rfl rfl (cwV 1 hts (p1_gV m_3 m_4 m_5 m_6 g_r_sign gz_r_sign) rfl rfl rfl (by decide +kernel) ⟨by decide, by decide⟩) (va_recv hK hP73 (ci := 8) (q0 := 0) rfl rfl) zm_r_sign rfl hl.1 rfl (Nat.le_of_ble_eq_true rfl) dX9_goOn_341 ⟨by decide, by decide⟩ (fun r_94 H95 lo95 hG95 hS95 => ?_)
                      obtain ⟨z_96, hQ95⟩ := hG95
                      have hP95 : va_P (dC, dI) vwCl (zW_r_goOn p0 fz_p0 p0_text c_p0_text b_p0_text) H95 := hQ95
                      clear hQ95 hP73 hS73
                      refine q_cSi (As := [.int r_94]) (rest := [.ref p0]) q_w0 trivial hK hP95 hDa za_r_goOn hS95 hA [] [] (by decide +kernel) ⟨hx, hb, hml, hown, hts⟩ (r_isLetter l dC dI H95.size r_94) rfl rfl (va_cwS 1 hts (p1_gS m_7 m_8 m_6 g_r_isLetter gz_r_isLetter) rfl rfl rfl (by decide +kernel) ⟨by decide, by decide⟩) zm_r_isLetter rfl hl.1 rfl (Nat.le_of_ble_eq_true rfl) dX9_goOn_344 ⟨by decide, by decide⟩ (fun r_97 H98 lo98 hG98 hS98 => ?_)
                      obtain ⟨z_99, hQ98⟩ := hG98
                      have hP98 : va_P (dC, dI) vwCl (zW_r_goOn p0 fz_p0 p0_text c_p0_text b_p0_text) H98 := hQ98
                      clear hQ98 hP95 hS95
                      rcases z_99 with ⟨rfl, z_99⟩ | ⟨rfl, z_99⟩
                      · refine lv_if_eq (tgt := 354) hx hb dX9_goOn_347 (by decide) (fun c_100 => absurd c_100 (by decide)) (fun c_100 => ?_)
                        refine lv_iconst (v := 1) hx hb dX9_goOn_350 (by decide) (lv_goto (tgt := 355) hx hb dX9_goOn_351 (by decide) (qp_X9_8 hx hb hts i_X9 hown hK hP98 hDa za_r_goOn hS98 0 rfl k_12 (OKX9_l ho_fz_p0) dX9_goOn_355 (fun H101 lo101 fs101 efs101 (hP101 : va_P (dC, dI) vwCl (zW_r_goOn p0 fs101 p0_text c_p0_text b_p0_text) H101) hS101 => ?_)))
                        have ho101 := OKX9_p8 ho_fz_p0 efs101 ⟨by omega, by omega⟩
                        clear hP98 hS98
                        refine lv_goto (tgt := 377) hx hb dX9_goOn_358 (by decide) ?_
                        exact q_vret hx hb hr hlocks hS101 dX9_goOn_377 ⟨fs101, atv, env, 1, ho101, (hf_fz_p0.st efs101 (by decide)), (q_sn efs101 (by decide) fh_fz_p0_6), (q_sn efs101 (by decide) fv_fz_p0_7), (q_sa efs101 (OKX9_l ho_fz_p0) (by decide)), (by omega), hP101, za_r_goOn⟩
                      · refine lv_if_eq (tgt := 354) hx hb dX9_goOn_347 (by decide) (fun c_102 => ?_) (fun c_102 => absurd c_102 (by decide))
                        refine lv_iconst (v := 4) hx hb dX9_goOn_354 (by decide) (qp_X9_8 hx hb hts i_X9 hown hK hP98 hDa za_r_goOn hS98 0 rfl k_12 (OKX9_l ho_fz_p0) dX9_goOn_355 (fun H103 lo103 fs103 efs103 (hP103 : va_P (dC, dI) vwCl (zW_r_goOn p0 fs103 p0_text c_p0_text b_p0_text) H103) hS103 => ?_))
                        have ho103 := OKX9_p8 ho_fz_p0 efs103 ⟨by omega, by omega⟩
                        clear hP98 hS98
                        refine lv_goto (tgt := 377) hx hb dX9_goOn_358 (by decide) ?_
                        exact q_vret hx hb hr hlocks hS103 dX9_goOn_377 ⟨fs103, atv, env, 4, ho103, (hf_fz_p0.st efs103 (by decide)), (q_sn efs103 (by decide) fh_fz_p0_6), (q_sn efs103 (by decide) fv_fz_p0_7), (q_sa efs103 (OKX9_l ho_fz_p0) (by decide)), (by omega), hP103, za_r_goOn⟩
              exact key259 1601 fs67 atv _ _ _ (by omega) ho67 (((hf_fz_p0.st efs8 (by decide)).st efs66 (by decide)).st efs67 (by decide)) (q_sn efs67 (by decide) (q_sn efs66 (by decide) (q_sn efs8 (by decide) fr_fz_p0_1))) (q_sn efs67 (by decide) (q_sn efs66 (by decide) (q_sn efs8 (by decide) fh_fz_p0_3))) (q_sn efs67 (by decide) (q_sn efs66 (by decide) (q_sn efs8 (by decide) fv_fz_p0_6))) (q_sa efs67 (OKX9_l ho66) (by decide)) (by omega) (by omega) hP67 hS67 (lv_sub hl [0, 1] rfl)
            · refine lv_if_eq (tgt := 361) hx hb dX9_goOn_243 (by decide) (fun c_104 => ?_) (fun c_104 => absurd c_104 (by decide))
              refine lv_aload_n hx hb dX9_goOn_361 rfl (lv_at hl 1 rfl) (lv_iload_n hx hb dX9_goOn_362 rfl (lv_at hl 0 rfl) ?_)
              refine q_cSi (As := [.int r_4]) (rest := [.ref p0]) q_w0 trivial hK hP63 hDa za_r_goOn hS63 hA [] [] (by decide +kernel) ⟨hx, hb, hml, hown, hts⟩ (r_isSign l dC dI H63.size r_4) rfl rfl (va_cwS 1 hts (p1_gS m_16 m_17 m_6 g_r_isSign gz_r_isSign) rfl rfl rfl (by decide +kernel) ⟨by decide, by decide⟩) zm_r_isSign rfl hl.1 rfl (Nat.le_of_ble_eq_true rfl) dX9_goOn_363 ⟨by decide, by decide⟩ (fun r_105 H106 lo106 hG106 hS106 => ?_)
              obtain ⟨z_107, hQ106⟩ := hG106
              have hP106 : va_P (dC, dI) vwCl (zW_r_goOn p0 fs8 p0_text c_p0_text b_p0_text) H106 := hQ106
              clear hQ106 hP63 hS63
              rcases z_107 with ⟨rfl, z_107⟩ | ⟨rfl, z_107⟩
              · refine lv_if_eq (tgt := 373) hx hb dX9_goOn_366 (by decide) (fun c_108 => absurd c_108 (by decide)) (fun c_108 => ?_)
                refine lv_iconst (v := 5) hx hb dX9_goOn_369 (by decide) (lv_goto (tgt := 374) hx hb dX9_goOn_370 (by decide) (qp_X9_8 hx hb hts i_X9 hown hK hP106 hDa za_r_goOn hS106 0 rfl k_12 (OKX9_l ho8) dX9_goOn_374 (fun H109 lo109 fs109 efs109 (hP109 : va_P (dC, dI) vwCl (zW_r_goOn p0 fs109 p0_text c_p0_text b_p0_text) H109) hS109 => ?_)))
                have ho109 := OKX9_p8 ho8 efs109 ⟨by omega, by omega⟩
                clear hP106 hS106
                exact q_vret hx hb hr hlocks hS109 dX9_goOn_377 ⟨fs109, atv, v_7, 5, ho109, ((hf_fz_p0.st efs8 (by decide)).st efs109 (by decide)), (q_sn efs109 (by decide) (q_sn efs8 (by decide) fv_fz_p0_6)), (q_sn efs109 (by decide) (q_sa efs8 (OKX9_l ho_fz_p0) (by decide))), (q_sa efs109 (OKX9_l ho8) (by decide)), (by omega), hP109, za_r_goOn⟩
              · refine lv_if_eq (tgt := 373) hx hb dX9_goOn_366 (by decide) (fun c_110 => ?_) (fun c_110 => absurd c_110 (by decide))
                refine lv_iconst (v := 1) hx hb dX9_goOn_373 (by decide) (qp_X9_8 hx hb hts i_X9 hown hK hP106 hDa za_r_goOn hS106 0 rfl k_12 (OKX9_l ho8) dX9_goOn_374 (fun H111 lo111 fs111 efs111 (hP111 : va_P (dC, dI) vwCl (zW_r_goOn p0 fs111 p0_text c_p0_text b_p0_text) H111) hS111 => ?_))
                have ho111 := OKX9_p8 ho8 efs111 ⟨by omega, by omega⟩
                clear hP106 hS106
                exact q_vret hx hb hr hlocks hS111 dX9_goOn_377 ⟨fs111, atv, v_7, 1, ho111, ((hf_fz_p0.st efs8 (by decide)).st efs111 (by decide)), (q_sn efs111 (by decide) (q_sn efs8 (by decide) fv_fz_p0_6)), (q_sn efs111 (by decide) (q_sa efs8 (OKX9_l ho_fz_p0) (by decide))), (q_sa efs111 (OKX9_l ho8) (by decide)), (by omega), hP111, za_r_goOn⟩
        · have tc_9 := q_geN c_9
          refine lv_aload_n hx hb dX9_goOn_88 rfl (lv_at hl 1 rfl) (lv_iconst (v := 0) hx hb dX9_goOn_89 (by decide) (qp_X9_8 hx hb hts i_X9 hown hK hP8 hDa za_r_goOn hS8 0 rfl k_12 (OKX9_l ho8) dX9_goOn_90 (fun H112 lo112 fs112 efs112 (hP112 : va_P (dC, dI) vwCl (zW_r_goOn p0 fs112 p0_text c_p0_text b_p0_text) H112) hS112 => ?_)))
          have ho112 := OKX9_p8 ho8 efs112 ⟨by omega, by omega⟩
          clear hP8 hS8
          refine lv_aload_n hx hb dX9_goOn_93 rfl (lv_at hl 1 rfl) (lv_aload_n hx hb dX9_goOn_94 rfl (lv_at hl 1 rfl) (qg_X9_3 hx hb hts i_X9 hown hK hP112 0 rfl k_2 (q_sn efs112 (by decide) (q_sn efs8 (by decide) fh_fz_p0_3)) dX9_goOn_95 (qp_X9_6 hx hb hts i_X9 hown hK hP112 hDa za_r_goOn hS112 0 rfl k_1 (OKX9_l ho112) dX9_goOn_98 (fun H113 lo113 fs113 efs113 (hP113 : va_P (dC, dI) vwCl (zW_r_goOn p0 fs113 p0_text c_p0_text b_p0_text) H113) hS113 => ?_))))
          have ho113 := OKX9_p6 ho112 efs113 ⟨by omega, by omega⟩
          clear hP112 hS112
          refine lv_aload_n hx hb dX9_goOn_101 rfl (lv_at hl 1 rfl) (lv_aload_n hx hb dX9_goOn_102 rfl (lv_at hl 1 rfl) (qg_X9_3 hx hb hts i_X9 hown hK hP113 0 rfl k_2 (q_sn efs113 (by decide) (q_sn efs112 (by decide) (q_sn efs8 (by decide) fh_fz_p0_3))) dX9_goOn_103 (qp_X9_7 hx hb hts i_X9 hown hK hP113 hDa za_r_goOn hS113 0 rfl k_0 (OKX9_l ho113) dX9_goOn_106 (fun H114 lo114 fs114 efs114 (hP114 : va_P (dC, dI) vwCl (zW_r_goOn p0 fs114 p0_text c_p0_text b_p0_text) H114) hS114 => ?_))))
          have ho114 := OKX9_p7 ho113 efs114 ⟨by omega, by omega⟩
          clear hP113 hS113
          refine lv_goto (tgt := 377) hx hb dX9_goOn_109 (by decide) ?_
          exact q_vret hx hb hr hlocks hS114 dX9_goOn_377 ⟨fs114, siz, siz, 0, ho114, ((((hf_fz_p0.st efs8 (by decide)).st efs112 (by decide)).st efs113 (by decide)).st efs114 (by decide)), (q_sn efs114 (by decide) (q_sa efs113 (OKX9_l ho112) (by decide))), (q_sa efs114 (OKX9_l ho113) (by decide)), (q_sn efs114 (by decide) (q_sn efs113 (by decide) (q_sa efs112 (OKX9_l ho8) (by decide)))), (by omega), hP114, za_r_goOn⟩
      · have tc_3 := q_ltN c_3
        refine lv_aload_n hx hb dX9_goOn_19 rfl (lv_at hl 0 rfl) (lv_aload_n hx hb dX9_goOn_20 rfl (lv_at hl 0 rfl) (qg_X9_6 hx hb hts i_X9 hown hK hP2 0 rfl k_1 fv_fz_p0_6 dX9_goOn_21 ?_))
        refine q_cVi (As := [.int atv]) (rest := []) q_w0 trivial hK hP2 hDa za_r_goOn hS2 hA [0, 1] [0] (by decide +kernel) ⟨hx, hb, hml, hown, hts⟩ (r_sign l dC dI H2.size p0 fz_p0 p0_text c_p0_text b_p0_text atv siz ho_fz_p0 fr_fz_p0_1 fh_fz_p0_3 ((by omega))) rfl rfl (cwV 1 hts (p1_gV m_3 m_4 m_5 m_6 g_r_sign gz_r_sign) rfl rfl rfl (by decide +kernel) ⟨by decide, by decide⟩) (va_recv hK hP2 (ci := 8) (q0 := 0) rfl rfl) zm_r_sign rfl hl.1 rfl (Nat.le_of_ble_eq_true rfl) dX9_goOn_24 ⟨by decide, by decide⟩ (fun r_115 H116 lo116 hG116 hS116 => ?_)
        obtain ⟨z_117, hQ116⟩ := hG116
        have hP116 : va_P (dC, dI) vwCl (zW_r_goOn p0 fz_p0 p0_text c_p0_text b_p0_text) H116 := hQ116
        clear hQ116 hP2 hS2
        refine lv_bipush (v := 32) hx hb dX9_goOn_27 (by decide) ?_
        refine lv_icmp_eq (tgt := 45) hx hb dX9_goOn_29 (by decide) (fun c_118 => ?_) (fun c_118 => ?_)
        · have tc_118 := q_eq c_118
          refine lv_aload_n hx hb dX9_goOn_45 rfl (lv_at hl 0 rfl) (lv_dup hx hb dX9_goOn_46 rfl (qg_X9_6 hx hb hts i_X9 hown hK hP116 0 rfl k_1 fv_fz_p0_6 dX9_goOn_47 (lv_iconst (v := 1) hx hb dX9_goOn_50 (by decide) (lv_iadd hx hb dX9_goOn_51 (lv_topi fun v_119 ev_119 => ?_)))))
          have tv_119 := q_add ev_119 (by omega) (by omega)
          refine qp_X9_6 hx hb hts i_X9 hown hK hP116 hDa za_r_goOn hS116 0 rfl k_1 (OKX9_l ho_fz_p0) dX9_goOn_52 (fun H120 lo120 fs120 efs120 (hP120 : va_P (dC, dI) vwCl (zW_r_goOn p0 fs120 p0_text c_p0_text b_p0_text) H120) hS120 => ?_)
          have ho120 := OKX9_p6 ho_fz_p0 efs120 ⟨by omega, by omega⟩
          clear hP116 hS116
          refine lv_goto (tgt := 8) hx hb dX9_goOn_55 (by decide) ?_
          exact ih8 (fu8 - 1) (by omega) fs120 v_119 _ _ _ (by omega) ho120 (hf_fz_p0.st efs120 (by decide)) (q_sn efs120 (by decide) fr_fz_p0_1) (q_sn efs120 (by decide) fh_fz_p0_3) (q_sa efs120 (OKX9_l ho_fz_p0) (by decide)) (by omega) (q_sn efs120 (by decide) fh_fz_p0_7) (by omega) hP120 hS120 (lv_sub hl [0] rfl)
        · have tc_118 := q_neN c_118
          refine lv_aload_n hx hb dX9_goOn_32 rfl (lv_at hl 0 rfl) (lv_aload_n hx hb dX9_goOn_33 rfl (lv_at hl 0 rfl) (qg_X9_6 hx hb hts i_X9 hown hK hP116 0 rfl k_1 fv_fz_p0_6 dX9_goOn_34 ?_))
          refine q_cVi (As := [.int atv]) (rest := []) q_w0 trivial hK hP116 hDa za_r_goOn hS116 hA [0, 1] [0] (by decide +kernel) ⟨hx, hb, hml, hown, hts⟩ (r_sign l dC dI H116.size p0 fz_p0 p0_text c_p0_text b_p0_text atv siz ho_fz_p0 fr_fz_p0_1 fh_fz_p0_3 ((by omega))) rfl rfl (cwV 1 hts (p1_gV m_3 m_4 m_5 m_6 g_r_sign gz_r_sign) rfl rfl rfl (by decide +kernel) ⟨by decide, by decide⟩) (va_recv hK hP116 (ci := 8) (q0 := 0) rfl rfl) zm_r_sign rfl hl.1 rfl (Nat.le_of_ble_eq_true rfl) dX9_goOn_37 ⟨by decide, by decide⟩ (fun r_121 H122 lo122 hG122 hS122 => ?_)
          obtain ⟨z_123, hQ122⟩ := hG122
          have hP122 : va_P (dC, dI) vwCl (zW_r_goOn p0 fz_p0 p0_text c_p0_text b_p0_text) H122 := hQ122
          clear hQ122 hP116 hS116
          refine lv_bipush (v := 10) hx hb dX9_goOn_40 (by decide) ?_
          refine lv_icmp_ne (tgt := 58) hx hb dX9_goOn_42 (by decide) (fun c_124 => ?_) (fun c_124 => ?_)
          · have tc_124 := q_ne c_124
            refine lv_aload_n hx hb dX9_goOn_58 rfl (lv_at hl 0 rfl) (lv_aload_n hx hb dX9_goOn_59 rfl (lv_at hl 0 rfl) (qg_X9_6 hx hb hts i_X9 hown hK hP122 0 rfl k_1 fv_fz_p0_6 dX9_goOn_60 ?_))
            refine q_cVi (As := [.int atv]) (rest := []) q_w0 trivial hK hP122 hDa za_r_goOn hS122 hA [0, 1] [0] (by decide +kernel) ⟨hx, hb, hml, hown, hts⟩ (r_sign l dC dI H122.size p0 fz_p0 p0_text c_p0_text b_p0_text atv siz ho_fz_p0 fr_fz_p0_1 fh_fz_p0_3 ((by omega))) rfl rfl (cwV 1 hts (p1_gV m_3 m_4 m_5 m_6 g_r_sign gz_r_sign) rfl rfl rfl (by decide +kernel) ⟨by decide, by decide⟩) (va_recv hK hP122 (ci := 8) (q0 := 0) rfl rfl) zm_r_sign rfl hl.1 rfl (Nat.le_of_ble_eq_true rfl) dX9_goOn_63 ⟨by decide, by decide⟩ (fun r_125 H126 lo126 hG126 hS126 => ?_)
            obtain ⟨z_127, hQ126⟩ := hG126
            have hP126 : va_P (dC, dI) vwCl (zW_r_goOn p0 fz_p0 p0_text c_p0_text b_p0_text) H126 := hQ126
            clear hQ126 hP122 hS122
            refine lv_istore_n (lv' := [(1, .int r_125), (0, .ref p0)]) hx hb dX9_goOn_66 rfl hl (by decide) rfl (fun ls hl => ?_)
            refine lv_aload_n hx hb dX9_goOn_67 rfl (lv_at hl 1 rfl) (lv_aload_n hx hb dX9_goOn_68 rfl (lv_at hl 1 rfl) (qg_X9_6 hx hb hts i_X9 hown hK hP126 0 rfl k_1 fv_fz_p0_6 dX9_goOn_69 (lv_iconst (v := 1) hx hb dX9_goOn_72 (by decide) (lv_iadd hx hb dX9_goOn_73 (lv_topi fun v_128 ev_128 => ?_)))))
            have tv_128 := q_add ev_128 (by omega) (by omega)
            refine qp_X9_7 hx hb hts i_X9 hown hK hP126 hDa za_r_goOn hS126 0 rfl k_0 (OKX9_l ho_fz_p0) dX9_goOn_74 (fun H129 lo129 fs129 efs129 (hP129 : va_P (dC, dI) vwCl (zW_r_goOn p0 fs129 p0_text c_p0_text b_p0_text) H129) hS129 => ?_)
            have ho129 := OKX9_p7 ho_fz_p0 efs129 ⟨by omega, by omega⟩
            clear hP126 hS126
            refine lv_aload_n hx hb dX9_goOn_77 rfl (lv_at hl 1 rfl) (qg_X9_6 hx hb hts i_X9 hown hK hP129 0 rfl k_1 (q_sn efs129 (by decide) fv_fz_p0_6) dX9_goOn_78 (lv_aload_n hx hb dX9_goOn_81 rfl (lv_at hl 1 rfl) (qg_X9_3 hx hb hts i_X9 hown hK hP129 0 rfl k_2 (q_sn efs129 (by decide) fh_fz_p0_3) dX9_goOn_82 ?_)))
            refine lv_icmp_lt (tgt := 112) hx hb dX9_goOn_85 (by decide) (fun c_130 => ?_) (fun c_130 => ?_)
            · have tc_130 := q_lt c_130
              refine lv_iload_n hx hb dX9_goOn_112 rfl (lv_at hl 0 rfl) ?_
              refine q_cSi (As := [.int r_125]) (rest := []) q_w0 trivial hK hP129 hDa za_r_goOn hS129 hA [] [] (by decide +kernel) ⟨hx, hb, hml, hown, hts⟩ (r_isLetter l dC dI H129.size r_125) rfl rfl (va_cwS 1 hts (p1_gS m_7 m_8 m_6 g_r_isLetter gz_r_isLetter) rfl rfl rfl (by decide +kernel) ⟨by decide, by decide⟩) zm_r_isLetter rfl hl.1 rfl (Nat.le_of_ble_eq_true rfl) dX9_goOn_113 ⟨by decide, by decide⟩ (fun r_131 H132 lo132 hG132 hS132 => ?_)
              obtain ⟨z_133, hQ132⟩ := hG132
              have hP132 : va_P (dC, dI) vwCl (zW_r_goOn p0 fs129 p0_text c_p0_text b_p0_text) H132 := hQ132
              clear hQ132 hP129 hS129
              rcases z_133 with ⟨rfl, z_133⟩ | ⟨rfl, z_133⟩
              · refine lv_if_eq (tgt := 239) hx hb dX9_goOn_116 (by decide) (fun c_134 => absurd c_134 (by decide)) (fun c_134 => ?_)
                have key119 : ∀ (fu119 : Nat) (fz_p0 : List Value) (env : Int32) (H : Heap) (locs : List Loc) (ls : Array Slot) (hfu119 : 1601 - env.toInt ≤ (fu119 : Int)) (ho_fz_p0 : OKX9 fz_p0) (hf_fz_p0 : q_fr [6, 7, 8, 9, 10] f_p0 fz_p0) (fr_fz_p0_1 : q_rf fz_p0 1 p0_text) (fh_fz_p0_3 : q_if fz_p0 3 siz) (fh_fz_p0_6 : q_if fz_p0 6 atv) (fv_fz_p0_7 : q_if fz_p0 7 env) (tenv : (0) ≤ env.toInt ∧ env.toInt ≤ 1601) (hq119_0 : atv.toInt + 1 ≤ env.toInt ∧ env.toInt ≤ siz.toInt), va_P (dC, dI) vwCl (zW_r_goOn p0 fz_p0 p0_text c_p0_text b_p0_text) H → va_S A s.heap H locs → lv_has ls 3 [(1, .int r_125), (0, .ref p0)] → W p l e (headSpec zw_r_goOn { frames := 1, cells := 0, slots := 0, locals := 22 }).room s m ([.ref p0] : List Value).toArray below meth c H locs 0 0 (MQ below (q_Qv (dC, dI) (zG_r_goOn p0 f_p0 p0_text c_p0_text b_p0_text en siz) (zA_r_goOn p0 p0_text) A) ([.ref p0] : List Value).toArray s 0 0 A) (F0 m 119 ls []) := by
                  intro fu119
                  induction fu119 using Nat.strongRecOn with
                  | ind fu119 ih119 =>
                    intro fz_p0 env H135 lo135 ls hfu119 ho_fz_p0 hf_fz_p0 fr_fz_p0_1 fh_fz_p0_3 fh_fz_p0_6 fv_fz_p0_7 tenv hq119_0 hP135 hS135 hl
                    refine lv_aload_n hx hb dX9_goOn_119 rfl (lv_at hl 1 rfl) (lv_aload_n hx hb dX9_goOn_120 rfl (lv_at hl 1 rfl) (qg_X9_7 hx hb hts i_X9 hown hK hP135 0 rfl k_0 fv_fz_p0_7 dX9_goOn_121 ?_))
                    refine q_cVi (As := [.int env]) (rest := []) q_w0 trivial hK hP135 hDa za_r_goOn hS135 hA [0, 1] [0] (by decide +kernel) ⟨hx, hb, hml, hown, hts⟩ (r_sign l dC dI H135.size p0 fz_p0 p0_text c_p0_text b_p0_text env siz ho_fz_p0 fr_fz_p0_1 fh_fz_p0_3 ((by omega))) rfl rfl (cwV 1 hts (p1_gV m_3 m_4 m_5 m_6 g_r_sign gz_r_sign) rfl rfl rfl (by decide +kernel) ⟨by decide, by decide⟩) (va_recv hK hP135 (ci := 8) (q0 := 0) rfl rfl) zm_r_sign rfl hl.1 rfl (Nat.le_of_ble_eq_true rfl) dX9_goOn_124 ⟨by decide, by decide⟩ (fun r_136 H137 lo137 hG137 hS137 => ?_)
                    obtain ⟨z_138, hQ137⟩ := hG137
                    have hP137 : va_P (dC, dI) vwCl (zW_r_goOn p0 fz_p0 p0_text c_p0_text b_p0_text) H137 := hQ137
                    clear hQ137 hP135 hS135
                    refine q_cSi (As := [.int r_136]) (rest := []) q_w0 trivial hK hP137 hDa za_r_goOn hS137 hA [] [] (by decide +kernel) ⟨hx, hb, hml, hown, hts⟩ (r_isLetter l dC dI H137.size r_136) rfl rfl (va_cwS 1 hts (p1_gS m_7 m_8 m_6 g_r_isLetter gz_r_isLetter) rfl rfl rfl (by decide +kernel) ⟨by decide, by decide⟩) zm_r_isLetter rfl hl.1 rfl (Nat.le_of_ble_eq_true rfl) dX9_goOn_127 ⟨by decide, by decide⟩ (fun r_139 H140 lo140 hG140 hS140 => ?_)
                    obtain ⟨z_141, hQ140⟩ := hG140
                    have hP140 : va_P (dC, dI) vwCl (zW_r_goOn p0 fz_p0 p0_text c_p0_text b_p0_text) H140 := hQ140
                    clear hQ140 hP137 hS137
                    rcases z_141 with ⟨rfl, z_141⟩ | ⟨rfl, z_141⟩
                    · refine lv_if_eq (tgt := 146) hx hb dX9_goOn_130 (by decide) (fun c_142 => absurd c_142 (by decide)) (fun c_142 => ?_)
                      refine lv_aload_n hx hb dX9_goOn_133 rfl (lv_at hl 1 rfl) (lv_dup hx hb dX9_goOn_134 rfl (qg_X9_7 hx hb hts i_X9 hown hK hP140 0 rfl k_0 fv_fz_p0_7 dX9_goOn_135 (lv_iconst (v := 1) hx hb dX9_goOn_138 (by decide) (lv_iadd hx hb dX9_goOn_139 (lv_topi fun v_143 ev_143 => ?_)))))
                      have tv_143 := q_add ev_143 (by omega) (by omega)
                      refine qp_X9_7 hx hb hts i_X9 hown hK hP140 hDa za_r_goOn hS140 0 rfl k_0 (OKX9_l ho_fz_p0) dX9_goOn_140 (fun H144 lo144 fs144 efs144 (hP144 : va_P (dC, dI) vwCl (zW_r_goOn p0 fs144 p0_text c_p0_text b_p0_text) H144) hS144 => ?_)
                      have ho144 := OKX9_p7 ho_fz_p0 efs144 ⟨by omega, by omega⟩
                      clear hP140 hS140
                      refine lv_goto (tgt := 119) hx hb dX9_goOn_143 (by decide) ?_
                      exact ih119 (fu119 - 1) (by omega) fs144 v_143 _ _ _ (by omega) ho144 (hf_fz_p0.st efs144 (by decide)) (q_sn efs144 (by decide) fr_fz_p0_1) (q_sn efs144 (by decide) fh_fz_p0_3) (q_sn efs144 (by decide) fh_fz_p0_6) (q_sa efs144 (OKX9_l ho_fz_p0) (by decide)) (by omega) (by omega) hP144 hS144 (lv_sub hl [0, 1] rfl)
                    · refine lv_if_eq (tgt := 146) hx hb dX9_goOn_130 (by decide) (fun c_145 => ?_) (fun c_145 => absurd c_145 (by decide))
                      refine lv_aload_n hx hb dX9_goOn_146 rfl (lv_at hl 1 rfl) (lv_lconst (v := 0) hx hb dX9_goOn_147 (by decide) (qp_X9_10 hx hb hts i_X9 hown hK hP140 hDa za_r_goOn hS140 0 rfl k_9 (OKX9_l ho_fz_p0) dX9_goOn_148 (fun H146 lo146 fs146 efs146 (hP146 : va_P (dC, dI) vwCl (zW_r_goOn p0 fs146 p0_text c_p0_text b_p0_text) H146) hS146 => ?_)))
                      have ho146 := OKX9_p10 ho_fz_p0 efs146
                      clear hP140 hS140
                      refine lv_aload_n hx hb dX9_goOn_151 rfl (lv_at hl 1 rfl) (qg_X9_6 hx hb hts i_X9 hown hK hP146 0 rfl k_1 (q_sn efs146 (by decide) fh_fz_p0_6) dX9_goOn_152 (lv_istore_n (lv' := [(2, .int atv), (1, .int r_125), (0, .ref p0)]) hx hb dX9_goOn_155 rfl hl (by decide) rfl (fun ls hl => ?_)))
                      have key156 : ∀ (fu156 : Nat) (kk : Int32) (fz_p0 : List Value) (H : Heap) (locs : List Loc) (ls : Array Slot) (hfu156 : 1601 - kk.toInt ≤ (fu156 : Int)) (tkk : (0) ≤ kk.toInt ∧ kk.toInt ≤ 1601) (ho_fz_p0 : OKX9 fz_p0) (hf_fz_p0 : q_fr [6, 7, 8, 9, 10] f_p0 fz_p0) (fr_fz_p0_1 : q_rf fz_p0 1 p0_text) (fh_fz_p0_3 : q_if fz_p0 3 siz) (fh_fz_p0_6 : q_if fz_p0 6 atv) (fh_fz_p0_7 : q_if fz_p0 7 env), va_P (dC, dI) vwCl (zW_r_goOn p0 fz_p0 p0_text c_p0_text b_p0_text) H → va_S A s.heap H locs → lv_has ls 3 [(2, .int kk), (1, .int r_125), (0, .ref p0)] → W p l e (headSpec zw_r_goOn { frames := 1, cells := 0, slots := 0, locals := 22 }).room s m ([.ref p0] : List Value).toArray below meth c H locs 0 0 (MQ below (q_Qv (dC, dI) (zG_r_goOn p0 f_p0 p0_text c_p0_text b_p0_text en siz) (zA_r_goOn p0 p0_text) A) ([.ref p0] : List Value).toArray s 0 0 A) (F0 m 156 ls []) := by
                        intro fu156
                        induction fu156 using Nat.strongRecOn with
                        | ind fu156 ih156 =>
                          intro kk fz_p0 H147 lo147 ls hfu156 tkk ho_fz_p0 hf_fz_p0 fr_fz_p0_1 fh_fz_p0_3 fh_fz_p0_6 fh_fz_p0_7 hP147 hS147 hl
                          refine lv_iload_n hx hb dX9_goOn_156 rfl (lv_at hl 0 rfl) (lv_aload_n hx hb dX9_goOn_157 rfl (lv_at hl 2 rfl) (qg_X9_7 hx hb hts i_X9 hown hK hP147 0 rfl k_0 fh_fz_p0_7 dX9_goOn_158 ?_))
                          refine lv_icmp_ge (tgt := 199) hx hb dX9_goOn_161 (by decide) (fun c_148 => ?_) (fun c_148 => ?_)
                          · have tc_148 := q_ge c_148
                            refine lv_aload_n hx hb dX9_goOn_199 rfl (lv_at hl 2 rfl) (lv_aload_n hx hb dX9_goOn_200 rfl (lv_at hl 2 rfl) (qg_X9_7 hx hb hts i_X9 hown hK hP147 0 rfl k_0 fh_fz_p0_7 dX9_goOn_201 (lv_aload_n hx hb dX9_goOn_204 rfl (lv_at hl 2 rfl) (qg_X9_6 hx hb hts i_X9 hown hK hP147 0 rfl k_1 fh_fz_p0_6 dX9_goOn_205 (lv_isub hx hb dX9_goOn_208 (lv_topi fun v_149 ev_149 => ?_))))))
                            have tv_149 := q_sub ev_149 (by omega) (by omega)
                            refine lv_bipush (v := 8) hx hb dX9_goOn_209 (by decide) ?_
                            refine lv_icmp_le (tgt := 218) hx hb dX9_goOn_211 (by decide) (fun c_150 => ?_) (fun c_150 => ?_)
                            · have tc_150 := q_le c_150
                              refine lv_aload_n hx hb dX9_goOn_218 rfl (lv_at hl 2 rfl) ?_
                              obtain ⟨v_151, fv_151⟩ := OKX9_g10 ho_fz_p0
                              refine qg_X9_10 hx hb hts i_X9 hown hK hP147 0 rfl k_9 fv_151 dX9_goOn_219 ?_
                              refine q_cSi (As := [.long v_151]) (rest := [.ref p0]) q_w0 trivial hK hP147 hDa za_r_goOn hS147 hA [] [] (by decide +kernel) ⟨hx, hb, hml, hown, hts⟩ (r_isKept l dC dI H147.size v_151) rfl rfl (va_cwS 1 hts (p1_gS m_10 m_11 m_6 g_r_isKept gz_r_isKept) rfl rfl rfl (by decide +kernel) ⟨by decide, by decide⟩) zm_r_isKept rfl hl.1 rfl (Nat.le_of_ble_eq_true rfl) dX9_goOn_222 ⟨by decide, by decide⟩ (fun r_152 H153 lo153 hG153 hS153 => ?_)
                              obtain ⟨z_154, hQ153⟩ := hG153
                              have hP153 : va_P (dC, dI) vwCl (zW_r_goOn p0 fz_p0 p0_text c_p0_text b_p0_text) H153 := hQ153
                              clear hQ153 hP147 hS147
                              rcases z_154 with ⟨rfl, z_154⟩ | ⟨rfl, z_154⟩
                              · refine lv_if_eq (tgt := 232) hx hb dX9_goOn_225 (by decide) (fun c_155 => absurd c_155 (by decide)) (fun c_155 => ?_)
                                refine lv_iconst (v := 3) hx hb dX9_goOn_228 (by decide) (lv_goto (tgt := 233) hx hb dX9_goOn_229 (by decide) (qp_X9_8 hx hb hts i_X9 hown hK hP153 hDa za_r_goOn hS153 0 rfl k_12 (OKX9_l ho_fz_p0) dX9_goOn_233 (fun H156 lo156 fs156 efs156 (hP156 : va_P (dC, dI) vwCl (zW_r_goOn p0 fs156 p0_text c_p0_text b_p0_text) H156) hS156 => ?_)))
                                have ho156 := OKX9_p8 ho_fz_p0 efs156 ⟨by omega, by omega⟩
                                clear hP153 hS153
                                refine lv_goto (tgt := 377) hx hb dX9_goOn_236 (by decide) ?_
                                exact q_vret hx hb hr hlocks hS156 dX9_goOn_377 ⟨fs156, atv, env, 3, ho156, (hf_fz_p0.st efs156 (by decide)), (q_sn efs156 (by decide) fh_fz_p0_6), (q_sn efs156 (by decide) fh_fz_p0_7), (q_sa efs156 (OKX9_l ho_fz_p0) (by decide)), (by omega), hP156, za_r_goOn⟩
                              · refine lv_if_eq (tgt := 232) hx hb dX9_goOn_225 (by decide) (fun c_157 => ?_) (fun c_157 => absurd c_157 (by decide))
                                refine lv_iconst (v := 2) hx hb dX9_goOn_232 (by decide) (qp_X9_8 hx hb hts i_X9 hown hK hP153 hDa za_r_goOn hS153 0 rfl k_12 (OKX9_l ho_fz_p0) dX9_goOn_233 (fun H158 lo158 fs158 efs158 (hP158 : va_P (dC, dI) vwCl (zW_r_goOn p0 fs158 p0_text c_p0_text b_p0_text) H158) hS158 => ?_))
                                have ho158 := OKX9_p8 ho_fz_p0 efs158 ⟨by omega, by omega⟩
                                clear hP153 hS153
                                refine lv_goto (tgt := 377) hx hb dX9_goOn_236 (by decide) ?_
                                exact q_vret hx hb hr hlocks hS158 dX9_goOn_377 ⟨fs158, atv, env, 2, ho158, (hf_fz_p0.st efs158 (by decide)), (q_sn efs158 (by decide) fh_fz_p0_6), (q_sn efs158 (by decide) fh_fz_p0_7), (q_sa efs158 (OKX9_l ho_fz_p0) (by decide)), (by omega), hP158, za_r_goOn⟩
                            · have tc_150 := q_gtN c_150
                              refine lv_iconst (v := 1) hx hb dX9_goOn_214 (by decide) (lv_goto (tgt := 233) hx hb dX9_goOn_215 (by decide) (qp_X9_8 hx hb hts i_X9 hown hK hP147 hDa za_r_goOn hS147 0 rfl k_12 (OKX9_l ho_fz_p0) dX9_goOn_233 (fun H159 lo159 fs159 efs159 (hP159 : va_P (dC, dI) vwCl (zW_r_goOn p0 fs159 p0_text c_p0_text b_p0_text) H159) hS159 => ?_)))
                              have ho159 := OKX9_p8 ho_fz_p0 efs159 ⟨by omega, by omega⟩
                              clear hP147 hS147
                              refine lv_goto (tgt := 377) hx hb dX9_goOn_236 (by decide) ?_
                              exact q_vret hx hb hr hlocks hS159 dX9_goOn_377 ⟨fs159, atv, env, 1, ho159, (hf_fz_p0.st efs159 (by decide)), (q_sn efs159 (by decide) fh_fz_p0_6), (q_sn efs159 (by decide) fh_fz_p0_7), (q_sa efs159 (OKX9_l ho_fz_p0) (by decide)), (by omega), hP159, za_r_goOn⟩
                          · have tc_148 := q_ltN c_148
                            refine lv_iload_n hx hb dX9_goOn_164 rfl (lv_at hl 0 rfl) (lv_aload_n hx hb dX9_goOn_165 rfl (lv_at hl 2 rfl) (qg_X9_6 hx hb hts i_X9 hown hK hP147 0 rfl k_1 fh_fz_p0_6 dX9_goOn_166 (lv_bipush (v := 8) hx hb dX9_goOn_169 (by decide) (lv_iadd hx hb dX9_goOn_171 (lv_topi fun v_160 ev_160 => ?_)))))
                            have tv_160 := q_add ev_160 (by omega) (by omega)
                            refine lv_icmp_ge (tgt := 199) hx hb dX9_goOn_172 (by decide) (fun c_161 => ?_) (fun c_161 => ?_)
                            · have tc_161 := q_ge c_161
                              refine lv_aload_n hx hb dX9_goOn_199 rfl (lv_at hl 2 rfl) (lv_aload_n hx hb dX9_goOn_200 rfl (lv_at hl 2 rfl) (qg_X9_7 hx hb hts i_X9 hown hK hP147 0 rfl k_0 fh_fz_p0_7 dX9_goOn_201 (lv_aload_n hx hb dX9_goOn_204 rfl (lv_at hl 2 rfl) (qg_X9_6 hx hb hts i_X9 hown hK hP147 0 rfl k_1 fh_fz_p0_6 dX9_goOn_205 (lv_isub hx hb dX9_goOn_208 (lv_topi fun v_162 ev_162 => ?_))))))
                              have tv_162 := q_sub ev_162 (by omega) (by omega)
                              refine lv_bipush (v := 8) hx hb dX9_goOn_209 (by decide) ?_
                              refine lv_icmp_le (tgt := 218) hx hb dX9_goOn_211 (by decide) (fun c_163 => ?_) (fun c_163 => ?_)
                              · have tc_163 := q_le c_163
                                refine lv_aload_n hx hb dX9_goOn_218 rfl (lv_at hl 2 rfl) ?_
                                obtain ⟨v_164, fv_164⟩ := OKX9_g10 ho_fz_p0
                                refine qg_X9_10 hx hb hts i_X9 hown hK hP147 0 rfl k_9 fv_164 dX9_goOn_219 ?_
                                refine q_cSi (As := [.long v_164]) (rest := [.ref p0]) q_w0 trivial hK hP147 hDa za_r_goOn hS147 hA [] [] (by decide +kernel) ⟨hx, hb, hml, hown, hts⟩ (r_isKept l dC dI H147.size v_164) rfl rfl (va_cwS 1 hts (p1_gS m_10 m_11 m_6 g_r_isKept gz_r_isKept) rfl rfl rfl (by decide +kernel) ⟨by decide, by decide⟩) zm_r_isKept rfl hl.1 rfl (Nat.le_of_ble_eq_true rfl) dX9_goOn_222 ⟨by decide, by decide⟩ (fun r_165 H166 lo166 hG166 hS166 => ?_)
                                obtain ⟨z_167, hQ166⟩ := hG166
                                have hP166 : va_P (dC, dI) vwCl (zW_r_goOn p0 fz_p0 p0_text c_p0_text b_p0_text) H166 := hQ166
                                clear hQ166 hP147 hS147
                                rcases z_167 with ⟨rfl, z_167⟩ | ⟨rfl, z_167⟩
                                · refine lv_if_eq (tgt := 232) hx hb dX9_goOn_225 (by decide) (fun c_168 => absurd c_168 (by decide)) (fun c_168 => ?_)
                                  refine lv_iconst (v := 3) hx hb dX9_goOn_228 (by decide) (lv_goto (tgt := 233) hx hb dX9_goOn_229 (by decide) (qp_X9_8 hx hb hts i_X9 hown hK hP166 hDa za_r_goOn hS166 0 rfl k_12 (OKX9_l ho_fz_p0) dX9_goOn_233 (fun H169 lo169 fs169 efs169 (hP169 : va_P (dC, dI) vwCl (zW_r_goOn p0 fs169 p0_text c_p0_text b_p0_text) H169) hS169 => ?_)))
                                  have ho169 := OKX9_p8 ho_fz_p0 efs169 ⟨by omega, by omega⟩
                                  clear hP166 hS166
                                  refine lv_goto (tgt := 377) hx hb dX9_goOn_236 (by decide) ?_
                                  exact q_vret hx hb hr hlocks hS169 dX9_goOn_377 ⟨fs169, atv, env, 3, ho169, (hf_fz_p0.st efs169 (by decide)), (q_sn efs169 (by decide) fh_fz_p0_6), (q_sn efs169 (by decide) fh_fz_p0_7), (q_sa efs169 (OKX9_l ho_fz_p0) (by decide)), (by omega), hP169, za_r_goOn⟩
                                · refine lv_if_eq (tgt := 232) hx hb dX9_goOn_225 (by decide) (fun c_170 => ?_) (fun c_170 => absurd c_170 (by decide))
                                  refine lv_iconst (v := 2) hx hb dX9_goOn_232 (by decide) (qp_X9_8 hx hb hts i_X9 hown hK hP166 hDa za_r_goOn hS166 0 rfl k_12 (OKX9_l ho_fz_p0) dX9_goOn_233 (fun H171 lo171 fs171 efs171 (hP171 : va_P (dC, dI) vwCl (zW_r_goOn p0 fs171 p0_text c_p0_text b_p0_text) H171) hS171 => ?_))
                                  have ho171 := OKX9_p8 ho_fz_p0 efs171 ⟨by omega, by omega⟩
                                  clear hP166 hS166
                                  refine lv_goto (tgt := 377) hx hb dX9_goOn_236 (by decide) ?_
                                  exact q_vret hx hb hr hlocks hS171 dX9_goOn_377 ⟨fs171, atv, env, 2, ho171, (hf_fz_p0.st efs171 (by decide)), (q_sn efs171 (by decide) fh_fz_p0_6), (q_sn efs171 (by decide) fh_fz_p0_7), (q_sa efs171 (OKX9_l ho_fz_p0) (by decide)), (by omega), hP171, za_r_goOn⟩
                              · have tc_163 := q_gtN c_163
                                refine lv_iconst (v := 1) hx hb dX9_goOn_214 (by decide) (lv_goto (tgt := 233) hx hb dX9_goOn_215 (by decide) (qp_X9_8 hx hb hts i_X9 hown hK hP147 hDa za_r_goOn hS147 0 rfl k_12 (OKX9_l ho_fz_p0) dX9_goOn_233 (fun H172 lo172 fs172 efs172 (hP172 : va_P (dC, dI) vwCl (zW_r_goOn p0 fs172 p0_text c_p0_text b_p0_text) H172) hS172 => ?_)))
                                have ho172 := OKX9_p8 ho_fz_p0 efs172 ⟨by omega, by omega⟩
                                clear hP147 hS147
                                refine lv_goto (tgt := 377) hx hb dX9_goOn_236 (by decide) ?_
                                exact q_vret hx hb hr hlocks hS172 dX9_goOn_377 ⟨fs172, atv, env, 1, ho172, (hf_fz_p0.st efs172 (by decide)), (q_sn efs172 (by decide) fh_fz_p0_6), (q_sn efs172 (by decide) fh_fz_p0_7), (q_sa efs172 (OKX9_l ho_fz_p0) (by decide)), (by omega), hP172, za_r_goOn⟩
                            · have tc_161 := q_ltN c_161
                              refine lv_aload_n hx hb dX9_goOn_175 rfl (lv_at hl 2 rfl) (lv_aload_n hx hb dX9_goOn_176 rfl (lv_at hl 2 rfl) ?_)
                              obtain ⟨v_173, fv_173⟩ := OKX9_g10 ho_fz_p0
                              refine qg_X9_10 hx hb hts i_X9 hown hK hP147 0 rfl k_9 fv_173 dX9_goOn_177 (lv_bipush (v := 8) hx hb dX9_goOn_180 (by decide) (lv_lshl hx hb dX9_goOn_182 rfl (lv_topl fun w_174 ew_174 => lv_aload_n hx hb dX9_goOn_183 rfl (lv_at hl 2 rfl) (lv_iload_n hx hb dX9_goOn_184 rfl (lv_at hl 0 rfl) ?_))))
                              refine q_cVi (As := [.int kk]) (rest := [.long w_174, .ref p0]) q_w0 trivial hK hP147 hDa za_r_goOn hS147 hA [0, 1] [0] (by decide +kernel) ⟨hx, hb, hml, hown, hts⟩ (r_sign l dC dI H147.size p0 fz_p0 p0_text c_p0_text b_p0_text kk siz ho_fz_p0 fr_fz_p0_1 fh_fz_p0_3 ((by omega))) rfl rfl (cwV 1 hts (p1_gV m_3 m_4 m_5 m_6 g_r_sign gz_r_sign) rfl rfl rfl (by decide +kernel) ⟨by decide, by decide⟩) (va_recv hK hP147 (ci := 8) (q0 := 0) rfl rfl) zm_r_sign rfl hl.1 rfl (Nat.le_of_ble_eq_true rfl) dX9_goOn_185 ⟨by decide, by decide⟩ (fun r_175 H176 lo176 hG176 hS176 => ?_)
                              obtain ⟨z_177, hQ176⟩ := hG176
                              have hP176 : va_P (dC, dI) vwCl (zW_r_goOn p0 fz_p0 p0_text c_p0_text b_p0_text) H176 := hQ176
                              clear hQ176 hP147 hS147
                              refine lv_i2l hx hb dX9_goOn_188 rfl (lv_topl fun w_178 ew_178 => lv_lor hx hb dX9_goOn_189 (lv_topl fun w_179 ew_179 => qp_X9_10 hx hb hts i_X9 hown hK hP176 hDa za_r_goOn hS176 0 rfl k_9 (OKX9_l ho_fz_p0) dX9_goOn_190 (fun H180 lo180 fs180 efs180 (hP180 : va_P (dC, dI) vwCl (zW_r_goOn p0 fs180 p0_text c_p0_text b_p0_text) H180) hS180 => ?_)))
                              have ho180 := OKX9_p10 ho_fz_p0 efs180
                              clear hP176 hS176
                              obtain ⟨v_181, ev_181⟩ : ∃ y : Int32, y = kk + 1 := ⟨_, rfl⟩
                              have tv_181 := q_add ev_181 (by omega) (by omega)
                              refine lv_iinc (v := v_181) (lv' := [(2, .int v_181), (1, .int r_125), (0, .ref p0)]) hx hb dX9_goOn_193 hl (k := 0) rfl (by rw [ev_181]; rfl) (by decide) rfl (fun ls hl => ?_)
                              refine lv_goto (tgt := 156) hx hb dX9_goOn_196 (by decide) ?_
                              exact ih156 (fu156 - 1) (by omega) v_181 fs180 _ _ _ (by omega) (by omega) ho180 (hf_fz_p0.st efs180 (by decide)) (q_sn efs180 (by decide) fr_fz_p0_1) (q_sn efs180 (by decide) fh_fz_p0_3) (q_sn efs180 (by decide) fh_fz_p0_6) (q_sn efs180 (by decide) fh_fz_p0_7) hP180 hS180 (lv_sub hl [0, 1, 2] rfl)
                      exact key156 1601 atv fs146 _ _ _ (by omega) (by omega) ho146 (hf_fz_p0.st efs146 (by decide)) (q_sn efs146 (by decide) fr_fz_p0_1) (q_sn efs146 (by decide) fh_fz_p0_3) (q_sn efs146 (by decide) fh_fz_p0_6) (q_sn efs146 (by decide) fv_fz_p0_7) hP146 hS146 (lv_sub hl [0, 1, 2] rfl)
                exact key119 1601 fs129 v_128 _ _ _ (by omega) ho129 (hf_fz_p0.st efs129 (by decide)) (q_sn efs129 (by decide) fr_fz_p0_1) (q_sn efs129 (by decide) fh_fz_p0_3) (q_sn efs129 (by decide) fv_fz_p0_6) (q_sa efs129 (OKX9_l ho_fz_p0) (by decide)) (by omega) (by omega) hP132 hS132 (lv_sub hl [0, 1] rfl)
              · refine lv_if_eq (tgt := 239) hx hb dX9_goOn_116 (by decide) (fun c_182 => ?_) (fun c_182 => absurd c_182 (by decide))
                refine lv_iload_n hx hb dX9_goOn_239 rfl (lv_at hl 0 rfl) ?_
                refine q_cSi (As := [.int r_125]) (rest := []) q_w0 trivial hK hP132 hDa za_r_goOn hS132 hA [] [] (by decide +kernel) ⟨hx, hb, hml, hown, hts⟩ (r_isDigit l dC dI H132.size r_125) rfl rfl (va_cwS 1 hts (p1_gS m_13 m_14 m_6 g_r_isDigit gz_r_isDigit) rfl rfl rfl (by decide +kernel) ⟨by decide, by decide⟩) zm_r_isDigit rfl hl.1 rfl (Nat.le_of_ble_eq_true rfl) dX9_goOn_240 ⟨by decide, by decide⟩ (fun r_183 H184 lo184 hG184 hS184 => ?_)
                obtain ⟨z_185, hQ184⟩ := hG184
                have hP184 : va_P (dC, dI) vwCl (zW_r_goOn p0 fs129 p0_text c_p0_text b_p0_text) H184 := hQ184
                clear hQ184 hP132 hS132
                rcases z_185 with ⟨rfl, z_185⟩ | ⟨rfl, z_185⟩
                · refine lv_if_eq (tgt := 361) hx hb dX9_goOn_243 (by decide) (fun c_186 => absurd c_186 (by decide)) (fun c_186 => ?_)
                  refine lv_aload_n hx hb dX9_goOn_246 rfl (lv_at hl 1 rfl) (lv_iconst (v := 0) hx hb dX9_goOn_247 (by decide) (qp_X9_9 hx hb hts i_X9 hown hK hP184 hDa za_r_goOn hS184 0 rfl k_15 (OKX9_l ho129) dX9_goOn_248 (fun H187 lo187 fs187 efs187 (hP187 : va_P (dC, dI) vwCl (zW_r_goOn p0 fs187 p0_text c_p0_text b_p0_text) H187) hS187 => ?_)))
                  have ho187 := OKX9_p9 ho129 efs187
                  clear hP184 hS184
                  refine lv_aload_n hx hb dX9_goOn_251 rfl (lv_at hl 1 rfl) (lv_aload_n hx hb dX9_goOn_252 rfl (lv_at hl 1 rfl) (qg_X9_6 hx hb hts i_X9 hown hK hP187 0 rfl k_1 (q_sn efs187 (by decide) (q_sn efs129 (by decide) fv_fz_p0_6)) dX9_goOn_253 (qp_X9_7 hx hb hts i_X9 hown hK hP187 hDa za_r_goOn hS187 0 rfl k_0 (OKX9_l ho187) dX9_goOn_256 (fun H188 lo188 fs188 efs188 (hP188 : va_P (dC, dI) vwCl (zW_r_goOn p0 fs188 p0_text c_p0_text b_p0_text) H188) hS188 => ?_))))
                  have ho188 := OKX9_p7 ho187 efs188 ⟨by omega, by omega⟩
                  clear hP187 hS187
                  have key259 : ∀ (fu259 : Nat) (fz_p0 : List Value) (env : Int32) (H : Heap) (locs : List Loc) (ls : Array Slot) (hfu259 : 1601 - env.toInt ≤ (fu259 : Int)) (ho_fz_p0 : OKX9 fz_p0) (hf_fz_p0 : q_fr [6, 7, 8, 9, 10] f_p0 fz_p0) (fr_fz_p0_1 : q_rf fz_p0 1 p0_text) (fh_fz_p0_3 : q_if fz_p0 3 siz) (fh_fz_p0_6 : q_if fz_p0 6 atv) (fv_fz_p0_7 : q_if fz_p0 7 env) (tenv : (0) ≤ env.toInt ∧ env.toInt ≤ 1601) (hq259_0 : atv.toInt ≤ env.toInt ∧ env.toInt ≤ siz.toInt), va_P (dC, dI) vwCl (zW_r_goOn p0 fz_p0 p0_text c_p0_text b_p0_text) H → va_S A s.heap H locs → lv_has ls 3 [(1, .int r_125), (0, .ref p0)] → W p l e (headSpec zw_r_goOn { frames := 1, cells := 0, slots := 0, locals := 22 }).room s m ([.ref p0] : List Value).toArray below meth c H locs 0 0 (MQ below (q_Qv (dC, dI) (zG_r_goOn p0 f_p0 p0_text c_p0_text b_p0_text en siz) (zA_r_goOn p0 p0_text) A) ([.ref p0] : List Value).toArray s 0 0 A) (F0 m 259 ls []) := by
                    intro fu259
                    induction fu259 using Nat.strongRecOn with
                    | ind fu259 ih259 =>
                      intro fz_p0 env H189 lo189 ls hfu259 ho_fz_p0 hf_fz_p0 fr_fz_p0_1 fh_fz_p0_3 fh_fz_p0_6 fv_fz_p0_7 tenv hq259_0 hP189 hS189 hl
                      refine lv_aload_n hx hb dX9_goOn_259 rfl (lv_at hl 1 rfl) (lv_aload_n hx hb dX9_goOn_260 rfl (lv_at hl 1 rfl) (qg_X9_7 hx hb hts i_X9 hown hK hP189 0 rfl k_0 fv_fz_p0_7 dX9_goOn_261 ?_))
                      refine q_cVi (As := [.int env]) (rest := []) q_w0 trivial hK hP189 hDa za_r_goOn hS189 hA [0, 1] [0] (by decide +kernel) ⟨hx, hb, hml, hown, hts⟩ (r_sign l dC dI H189.size p0 fz_p0 p0_text c_p0_text b_p0_text env siz ho_fz_p0 fr_fz_p0_1 fh_fz_p0_3 ((by omega))) rfl rfl (cwV 1 hts (p1_gV m_3 m_4 m_5 m_6 g_r_sign gz_r_sign) rfl rfl rfl (by decide +kernel) ⟨by decide, by decide⟩) (va_recv hK hP189 (ci := 8) (q0 := 0) rfl rfl) zm_r_sign rfl hl.1 rfl (Nat.le_of_ble_eq_true rfl) dX9_goOn_264 ⟨by decide, by decide⟩ (fun r_190 H191 lo191 hG191 hS191 => ?_)
                      obtain ⟨z_192, hQ191⟩ := hG191
                      have hP191 : va_P (dC, dI) vwCl (zW_r_goOn p0 fz_p0 p0_text c_p0_text b_p0_text) H191 := hQ191
                      clear hQ191 hP189 hS189
                      refine q_cSi (As := [.int r_190]) (rest := []) q_w0 trivial hK hP191 hDa za_r_goOn hS191 hA [] [] (by decide +kernel) ⟨hx, hb, hml, hown, hts⟩ (r_isDigit l dC dI H191.size r_190) rfl rfl (va_cwS 1 hts (p1_gS m_13 m_14 m_6 g_r_isDigit gz_r_isDigit) rfl rfl rfl (by decide +kernel) ⟨by decide, by decide⟩) zm_r_isDigit rfl hl.1 rfl (Nat.le_of_ble_eq_true rfl) dX9_goOn_267 ⟨by decide, by decide⟩ (fun r_193 H194 lo194 hG194 hS194 => ?_)
                      obtain ⟨z_195, hQ194⟩ := hG194
                      have hP194 : va_P (dC, dI) vwCl (zW_r_goOn p0 fz_p0 p0_text c_p0_text b_p0_text) H194 := hQ194
                      clear hQ194 hP191 hS191
                      rcases z_195 with ⟨rfl, z_195⟩ | ⟨rfl, z_195⟩
                      · refine lv_if_eq (tgt := 322) hx hb dX9_goOn_270 (by decide) (fun c_196 => absurd c_196 (by decide)) (fun c_196 => ?_)
                        refine lv_aload_n hx hb dX9_goOn_273 rfl (lv_at hl 1 rfl) (qg_X9_7 hx hb hts i_X9 hown hK hP194 0 rfl k_0 fv_fz_p0_7 dX9_goOn_274 (lv_aload_n hx hb dX9_goOn_277 rfl (lv_at hl 1 rfl) (qg_X9_6 hx hb hts i_X9 hown hK hP194 0 rfl k_1 fh_fz_p0_6 dX9_goOn_278 (lv_isub hx hb dX9_goOn_281 (lv_topi fun v_197 ev_197 => ?_)))))
                        have tv_197 := q_sub ev_197 (by omega) (by omega)
                        refine lv_iconst (v := 4) hx hb dX9_goOn_282 (by decide) ?_
                        refine lv_icmp_ge (tgt := 309) hx hb dX9_goOn_283 (by decide) (fun c_198 => ?_) (fun c_198 => ?_)
                        · have tc_198 := q_ge c_198
                          refine lv_aload_n hx hb dX9_goOn_309 rfl (lv_at hl 1 rfl) (lv_dup hx hb dX9_goOn_310 rfl (qg_X9_7 hx hb hts i_X9 hown hK hP194 0 rfl k_0 fv_fz_p0_7 dX9_goOn_311 (lv_iconst (v := 1) hx hb dX9_goOn_314 (by decide) (lv_iadd hx hb dX9_goOn_315 (lv_topi fun v_199 ev_199 => ?_)))))
                          have tv_199 := q_add ev_199 (by omega) (by omega)
                          refine qp_X9_7 hx hb hts i_X9 hown hK hP194 hDa za_r_goOn hS194 0 rfl k_0 (OKX9_l ho_fz_p0) dX9_goOn_316 (fun H200 lo200 fs200 efs200 (hP200 : va_P (dC, dI) vwCl (zW_r_goOn p0 fs200 p0_text c_p0_text b_p0_text) H200) hS200 => ?_)
                          have ho200 := OKX9_p7 ho_fz_p0 efs200 ⟨by omega, by omega⟩
                          clear hP194 hS194
                          refine lv_goto (tgt := 259) hx hb dX9_goOn_319 (by decide) ?_
                          exact ih259 (fu259 - 1) (by omega) fs200 v_199 _ _ _ (by omega) ho200 (hf_fz_p0.st efs200 (by decide)) (q_sn efs200 (by decide) fr_fz_p0_1) (q_sn efs200 (by decide) fh_fz_p0_3) (q_sn efs200 (by decide) fh_fz_p0_6) (q_sa efs200 (OKX9_l ho_fz_p0) (by decide)) (by omega) (by omega) hP200 hS200 (lv_sub hl [0, 1] rfl)
                        · have tc_198 := q_ltN c_198
                          refine lv_aload_n hx hb dX9_goOn_286 rfl (lv_at hl 1 rfl) (lv_bipush (v := 10) hx hb dX9_goOn_287 (by decide) (lv_aload_n hx hb dX9_goOn_289 rfl (lv_at hl 1 rfl) ?_))
                          obtain ⟨v_201, fv_201⟩ := OKX9_g9 ho_fz_p0
                          refine qg_X9_9 hx hb hts i_X9 hown hK hP194 0 rfl k_15 fv_201 dX9_goOn_290 (lv_imul hx hb dX9_goOn_293 (lv_topi fun v_202 ev_202 => lv_aload_n hx hb dX9_goOn_294 rfl (lv_at hl 1 rfl) (lv_aload_n hx hb dX9_goOn_295 rfl (lv_at hl 1 rfl) (qg_X9_7 hx hb hts i_X9 hown hK hP194 0 rfl k_0 fv_fz_p0_7 dX9_goOn_296 ?_))))
                          refine q_cVi (As := [.int env]) (rest := [.int v_202, .ref p0]) q_w0 trivial hK hP194 hDa za_r_goOn hS194 hA [0, 1] [0] (by decide +kernel) ⟨hx, hb, hml, hown, hts⟩ (r_sign l dC dI H194.size p0 fz_p0 p0_text c_p0_text b_p0_text env siz ho_fz_p0 fr_fz_p0_1 fh_fz_p0_3 ((by omega))) rfl rfl (cwV 1 hts (p1_gV m_3 m_4 m_5 m_6 g_r_sign gz_r_sign) rfl rfl rfl (by decide +kernel) ⟨by decide, by decide⟩) (va_recv hK hP194 (ci := 8) (q0 := 0) rfl rfl) zm_r_sign rfl hl.1 rfl (Nat.le_of_ble_eq_true rfl) dX9_goOn_299 ⟨by decide, by decide⟩ (fun r_203 H204 lo204 hG204 hS204 => ?_)
                          obtain ⟨z_205, hQ204⟩ := hG204
                          have hP204 : va_P (dC, dI) vwCl (zW_r_goOn p0 fz_p0 p0_text c_p0_text b_p0_text) H204 := hQ204
                          clear hQ204 hP194 hS194
                          refine lv_iadd hx hb dX9_goOn_302 (lv_topi fun v_206 ev_206 => lv_bipush (v := 48) hx hb dX9_goOn_303 (by decide) (lv_isub hx hb dX9_goOn_305 (lv_topi fun v_207 ev_207 => qp_X9_9 hx hb hts i_X9 hown hK hP204 hDa za_r_goOn hS204 0 rfl k_15 (OKX9_l ho_fz_p0) dX9_goOn_306 (fun H208 lo208 fs208 efs208 (hP208 : va_P (dC, dI) vwCl (zW_r_goOn p0 fs208 p0_text c_p0_text b_p0_text) H208) hS208 => ?_))))
                          have ho208 := OKX9_p9 ho_fz_p0 efs208
                          clear hP204 hS204
                          refine lv_aload_n hx hb dX9_goOn_309 rfl (lv_at hl 1 rfl) (lv_dup hx hb dX9_goOn_310 rfl (qg_X9_7 hx hb hts i_X9 hown hK hP208 0 rfl k_0 (q_sn efs208 (by decide) fv_fz_p0_7) dX9_goOn_311 (lv_iconst (v := 1) hx hb dX9_goOn_314 (by decide) (lv_iadd hx hb dX9_goOn_315 (lv_topi fun v_209 ev_209 => ?_)))))
                          have tv_209 := q_add ev_209 (by omega) (by omega)
                          refine qp_X9_7 hx hb hts i_X9 hown hK hP208 hDa za_r_goOn hS208 0 rfl k_0 (OKX9_l ho208) dX9_goOn_316 (fun H210 lo210 fs210 efs210 (hP210 : va_P (dC, dI) vwCl (zW_r_goOn p0 fs210 p0_text c_p0_text b_p0_text) H210) hS210 => ?_)
                          have ho210 := OKX9_p7 ho208 efs210 ⟨by omega, by omega⟩
                          clear hP208 hS208
                          refine lv_goto (tgt := 259) hx hb dX9_goOn_319 (by decide) ?_
                          exact ih259 (fu259 - 1) (by omega) fs210 v_209 _ _ _ (by omega) ho210 ((hf_fz_p0.st efs208 (by decide)).st efs210 (by decide)) (q_sn efs210 (by decide) (q_sn efs208 (by decide) fr_fz_p0_1)) (q_sn efs210 (by decide) (q_sn efs208 (by decide) fh_fz_p0_3)) (q_sn efs210 (by decide) (q_sn efs208 (by decide) fh_fz_p0_6)) (q_sa efs210 (OKX9_l ho208) (by decide)) (by omega) (by omega) hP210 hS210 (lv_sub hl [0, 1] rfl)
                      · refine lv_if_eq (tgt := 322) hx hb dX9_goOn_270 (by decide) (fun c_211 => ?_) (fun c_211 => absurd c_211 (by decide))
                        refine lv_aload_n hx hb dX9_goOn_322 rfl (lv_at hl 1 rfl) (lv_aload_n hx hb dX9_goOn_323 rfl (lv_at hl 1 rfl) (qg_X9_7 hx hb hts i_X9 hown hK hP194 0 rfl k_0 fv_fz_p0_7 dX9_goOn_324 (lv_aload_n hx hb dX9_goOn_327 rfl (lv_at hl 1 rfl) (qg_X9_6 hx hb hts i_X9 hown hK hP194 0 rfl k_1 fh_fz_p0_6 dX9_goOn_328 (lv_isub hx hb dX9_goOn_331 (lv_topi fun v_212 ev_212 => ?_))))))
                        have tv_212 := q_sub ev_212 (by omega) (by omega)
                        refine lv_iconst (v := 4) hx hb dX9_goOn_332 (by decide) ?_
                        refine lv_icmp_gt (tgt := 350) hx hb dX9_goOn_333 (by decide) (fun c_213 => ?_) (fun c_213 => ?_)
                        · have tc_213 := q_gt c_213
                          refine lv_iconst (v := 1) hx hb dX9_goOn_350 (by decide) (lv_goto (tgt := 355) hx hb dX9_goOn_351 (by decide) (qp_X9_8 hx hb hts i_X9 hown hK hP194 hDa za_r_goOn hS194 0 rfl k_12 (OKX9_l ho_fz_p0) dX9_goOn_355 (fun H214 lo214 fs214 efs214 (hP214 : va_P (dC, dI) vwCl (zW_r_goOn p0 fs214 p0_text c_p0_text b_p0_text) H214) hS214 => ?_)))
                          have ho214 := OKX9_p8 ho_fz_p0 efs214 ⟨by omega, by omega⟩
                          clear hP194 hS194
                          refine lv_goto (tgt := 377) hx hb dX9_goOn_358 (by decide) ?_
                          exact q_vret hx hb hr hlocks hS214 dX9_goOn_377 ⟨fs214, atv, env, 1, ho214, (hf_fz_p0.st efs214 (by decide)), (q_sn efs214 (by decide) fh_fz_p0_6), (q_sn efs214 (by decide) fv_fz_p0_7), (q_sa efs214 (OKX9_l ho_fz_p0) (by decide)), (by omega), hP214, za_r_goOn⟩
                        · have tc_213 := q_leN c_213
                          refine lv_aload_n hx hb dX9_goOn_336 rfl (lv_at hl 1 rfl) (lv_aload_n hx hb dX9_goOn_337 rfl (lv_at hl 1 rfl) (qg_X9_7 hx hb hts i_X9 hown hK hP194 0 rfl k_0 fv_fz_p0_7 dX9_goOn_338 ?_))
                          refine q_cVi (As := [.int env]) (rest := [.ref p0]) q_w0 trivial hK hP194 hDa za_r_goOn hS194 hA [0, 1] [0] (by decide +kernel) ⟨hx, hb, hml, hown, hts⟩ (r_sign l dC dI H194.size p0 fz_p0 p0_text c_p0_text b_p0_text env siz ho_fz_p0 fr_fz_p0_1 fh_fz_p0_3 ((by omega))) rfl rfl (cwV 1 hts (p1_gV m_3 m_4 m_5 m_6 g_r_sign gz_r_sign) rfl rfl rfl (by decide +kernel) ⟨by decide, by decide⟩) (va_recv hK hP194 (ci := 8) (q0 := 0) rfl rfl) zm_r_sign rfl hl.1 rfl (Nat.le_of_ble_eq_true rfl) dX9_goOn_341 ⟨by decide, by decide⟩ (fun r_215 H216 lo216 hG216 hS216 => ?_)
                          obtain ⟨z_217, hQ216⟩ := hG216
                          have hP216 : va_P (dC, dI) vwCl (zW_r_goOn p0 fz_p0 p0_text c_p0_text b_p0_text) H216 := hQ216
                          clear hQ216 hP194 hS194
                          refine q_cSi (As := [.int r_215]) (rest := [.ref p0]) q_w0 trivial hK hP216 hDa za_r_goOn hS216 hA [] [] (by decide +kernel) ⟨hx, hb, hml, hown, hts⟩ (r_isLetter l dC dI H216.size r_215) rfl rfl (va_cwS 1 hts (p1_gS m_7 m_8 m_6 g_r_isLetter gz_r_isLetter) rfl rfl rfl (by decide +kernel) ⟨by decide, by decide⟩) zm_r_isLetter rfl hl.1 rfl (Nat.le_of_ble_eq_true rfl) dX9_goOn_344 ⟨by decide, by decide⟩ (fun r_218 H219 lo219 hG219 hS219 => ?_)
                          obtain ⟨z_220, hQ219⟩ := hG219
                          have hP219 : va_P (dC, dI) vwCl (zW_r_goOn p0 fz_p0 p0_text c_p0_text b_p0_text) H219 := hQ219
                          clear hQ219 hP216 hS216
                          rcases z_220 with ⟨rfl, z_220⟩ | ⟨rfl, z_220⟩
                          · refine lv_if_eq (tgt := 354) hx hb dX9_goOn_347 (by decide) (fun c_221 => absurd c_221 (by decide)) (fun c_221 => ?_)
                            refine lv_iconst (v := 1) hx hb dX9_goOn_350 (by decide) (lv_goto (tgt := 355) hx hb dX9_goOn_351 (by decide) (qp_X9_8 hx hb hts i_X9 hown hK hP219 hDa za_r_goOn hS219 0 rfl k_12 (OKX9_l ho_fz_p0) dX9_goOn_355 (fun H222 lo222 fs222 efs222 (hP222 : va_P (dC, dI) vwCl (zW_r_goOn p0 fs222 p0_text c_p0_text b_p0_text) H222) hS222 => ?_)))
                            have ho222 := OKX9_p8 ho_fz_p0 efs222 ⟨by omega, by omega⟩
                            clear hP219 hS219
                            refine lv_goto (tgt := 377) hx hb dX9_goOn_358 (by decide) ?_
                            exact q_vret hx hb hr hlocks hS222 dX9_goOn_377 ⟨fs222, atv, env, 1, ho222, (hf_fz_p0.st efs222 (by decide)), (q_sn efs222 (by decide) fh_fz_p0_6), (q_sn efs222 (by decide) fv_fz_p0_7), (q_sa efs222 (OKX9_l ho_fz_p0) (by decide)), (by omega), hP222, za_r_goOn⟩
                          · refine lv_if_eq (tgt := 354) hx hb dX9_goOn_347 (by decide) (fun c_223 => ?_) (fun c_223 => absurd c_223 (by decide))
                            refine lv_iconst (v := 4) hx hb dX9_goOn_354 (by decide) (qp_X9_8 hx hb hts i_X9 hown hK hP219 hDa za_r_goOn hS219 0 rfl k_12 (OKX9_l ho_fz_p0) dX9_goOn_355 (fun H224 lo224 fs224 efs224 (hP224 : va_P (dC, dI) vwCl (zW_r_goOn p0 fs224 p0_text c_p0_text b_p0_text) H224) hS224 => ?_))
                            have ho224 := OKX9_p8 ho_fz_p0 efs224 ⟨by omega, by omega⟩
                            clear hP219 hS219
                            refine lv_goto (tgt := 377) hx hb dX9_goOn_358 (by decide) ?_
                            exact q_vret hx hb hr hlocks hS224 dX9_goOn_377 ⟨fs224, atv, env, 4, ho224, (hf_fz_p0.st efs224 (by decide)), (q_sn efs224 (by decide) fh_fz_p0_6), (q_sn efs224 (by decide) fv_fz_p0_7), (q_sa efs224 (OKX9_l ho_fz_p0) (by decide)), (by omega), hP224, za_r_goOn⟩
                  exact key259 1601 fs188 atv _ _ _ (by omega) ho188 (((hf_fz_p0.st efs129 (by decide)).st efs187 (by decide)).st efs188 (by decide)) (q_sn efs188 (by decide) (q_sn efs187 (by decide) (q_sn efs129 (by decide) fr_fz_p0_1))) (q_sn efs188 (by decide) (q_sn efs187 (by decide) (q_sn efs129 (by decide) fh_fz_p0_3))) (q_sn efs188 (by decide) (q_sn efs187 (by decide) (q_sn efs129 (by decide) fv_fz_p0_6))) (q_sa efs188 (OKX9_l ho187) (by decide)) (by omega) (by omega) hP188 hS188 (lv_sub hl [0, 1] rfl)
                · refine lv_if_eq (tgt := 361) hx hb dX9_goOn_243 (by decide) (fun c_225 => ?_) (fun c_225 => absurd c_225 (by decide))
                  refine lv_aload_n hx hb dX9_goOn_361 rfl (lv_at hl 1 rfl) (lv_iload_n hx hb dX9_goOn_362 rfl (lv_at hl 0 rfl) ?_)
                  refine q_cSi (As := [.int r_125]) (rest := [.ref p0]) q_w0 trivial hK hP184 hDa za_r_goOn hS184 hA [] [] (by decide +kernel) ⟨hx, hb, hml, hown, hts⟩ (r_isSign l dC dI H184.size r_125) rfl rfl (va_cwS 1 hts (p1_gS m_16 m_17 m_6 g_r_isSign gz_r_isSign) rfl rfl rfl (by decide +kernel) ⟨by decide, by decide⟩) zm_r_isSign rfl hl.1 rfl (Nat.le_of_ble_eq_true rfl) dX9_goOn_363 ⟨by decide, by decide⟩ (fun r_226 H227 lo227 hG227 hS227 => ?_)
                  obtain ⟨z_228, hQ227⟩ := hG227
                  have hP227 : va_P (dC, dI) vwCl (zW_r_goOn p0 fs129 p0_text c_p0_text b_p0_text) H227 := hQ227
                  clear hQ227 hP184 hS184
                  rcases z_228 with ⟨rfl, z_228⟩ | ⟨rfl, z_228⟩
                  · refine lv_if_eq (tgt := 373) hx hb dX9_goOn_366 (by decide) (fun c_229 => absurd c_229 (by decide)) (fun c_229 => ?_)
                    refine lv_iconst (v := 5) hx hb dX9_goOn_369 (by decide) (lv_goto (tgt := 374) hx hb dX9_goOn_370 (by decide) (qp_X9_8 hx hb hts i_X9 hown hK hP227 hDa za_r_goOn hS227 0 rfl k_12 (OKX9_l ho129) dX9_goOn_374 (fun H230 lo230 fs230 efs230 (hP230 : va_P (dC, dI) vwCl (zW_r_goOn p0 fs230 p0_text c_p0_text b_p0_text) H230) hS230 => ?_)))
                    have ho230 := OKX9_p8 ho129 efs230 ⟨by omega, by omega⟩
                    clear hP227 hS227
                    exact q_vret hx hb hr hlocks hS230 dX9_goOn_377 ⟨fs230, atv, v_128, 5, ho230, ((hf_fz_p0.st efs129 (by decide)).st efs230 (by decide)), (q_sn efs230 (by decide) (q_sn efs129 (by decide) fv_fz_p0_6)), (q_sn efs230 (by decide) (q_sa efs129 (OKX9_l ho_fz_p0) (by decide))), (q_sa efs230 (OKX9_l ho129) (by decide)), (by omega), hP230, za_r_goOn⟩
                  · refine lv_if_eq (tgt := 373) hx hb dX9_goOn_366 (by decide) (fun c_231 => ?_) (fun c_231 => absurd c_231 (by decide))
                    refine lv_iconst (v := 1) hx hb dX9_goOn_373 (by decide) (qp_X9_8 hx hb hts i_X9 hown hK hP227 hDa za_r_goOn hS227 0 rfl k_12 (OKX9_l ho129) dX9_goOn_374 (fun H232 lo232 fs232 efs232 (hP232 : va_P (dC, dI) vwCl (zW_r_goOn p0 fs232 p0_text c_p0_text b_p0_text) H232) hS232 => ?_))
                    have ho232 := OKX9_p8 ho129 efs232 ⟨by omega, by omega⟩
                    clear hP227 hS227
                    exact q_vret hx hb hr hlocks hS232 dX9_goOn_377 ⟨fs232, atv, v_128, 1, ho232, ((hf_fz_p0.st efs129 (by decide)).st efs232 (by decide)), (q_sn efs232 (by decide) (q_sn efs129 (by decide) fv_fz_p0_6)), (q_sn efs232 (by decide) (q_sa efs129 (OKX9_l ho_fz_p0) (by decide))), (q_sa efs232 (OKX9_l ho129) (by decide)), (by omega), hP232, za_r_goOn⟩
            · have tc_130 := q_geN c_130
              refine lv_aload_n hx hb dX9_goOn_88 rfl (lv_at hl 1 rfl) (lv_iconst (v := 0) hx hb dX9_goOn_89 (by decide) (qp_X9_8 hx hb hts i_X9 hown hK hP129 hDa za_r_goOn hS129 0 rfl k_12 (OKX9_l ho129) dX9_goOn_90 (fun H233 lo233 fs233 efs233 (hP233 : va_P (dC, dI) vwCl (zW_r_goOn p0 fs233 p0_text c_p0_text b_p0_text) H233) hS233 => ?_)))
              have ho233 := OKX9_p8 ho129 efs233 ⟨by omega, by omega⟩
              clear hP129 hS129
              refine lv_aload_n hx hb dX9_goOn_93 rfl (lv_at hl 1 rfl) (lv_aload_n hx hb dX9_goOn_94 rfl (lv_at hl 1 rfl) (qg_X9_3 hx hb hts i_X9 hown hK hP233 0 rfl k_2 (q_sn efs233 (by decide) (q_sn efs129 (by decide) fh_fz_p0_3)) dX9_goOn_95 (qp_X9_6 hx hb hts i_X9 hown hK hP233 hDa za_r_goOn hS233 0 rfl k_1 (OKX9_l ho233) dX9_goOn_98 (fun H234 lo234 fs234 efs234 (hP234 : va_P (dC, dI) vwCl (zW_r_goOn p0 fs234 p0_text c_p0_text b_p0_text) H234) hS234 => ?_))))
              have ho234 := OKX9_p6 ho233 efs234 ⟨by omega, by omega⟩
              clear hP233 hS233
              refine lv_aload_n hx hb dX9_goOn_101 rfl (lv_at hl 1 rfl) (lv_aload_n hx hb dX9_goOn_102 rfl (lv_at hl 1 rfl) (qg_X9_3 hx hb hts i_X9 hown hK hP234 0 rfl k_2 (q_sn efs234 (by decide) (q_sn efs233 (by decide) (q_sn efs129 (by decide) fh_fz_p0_3))) dX9_goOn_103 (qp_X9_7 hx hb hts i_X9 hown hK hP234 hDa za_r_goOn hS234 0 rfl k_0 (OKX9_l ho234) dX9_goOn_106 (fun H235 lo235 fs235 efs235 (hP235 : va_P (dC, dI) vwCl (zW_r_goOn p0 fs235 p0_text c_p0_text b_p0_text) H235) hS235 => ?_))))
              have ho235 := OKX9_p7 ho234 efs235 ⟨by omega, by omega⟩
              clear hP234 hS234
              refine lv_goto (tgt := 377) hx hb dX9_goOn_109 (by decide) ?_
              exact q_vret hx hb hr hlocks hS235 dX9_goOn_377 ⟨fs235, siz, siz, 0, ho235, ((((hf_fz_p0.st efs129 (by decide)).st efs233 (by decide)).st efs234 (by decide)).st efs235 (by decide)), (q_sn efs235 (by decide) (q_sa efs234 (OKX9_l ho233) (by decide))), (q_sa efs235 (OKX9_l ho234) (by decide)), (q_sn efs235 (by decide) (q_sn efs234 (by decide) (q_sa efs233 (OKX9_l ho129) (by decide)))), (by omega), hP235, za_r_goOn⟩
          · have tc_124 := q_eqN c_124
            refine lv_aload_n hx hb dX9_goOn_45 rfl (lv_at hl 0 rfl) (lv_dup hx hb dX9_goOn_46 rfl (qg_X9_6 hx hb hts i_X9 hown hK hP122 0 rfl k_1 fv_fz_p0_6 dX9_goOn_47 (lv_iconst (v := 1) hx hb dX9_goOn_50 (by decide) (lv_iadd hx hb dX9_goOn_51 (lv_topi fun v_236 ev_236 => ?_)))))
            have tv_236 := q_add ev_236 (by omega) (by omega)
            refine qp_X9_6 hx hb hts i_X9 hown hK hP122 hDa za_r_goOn hS122 0 rfl k_1 (OKX9_l ho_fz_p0) dX9_goOn_52 (fun H237 lo237 fs237 efs237 (hP237 : va_P (dC, dI) vwCl (zW_r_goOn p0 fs237 p0_text c_p0_text b_p0_text) H237) hS237 => ?_)
            have ho237 := OKX9_p6 ho_fz_p0 efs237 ⟨by omega, by omega⟩
            clear hP122 hS122
            refine lv_goto (tgt := 8) hx hb dX9_goOn_55 (by decide) ?_
            exact ih8 (fu8 - 1) (by omega) fs237 v_236 _ _ _ (by omega) ho237 (hf_fz_p0.st efs237 (by decide)) (q_sn efs237 (by decide) fr_fz_p0_1) (q_sn efs237 (by decide) fh_fz_p0_3) (q_sa efs237 (OKX9_l ho_fz_p0) (by decide)) (by omega) (q_sn efs237 (by decide) fh_fz_p0_7) (by omega) hP237 hS237 (lv_sub hl [0] rfl)
  exact key8 1601 fs1 en _ _ _ (by omega) ho1 (q_fr.rf.st efs1 (by decide)) (q_sn efs1 (by decide) fr_p0_1) (q_sn efs1 (by decide) pf_siz) (q_sa efs1 (OKX9_l ho_p0) (by decide)) (by omega) (q_sn efs1 (by decide) pf_en) (by omega) hP1 hS1 (lv_sub hl [0] rfl)
def zo_r_must : List Cond := [.code yX9_must cX9_must 2 none, .methodLink RX9 258 yX9_isGood, .instanceMethod yX9_isGood, .selects RX9 yX9_isGood yX9_isGood, .initialized RX9, .methodLink RX9 265 yX9_misplaced, .instanceMethod yX9_misplaced, .selects RX9 yX9_misplaced yX9_misplaced, .methodLink RX9 262 yX9_goOn, .instanceMethod yX9_goOn, .selects RX9 yX9_goOn yX9_goOn]
def zw_r_must : List Cond := zo_r_must ++ (zw_r_isGood ++ (zw_r_misplaced ++ (zw_r_goOn ++ [])))
theorem gz_r_must : zw_r_must.all goodWord = true := p1_ga (by decide +kernel) (p1_ga gz_r_isGood (p1_ga gz_r_misplaced (p1_ga gz_r_goOn p1_g0)))
theorem iz_r_must : ∀ w ∈ zw_r_must, w ∈ lw_tbl := p1_ia (p1_all [1374, 1327, 1329, 46, 116, 1343, 1345, 50, 1285, 1287, 44] (by decide +kernel)) (p1_ia iz_r_isGood (p1_ia iz_r_misplaced (p1_ia iz_r_goOn p1_i0)))
def zW_r_must (p0 : Nat) (f_p0 : List Value) (p0_text : Nat) (c_p0_text : ClassId) (b_p0_text : Nat → Int32) : va_W := [(p0, .inr (8, f_p0)), (p0_text, .inl (c_p0_text, 1600, .inl b_p0_text))]
def zT_r_must (c_p0_text : ClassId) : List (ClassId × FieldType) := [(c_p0_text, .byte)]
def zA_r_must (p0 : Nat) (p0_text : Nat) : List Nat := [p0, p0_text]
theorem za_r_must {p0 : Nat} {f_p0 : List Value} {p0_text : Nat} {c_p0_text : ClassId} {b_p0_text : Nat → Int32} : (zW_r_must p0 f_p0 p0_text c_p0_text b_p0_text).map Prod.fst = (zA_r_must p0 p0_text) := rfl
def zG_r_must (p0 : Nat) (f_p0 : List Value) (p0_text : Nat) (c_p0_text : ClassId) (b_p0_text : Nat → Int32) (a1 : Int32) (at0 : Int32) (en : Int32) (tk : Int32) (siz : Int32) (fk : Int32) (X : va_W → Prop) : Prop := ∃ (y_p0 : List Value) (at1 : Int32) (en1 : Int32) (tk1 : Int32) (fk1 : Int32), OKX9 y_p0 ∧ q_fr [4, 5, 6, 7, 8, 9, 10] f_p0 y_p0 ∧ q_if y_p0 6 at1 ∧ q_if y_p0 7 en1 ∧ q_if y_p0 8 tk1 ∧ q_if y_p0 4 fk1 ∧ (en1.toInt ≤ siz.toInt ∧ at0.toInt ≤ at1.toInt ∧ at1.toInt ≤ en1.toInt ∧ (tk1.toInt ≠ 3 ∨ at1.toInt < en1.toInt)) ∧ (fk.toInt = 0 ∨ 1 ≤ fk1.toInt) ∧ X (zW_r_must p0 y_p0 p0_text c_p0_text b_p0_text)
theorem zm_r_must {p0 : Nat} {f_p0 : List Value} {p0_text : Nat} {c_p0_text : ClassId} {b_p0_text : Nat → Int32} {a1 : Int32} {at0 : Int32} {en : Int32} {tk : Int32} {siz : Int32} {fk : Int32} : ∀ X Y : va_W → Prop, (∀ w, X w → Y w) → zG_r_must p0 f_p0 p0_text c_p0_text b_p0_text a1 at0 en tk siz fk X → zG_r_must p0 f_p0 p0_text c_p0_text b_p0_text a1 at0 en tk siz fk Y := fun X Y h h1 => by obtain ⟨x0, x1, x2, x3, x4, x5, x6, x7, x8, x9, x10, x11, x12, hx⟩ := h1; exact ⟨x0, x1, x2, x3, x4, x5, x6, x7, x8, x9, x10, x11, x12, h _ hx⟩
set_option maxHeartbeats 4000000 in
set_option maxRecDepth 100000 in
theorem r_must (l : Launch) (dC : Nat → ClassId) (dI : Nat → Nat → Nat) (sz : Nat) (p0 : Nat) (f_p0 : List Value) (p0_text : Nat) (c_p0_text : ClassId) (b_p0_text : Nat → Int32) (a1 : Int32) (at0 : Int32) (en : Int32) (tk : Int32) (siz : Int32) (fk : Int32) (ho_p0 : OKX9 f_p0) (fr_p0_1 : q_rf f_p0 1 p0_text) (pf_at0 : q_if f_p0 6 at0) (pf_en : q_if f_p0 7 en) (pf_tk : q_if f_p0 8 tk) (pf_siz : q_if f_p0 3 siz) (pf_fk : q_if f_p0 4 fk) (hR : en.toInt ≤ siz.toInt ∧ at0.toInt ≤ en.toInt ∧ (tk.toInt ≠ 3 ∨ at0.toInt < en.toInt)) : Met l yX9_must zw_r_must ({ frames := 2, cells := 0, slots := 0, locals := 44 }) (va_Pc [.ref p0, .int a1] (q_pre (dC, dI) (zW_r_must p0 f_p0 p0_text c_p0_text b_p0_text) (zT_r_must c_p0_text) q_E0 sz)) (q_Qv (dC, dI) (zG_r_must p0 f_p0 p0_text c_p0_text b_p0_text a1 at0 en tk siz fk) (zA_r_must p0 p0_text) (va_A (zW_r_must p0 f_p0 p0_text c_p0_text b_p0_text) sz)) 0 0 (va_A (zW_r_must p0 f_p0 p0_text c_p0_text b_p0_text) sz) := by
  refine Met.ofW (cc := cX9_must) (maxL := 2) (ret := none) (by decide) rfl ?_
  intro p e s m args below meth c s₁ B hml hv
  obtain ⟨rfl, hsz, hP, hK, hD0, hE⟩ := hv
  have hx := B.exec
  have hb := B.bytes
  have hr := B.returns
  have hts := atoms_spec (ws := zw_r_must) B.pre
  have hown : s.vm.findClass RX9 = some m.cls := findClass_of_methodNamed B.named
  have hlocks := B.notSynchronized
  subst hsz
  have hD := hD0.self (sz := s.heap.size)
  generalize hAe : va_A (zW_r_must p0 f_p0 p0_text c_p0_text b_p0_text) s.heap.size = A at hD hE ⊢
  have hA : ∀ q : Nat, s.heap.size ≤ q → A q := fun q h => by rw [← hAe]; exact Or.inr h
  have hDa : q_DA A (zA_r_must p0 p0_text) := q_DA.mk hD za_r_must
  clear hAe hD0 hD
  have hS : va_S A s.heap s.heap [] := va_S.rf
  have m_0 : (.methodLink RX9 258 yX9_isGood : Cond) ∈ zw_r_must := List.mem_append_left _ (List.mem_of_getElem? (i := 1) rfl)
  have k_0 := hts _ m_0
  have m_1 : (.instanceMethod yX9_isGood : Cond) ∈ zw_r_must := List.mem_append_left _ (List.mem_of_getElem? (i := 2) rfl)
  have k_1 := hts _ m_1
  have m_2 : (.selects RX9 yX9_isGood yX9_isGood : Cond) ∈ zw_r_must := List.mem_append_left _ (List.mem_of_getElem? (i := 3) rfl)
  have k_2 := hts _ m_2
  have m_3 : (.initialized RX9 : Cond) ∈ zw_r_must := List.mem_append_left _ (List.mem_of_getElem? (i := 4) rfl)
  have k_3 := hts _ m_3
  have m_4 : (.methodLink RX9 265 yX9_misplaced : Cond) ∈ zw_r_must := List.mem_append_left _ (List.mem_of_getElem? (i := 5) rfl)
  have k_4 := hts _ m_4
  have m_5 : (.instanceMethod yX9_misplaced : Cond) ∈ zw_r_must := List.mem_append_left _ (List.mem_of_getElem? (i := 6) rfl)
  have k_5 := hts _ m_5
  have m_6 : (.selects RX9 yX9_misplaced yX9_misplaced : Cond) ∈ zw_r_must := List.mem_append_left _ (List.mem_of_getElem? (i := 7) rfl)
  have k_6 := hts _ m_6
  have m_7 : (.methodLink RX9 262 yX9_goOn : Cond) ∈ zw_r_must := List.mem_append_left _ (List.mem_of_getElem? (i := 8) rfl)
  have k_7 := hts _ m_7
  have m_8 : (.instanceMethod yX9_goOn : Cond) ∈ zw_r_must := List.mem_append_left _ (List.mem_of_getElem? (i := 9) rfl)
  have k_8 := hts _ m_8
  have m_9 : (.selects RX9 yX9_goOn yX9_goOn : Cond) ∈ zw_r_must := List.mem_append_left _ (List.mem_of_getElem? (i := 10) rfl)
  have k_9 := hts _ m_9
  have g_r_isGood : ∀ w ∈ zw_r_isGood, w ∈ zw_r_must := fun w h => List.mem_append_right _ (List.mem_append_left _ h)
  have g_r_misplaced : ∀ w ∈ zw_r_misplaced, w ∈ zw_r_must := fun w h => List.mem_append_right _ (List.mem_append_right _ (List.mem_append_left _ h))
  have g_r_goOn : ∀ w ∈ zw_r_goOn, w ∈ zw_r_must := fun w h => List.mem_append_right _ (List.mem_append_right _ (List.mem_append_right _ (List.mem_append_left _ h)))
  have lt_0 : (0 : Int32).toInt = 0 := by decide
  have lt_1 : (1 : Int32).toInt = 1 := by decide
  have hl := lv_entry ([.ref p0, .int a1]) (n := 2) (Nat.le_of_ble_eq_true rfl)
  rw [lg_entry_eq]
  generalize (lg_sl ([.ref p0, .int a1]) ++ List.replicate (2 - (lg_sl ([.ref p0, .int a1])).length) Slot.unset).toArray = ls at hl ⊢
  have hl : lv_has ls 2 [(0, .ref p0), (1, .int a1)] := hl
  have tat0 := (OKX9_g6 ho_p0).use pf_at0
  have ten := (OKX9_g7 ho_p0).use pf_en
  have ttk := (OKX9_g8 ho_p0).use pf_tk
  have tsiz := (OKX9_g3 ho_p0).use pf_siz
  have tfk := (OKX9_g4 ho_p0).use pf_fk
  refine lv_aload_n hx hb dX9_must_0 rfl (lv_at hl 0 rfl) ?_
  refine q_cVi (As := []) (rest := []) q_w0 trivial hK hP hDa za_r_must hS hA [0] [] (by decide +kernel) ⟨hx, hb, hml, hown, hts⟩ (r_isGood l dC dI s.heap.size p0 f_p0 fk ho_p0 pf_fk) rfl rfl (cwV 0 hts (p1_gV m_0 m_1 m_2 m_3 g_r_isGood gz_r_isGood) rfl rfl rfl (by decide +kernel) ⟨by decide, by decide⟩) (va_recv hK hP (ci := 8) (q0 := 0) rfl rfl) zm_r_isGood rfl hl.1 rfl (Nat.le_of_ble_eq_true rfl) dX9_must_1 ⟨by decide, by decide⟩ (fun r_1 H2 lo2 hG2 hS2 => ?_)
  obtain ⟨z_3, hQ2⟩ := hG2
  have hP2 : va_P (dC, dI) vwCl (zW_r_must p0 f_p0 p0_text c_p0_text b_p0_text) H2 := hQ2
  clear hQ2 hP hS
  rcases z_3 with ⟨rfl, z_3⟩ | ⟨rfl, z_3⟩
  · refine lv_if_ne (tgt := 8) hx hb dX9_must_4 (by decide) (fun c_4 => ?_) (fun c_4 => absurd c_4 (by decide))
    refine lv_iload_n hx hb dX9_must_8 rfl (lv_at hl 1 rfl) ?_
    refine lv_if_eq (tgt := 19) hx hb dX9_must_9 (by decide) (fun c_5 => ?_) (fun c_5 => ?_)
    · have tc_5 := q_eq c_5
      refine lv_aload_n hx hb dX9_must_19 rfl (lv_at hl 0 rfl) ?_
      refine q_cVv (As := []) (rest := []) q_w0 trivial hK hP2 hDa za_r_must hS2 hA [0] [] (by decide +kernel) ⟨hx, hb, hml, hown, hts⟩ (r_misplaced l dC dI H2.size p0 f_p0 ho_p0) rfl rfl (cwV 0 hts (p1_gV m_4 m_5 m_6 m_3 g_r_misplaced gz_r_misplaced) rfl rfl rfl (by decide +kernel) ⟨by decide, by decide⟩) (va_recv hK hP2 (ci := 8) (q0 := 0) rfl rfl) zm_r_misplaced rfl hl.1 rfl (Nat.le_of_ble_eq_true rfl) dX9_must_20 ⟨by decide, by decide⟩ (fun H7 lo7 hG7 hS7 => ?_)
      obtain ⟨o_8, o_9, ho_10, hf_11, z_12, z_13, hQ7⟩ := hG7
      have to_9 := (OKX9_g4 ho_10).use z_12
      have hP7 : va_P (dC, dI) vwCl (zW_r_must p0 o_8 p0_text c_p0_text b_p0_text) H7 := hQ7
      clear hQ7 hP2 hS2
      exact q_vret hx hb hr hlocks hS7 dX9_must_23 ⟨o_8, at0, en, tk, o_9, ho_10, (q_fr.rf.tr hf_11 (by decide)), (hf_11.u (by decide) pf_at0), (hf_11.u (by decide) pf_en), (hf_11.u (by decide) pf_tk), z_12, (by omega), (by omega), hP7, za_r_must⟩
    · have tc_5 := q_neN c_5
      refine lv_aload_n hx hb dX9_must_12 rfl (lv_at hl 0 rfl) ?_
      refine q_cVv (As := []) (rest := []) q_w0 trivial hK hP2 hDa za_r_must hS2 hA [0, 1] [0] (by decide +kernel) ⟨hx, hb, hml, hown, hts⟩ (r_goOn l dC dI H2.size p0 f_p0 p0_text c_p0_text b_p0_text en siz ho_p0 fr_p0_1 pf_en pf_siz ((by omega))) rfl rfl (cwV 0 hts (p1_gV m_7 m_8 m_9 m_3 g_r_goOn gz_r_goOn) rfl rfl rfl (by decide +kernel) ⟨by decide, by decide⟩) (va_recv hK hP2 (ci := 8) (q0 := 0) rfl rfl) zm_r_goOn rfl hl.1 rfl (Nat.le_of_ble_eq_true rfl) dX9_must_13 ⟨by decide, by decide⟩ (fun H15 lo15 hG15 hS15 => ?_)
      obtain ⟨o_16, o_17, o_18, o_19, ho_20, hf_21, z_22, z_23, z_24, z_25, hQ15⟩ := hG15
      have to_17 := (OKX9_g6 ho_20).use z_22
      have to_18 := (OKX9_g7 ho_20).use z_23
      have to_19 := (OKX9_g8 ho_20).use z_24
      have hP15 : va_P (dC, dI) vwCl (zW_r_must p0 o_16 p0_text c_p0_text b_p0_text) H15 := hQ15
      clear hQ15 hP2 hS2
      refine lv_goto (tgt := 23) hx hb dX9_must_16 (by decide) ?_
      exact q_vret hx hb hr hlocks hS15 dX9_must_23 ⟨o_16, o_17, o_18, o_19, fk, ho_20, (q_fr.rf.tr hf_21 (by decide)), z_22, z_23, z_24, (hf_21.u (by decide) pf_fk), (by omega), (by omega), hP15, za_r_must⟩
  · refine lv_if_ne (tgt := 8) hx hb dX9_must_4 (by decide) (fun c_26 => absurd c_26 (by decide)) (fun c_26 => ?_)
    exact q_vret hx hb hr hlocks hS2 dX9_must_7 ⟨f_p0, at0, en, tk, fk, ho_p0, q_fr.rf, pf_at0, pf_en, pf_tk, pf_fk, (by omega), (by omega), hP2, za_r_must⟩
def zo_r_numeral : List Cond := [.code yX9_numeral cX9_numeral 4 (some .int), .methodLink RX9 258 yX9_isGood, .instanceMethod yX9_isGood, .selects RX9 yX9_isGood yX9_isGood, .initialized RX9, .fieldLink RX9 230 "BowWalkModel" "token" "I", .fieldLink RX9 248 "BowWalkModel" "number" "I", .fieldLink RX9 223 "BowWalkModel" "at" "I", .methodLink RX9 254 yX9_fails, .instanceMethod yX9_fails, .selects RX9 yX9_fails yX9_fails, .methodLink RX9 262 yX9_goOn, .instanceMethod yX9_goOn, .selects RX9 yX9_goOn yX9_goOn, .methodLink RX9 265 yX9_misplaced, .instanceMethod yX9_misplaced, .selects RX9 yX9_misplaced yX9_misplaced]
def zw_r_numeral : List Cond := zo_r_numeral ++ (zw_r_isGood ++ (zw_r_fails ++ (zw_r_goOn ++ (zw_r_misplaced ++ (wsX90 ++ [])))))
theorem gz_r_numeral : zw_r_numeral.all goodWord = true := p1_ga (by decide +kernel) (p1_ga gz_r_isGood (p1_ga gz_r_fails (p1_ga gz_r_goOn (p1_ga gz_r_misplaced (p1_ga gk_X9 p1_g0)))))
theorem iz_r_numeral : ∀ w ∈ zw_r_numeral, w ∈ lw_tbl := p1_ia (p1_all [1378, 1327, 1329, 46, 116, 1045, 1046, 1043, 1347, 1349, 51, 1285, 1287, 44, 1343, 1345, 50] (by decide +kernel)) (p1_ia iz_r_isGood (p1_ia iz_r_fails (p1_ia iz_r_goOn (p1_ia iz_r_misplaced (p1_ia ik_X9 p1_i0)))))
def zW_r_numeral (p0 : Nat) (f_p0 : List Value) (p0_text : Nat) (c_p0_text : ClassId) (b_p0_text : Nat → Int32) : va_W := [(p0, .inr (8, f_p0)), (p0_text, .inl (c_p0_text, 1600, .inl b_p0_text))]
def zT_r_numeral (c_p0_text : ClassId) : List (ClassId × FieldType) := [(c_p0_text, .byte)]
def zA_r_numeral (p0 : Nat) (p0_text : Nat) : List Nat := [p0, p0_text]
theorem za_r_numeral {p0 : Nat} {f_p0 : List Value} {p0_text : Nat} {c_p0_text : ClassId} {b_p0_text : Nat → Int32} : (zW_r_numeral p0 f_p0 p0_text c_p0_text b_p0_text).map Prod.fst = (zA_r_numeral p0 p0_text) := rfl
def zG_r_numeral (p0 : Nat) (f_p0 : List Value) (p0_text : Nat) (c_p0_text : ClassId) (b_p0_text : Nat → Int32) (a1 : Int32) (a2 : Int32) (at0 : Int32) (en : Int32) (tk : Int32) (siz : Int32) (fk : Int32) (r : Int32) (X : va_W → Prop) : Prop := ∃ (y_p0 : List Value) (at1 : Int32) (en1 : Int32) (tk1 : Int32) (fk1 : Int32), (a1.toInt ≤ r.toInt ∧ r.toInt ≤ a2.toInt) ∧ OKX9 y_p0 ∧ q_fr [4, 5, 6, 7, 8, 9, 10] f_p0 y_p0 ∧ q_if y_p0 6 at1 ∧ q_if y_p0 7 en1 ∧ q_if y_p0 8 tk1 ∧ q_if y_p0 4 fk1 ∧ (en1.toInt ≤ siz.toInt ∧ at0.toInt ≤ at1.toInt ∧ at1.toInt ≤ en1.toInt ∧ (tk1.toInt ≠ 3 ∨ at1.toInt < en1.toInt)) ∧ (fk.toInt = 0 ∨ 1 ≤ fk1.toInt) ∧ X (zW_r_numeral p0 y_p0 p0_text c_p0_text b_p0_text)
theorem zm_r_numeral {p0 : Nat} {f_p0 : List Value} {p0_text : Nat} {c_p0_text : ClassId} {b_p0_text : Nat → Int32} {a1 : Int32} {a2 : Int32} {at0 : Int32} {en : Int32} {tk : Int32} {siz : Int32} {fk : Int32} : ∀ (r : Int32), ∀ X Y : va_W → Prop, (∀ w, X w → Y w) → zG_r_numeral p0 f_p0 p0_text c_p0_text b_p0_text a1 a2 at0 en tk siz fk r X → zG_r_numeral p0 f_p0 p0_text c_p0_text b_p0_text a1 a2 at0 en tk siz fk r Y := fun r X Y h h1 => by obtain ⟨x0, x1, x2, x3, x4, x5, x6, x7, x8, x9, x10, x11, x12, x13, hx⟩ := h1; exact ⟨x0, x1, x2, x3, x4, x5, x6, x7, x8, x9, x10, x11, x12, x13, h _ hx⟩
set_option maxHeartbeats 4000000 in
set_option maxRecDepth 100000 in
theorem r_numeral (l : Launch) (dC : Nat → ClassId) (dI : Nat → Nat → Nat) (sz : Nat) (p0 : Nat) (f_p0 : List Value) (p0_text : Nat) (c_p0_text : ClassId) (b_p0_text : Nat → Int32) (a1 : Int32) (a2 : Int32) (at0 : Int32) (en : Int32) (tk : Int32) (siz : Int32) (fk : Int32) (ho_p0 : OKX9 f_p0) (fr_p0_1 : q_rf f_p0 1 p0_text) (pf_at0 : q_if f_p0 6 at0) (pf_en : q_if f_p0 7 en) (pf_tk : q_if f_p0 8 tk) (pf_siz : q_if f_p0 3 siz) (pf_fk : q_if f_p0 4 fk) (hR : en.toInt ≤ siz.toInt ∧ at0.toInt ≤ en.toInt ∧ (tk.toInt ≠ 3 ∨ at0.toInt < en.toInt)) (hlm : a1.toInt ≤ a2.toInt) : Met l yX9_numeral zw_r_numeral ({ frames := 2, cells := 0, slots := 0, locals := 44 }) (va_Pc [.ref p0, .int a1, .int a2] (q_pre (dC, dI) (zW_r_numeral p0 f_p0 p0_text c_p0_text b_p0_text) (zT_r_numeral c_p0_text) q_E0 sz)) (q_Qi (dC, dI) (zG_r_numeral p0 f_p0 p0_text c_p0_text b_p0_text a1 a2 at0 en tk siz fk) (zA_r_numeral p0 p0_text) (va_A (zW_r_numeral p0 f_p0 p0_text c_p0_text b_p0_text) sz)) 0 0 (va_A (zW_r_numeral p0 f_p0 p0_text c_p0_text b_p0_text) sz) := by
  refine Met.ofW (cc := cX9_numeral) (maxL := 4) (ret := (some .int)) (by decide) rfl ?_
  intro p e s m args below meth c s₁ B hml hv
  obtain ⟨rfl, hsz, hP, hK, hD0, hE⟩ := hv
  have hx := B.exec
  have hb := B.bytes
  have hr := B.returns
  have hts := atoms_spec (ws := zw_r_numeral) B.pre
  have hown : s.vm.findClass RX9 = some m.cls := findClass_of_methodNamed B.named
  have hlocks := B.notSynchronized
  subst hsz
  have hD := hD0.self (sz := s.heap.size)
  generalize hAe : va_A (zW_r_numeral p0 f_p0 p0_text c_p0_text b_p0_text) s.heap.size = A at hD hE ⊢
  have hA : ∀ q : Nat, s.heap.size ≤ q → A q := fun q h => by rw [← hAe]; exact Or.inr h
  have hDa : q_DA A (zA_r_numeral p0 p0_text) := q_DA.mk hD za_r_numeral
  clear hAe hD0 hD
  have hS : va_S A s.heap s.heap [] := va_S.rf
  have m_0 : (.methodLink RX9 258 yX9_isGood : Cond) ∈ zw_r_numeral := List.mem_append_left _ (List.mem_of_getElem? (i := 1) rfl)
  have k_0 := hts _ m_0
  have m_1 : (.instanceMethod yX9_isGood : Cond) ∈ zw_r_numeral := List.mem_append_left _ (List.mem_of_getElem? (i := 2) rfl)
  have k_1 := hts _ m_1
  have m_2 : (.selects RX9 yX9_isGood yX9_isGood : Cond) ∈ zw_r_numeral := List.mem_append_left _ (List.mem_of_getElem? (i := 3) rfl)
  have k_2 := hts _ m_2
  have m_3 : (.initialized RX9 : Cond) ∈ zw_r_numeral := List.mem_append_left _ (List.mem_of_getElem? (i := 4) rfl)
  have k_3 := hts _ m_3
  have m_4 : (.fieldLink RX9 230 "BowWalkModel" "token" "I" : Cond) ∈ zw_r_numeral := List.mem_append_left _ (List.mem_of_getElem? (i := 5) rfl)
  have k_4 := hts _ m_4
  have m_5 : (.fieldLink RX9 248 "BowWalkModel" "number" "I" : Cond) ∈ zw_r_numeral := List.mem_append_left _ (List.mem_of_getElem? (i := 6) rfl)
  have k_5 := hts _ m_5
  have m_6 : (.fieldLink RX9 223 "BowWalkModel" "at" "I" : Cond) ∈ zw_r_numeral := List.mem_append_left _ (List.mem_of_getElem? (i := 7) rfl)
  have k_6 := hts _ m_6
  have m_7 : (.methodLink RX9 254 yX9_fails : Cond) ∈ zw_r_numeral := List.mem_append_left _ (List.mem_of_getElem? (i := 8) rfl)
  have k_7 := hts _ m_7
  have m_8 : (.instanceMethod yX9_fails : Cond) ∈ zw_r_numeral := List.mem_append_left _ (List.mem_of_getElem? (i := 9) rfl)
  have k_8 := hts _ m_8
  have m_9 : (.selects RX9 yX9_fails yX9_fails : Cond) ∈ zw_r_numeral := List.mem_append_left _ (List.mem_of_getElem? (i := 10) rfl)
  have k_9 := hts _ m_9
  have m_10 : (.methodLink RX9 262 yX9_goOn : Cond) ∈ zw_r_numeral := List.mem_append_left _ (List.mem_of_getElem? (i := 11) rfl)
  have k_10 := hts _ m_10
  have m_11 : (.instanceMethod yX9_goOn : Cond) ∈ zw_r_numeral := List.mem_append_left _ (List.mem_of_getElem? (i := 12) rfl)
  have k_11 := hts _ m_11
  have m_12 : (.selects RX9 yX9_goOn yX9_goOn : Cond) ∈ zw_r_numeral := List.mem_append_left _ (List.mem_of_getElem? (i := 13) rfl)
  have k_12 := hts _ m_12
  have m_13 : (.methodLink RX9 265 yX9_misplaced : Cond) ∈ zw_r_numeral := List.mem_append_left _ (List.mem_of_getElem? (i := 14) rfl)
  have k_13 := hts _ m_13
  have m_14 : (.instanceMethod yX9_misplaced : Cond) ∈ zw_r_numeral := List.mem_append_left _ (List.mem_of_getElem? (i := 15) rfl)
  have k_14 := hts _ m_14
  have m_15 : (.selects RX9 yX9_misplaced yX9_misplaced : Cond) ∈ zw_r_numeral := List.mem_append_left _ (List.mem_of_getElem? (i := 16) rfl)
  have k_15 := hts _ m_15
  have g_r_isGood : ∀ w ∈ zw_r_isGood, w ∈ zw_r_numeral := fun w h => List.mem_append_right _ (List.mem_append_left _ h)
  have g_r_fails : ∀ w ∈ zw_r_fails, w ∈ zw_r_numeral := fun w h => List.mem_append_right _ (List.mem_append_right _ (List.mem_append_left _ h))
  have g_r_goOn : ∀ w ∈ zw_r_goOn, w ∈ zw_r_numeral := fun w h => List.mem_append_right _ (List.mem_append_right _ (List.mem_append_right _ (List.mem_append_left _ h)))
  have g_r_misplaced : ∀ w ∈ zw_r_misplaced, w ∈ zw_r_numeral := fun w h => List.mem_append_right _ (List.mem_append_right _ (List.mem_append_right _ (List.mem_append_right _ (List.mem_append_left _ h))))
  have i_X9 : ∀ w ∈ u_ws RX9 TX9 81, w ∈ zw_r_numeral := fun w h => List.mem_append_right _ (List.mem_append_right _ (List.mem_append_right _ (List.mem_append_right _ (List.mem_append_right _ (List.mem_append_left _ h)))))
  have lt_0 : (0 : Int32).toInt = 0 := by decide
  have lt_1 : (1 : Int32).toInt = 1 := by decide
  have lt_4 : (4 : Int32).toInt = 4 := by decide
  have hl := lv_entry ([.ref p0, .int a1, .int a2]) (n := 4) (Nat.le_of_ble_eq_true rfl)
  rw [lg_entry_eq]
  generalize (lg_sl ([.ref p0, .int a1, .int a2]) ++ List.replicate (4 - (lg_sl ([.ref p0, .int a1, .int a2])).length) Slot.unset).toArray = ls at hl ⊢
  have hl : lv_has ls 4 [(0, .ref p0), (1, .int a1), (2, .int a2)] := hl
  have tat0 := (OKX9_g6 ho_p0).use pf_at0
  have ten := (OKX9_g7 ho_p0).use pf_en
  have ttk := (OKX9_g8 ho_p0).use pf_tk
  have tsiz := (OKX9_g3 ho_p0).use pf_siz
  have tfk := (OKX9_g4 ho_p0).use pf_fk
  refine lv_aload_n hx hb dX9_numeral_0 rfl (lv_at hl 0 rfl) ?_
  refine q_cVi (As := []) (rest := []) q_w0 trivial hK hP hDa za_r_numeral hS hA [0] [] (by decide +kernel) ⟨hx, hb, hml, hown, hts⟩ (r_isGood l dC dI s.heap.size p0 f_p0 fk ho_p0 pf_fk) rfl rfl (cwV 0 hts (p1_gV m_0 m_1 m_2 m_3 g_r_isGood gz_r_isGood) rfl rfl rfl (by decide +kernel) ⟨by decide, by decide⟩) (va_recv hK hP (ci := 8) (q0 := 0) rfl rfl) zm_r_isGood rfl hl.1 rfl (Nat.le_of_ble_eq_true rfl) dX9_numeral_1 ⟨by decide, by decide⟩ (fun r_1 H2 lo2 hG2 hS2 => ?_)
  obtain ⟨z_3, hQ2⟩ := hG2
  have hP2 : va_P (dC, dI) vwCl (zW_r_numeral p0 f_p0 p0_text c_p0_text b_p0_text) H2 := hQ2
  clear hQ2 hP hS
  rcases z_3 with ⟨rfl, z_3⟩ | ⟨rfl, z_3⟩
  · refine lv_if_ne (tgt := 9) hx hb dX9_numeral_4 (by decide) (fun c_4 => ?_) (fun c_4 => absurd c_4 (by decide))
    refine lv_aload_n hx hb dX9_numeral_9 rfl (lv_at hl 0 rfl) (qg_X9_8 hx hb hts i_X9 hown hK hP2 0 rfl k_4 pf_tk dX9_numeral_10 (lv_iconst (v := 4) hx hb dX9_numeral_13 (by decide) ?_))
    refine lv_icmp_eq (tgt := 21) hx hb dX9_numeral_14 (by decide) (fun c_5 => ?_) (fun c_5 => ?_)
    · have tc_5 := q_eq c_5
      refine lv_aload_n hx hb dX9_numeral_21 rfl (lv_at hl 0 rfl) ?_
      refine q_cVi (As := []) (rest := []) q_w0 trivial hK hP2 hDa za_r_numeral hS2 hA [0] [] (by decide +kernel) ⟨hx, hb, hml, hown, hts⟩ (r_isGood l dC dI H2.size p0 f_p0 fk ho_p0 pf_fk) rfl rfl (cwV 0 hts (p1_gV m_0 m_1 m_2 m_3 g_r_isGood gz_r_isGood) rfl rfl rfl (by decide +kernel) ⟨by decide, by decide⟩) (va_recv hK hP2 (ci := 8) (q0 := 0) rfl rfl) zm_r_isGood rfl hl.1 rfl (Nat.le_of_ble_eq_true rfl) dX9_numeral_22 ⟨by decide, by decide⟩ (fun r_6 H7 lo7 hG7 hS7 => ?_)
      obtain ⟨z_8, hQ7⟩ := hG7
      have hP7 : va_P (dC, dI) vwCl (zW_r_numeral p0 f_p0 p0_text c_p0_text b_p0_text) H7 := hQ7
      clear hQ7 hP2 hS2
      rcases z_8 with ⟨rfl, z_8⟩ | ⟨rfl, z_8⟩
      · refine lv_if_eq (tgt := 53) hx hb dX9_numeral_25 (by decide) (fun c_9 => absurd c_9 (by decide)) (fun c_9 => ?_)
        refine lv_aload_n hx hb dX9_numeral_28 rfl (lv_at hl 0 rfl) ?_
        obtain ⟨v_10, fv_10⟩ := OKX9_g9 ho_p0
        refine qg_X9_9 hx hb hts i_X9 hown hK hP7 0 rfl k_5 fv_10 dX9_numeral_29 (lv_iload_n hx hb dX9_numeral_32 rfl (lv_at hl 1 rfl) ?_)
        refine lv_icmp_lt (tgt := 44) hx hb dX9_numeral_33 (by decide) (fun c_11 => ?_) (fun c_11 => ?_)
        · have tc_11 := q_lt c_11
          refine lv_aload_n hx hb dX9_numeral_44 rfl (lv_at hl 0 rfl) (lv_iconst (v := 4) hx hb dX9_numeral_45 (by decide) (lv_aload_n hx hb dX9_numeral_46 rfl (lv_at hl 0 rfl) (qg_X9_6 hx hb hts i_X9 hown hK hP7 0 rfl k_6 pf_at0 dX9_numeral_47 ?_)))
          refine q_cVv (As := [.int 4, .int at0]) (rest := []) q_w0 trivial hK hP7 hDa za_r_numeral hS7 hA [0] [] (by decide +kernel) ⟨hx, hb, hml, hown, hts⟩ (r_fails l dC dI H7.size p0 f_p0 4 at0 ho_p0 ((by omega))) rfl rfl (cwV 2 hts (p1_gV m_7 m_8 m_9 m_3 g_r_fails gz_r_fails) rfl rfl rfl (by decide +kernel) ⟨by decide, by decide⟩) (va_recv hK hP7 (ci := 8) (q0 := 0) rfl rfl) zm_r_fails rfl hl.1 rfl (Nat.le_of_ble_eq_true rfl) dX9_numeral_50 ⟨by decide, by decide⟩ (fun H13 lo13 hG13 hS13 => ?_)
          obtain ⟨o_14, o_15, ho_16, hf_17, z_18, z_19, hQ13⟩ := hG13
          have to_15 := (OKX9_g4 ho_16).use z_18
          have hP13 : va_P (dC, dI) vwCl (zW_r_numeral p0 o_14 p0_text c_p0_text b_p0_text) H13 := hQ13
          clear hQ13 hP7 hS7
          refine lv_aload_n hx hb dX9_numeral_53 rfl (lv_at hl 0 rfl) (qg_X9_9 hx hb hts i_X9 hown hK hP13 0 rfl k_5 (hf_17.u (by decide) fv_10) dX9_numeral_54 (lv_istore_n (lv' := [(3, .int v_10), (0, .ref p0), (1, .int a1), (2, .int a2)]) hx hb dX9_numeral_57 rfl hl (by decide) rfl (fun ls hl => ?_)))
          refine lv_aload_n hx hb dX9_numeral_58 rfl (lv_at hl 1 rfl) ?_
          refine q_cVi (As := []) (rest := []) q_w0 trivial hK hP13 hDa za_r_numeral hS13 hA [0] [] (by decide +kernel) ⟨hx, hb, hml, hown, hts⟩ (r_isGood l dC dI H13.size p0 o_14 o_15 ho_16 z_18) rfl rfl (cwV 0 hts (p1_gV m_0 m_1 m_2 m_3 g_r_isGood gz_r_isGood) rfl rfl rfl (by decide +kernel) ⟨by decide, by decide⟩) (va_recv hK hP13 (ci := 8) (q0 := 0) rfl rfl) zm_r_isGood rfl hl.1 rfl (Nat.le_of_ble_eq_true rfl) dX9_numeral_59 ⟨by decide, by decide⟩ (fun r_20 H21 lo21 hG21 hS21 => ?_)
          obtain ⟨z_22, hQ21⟩ := hG21
          have hP21 : va_P (dC, dI) vwCl (zW_r_numeral p0 o_14 p0_text c_p0_text b_p0_text) H21 := hQ21
          clear hQ21 hP13 hS13
          rcases z_22 with ⟨rfl, z_22⟩ | ⟨rfl, z_22⟩
          · exfalso; omega
          · refine lv_if_eq (tgt := 69) hx hb dX9_numeral_62 (by decide) (fun c_23 => ?_) (fun c_23 => absurd c_23 (by decide))
            refine lv_aload_n hx hb dX9_numeral_69 rfl (lv_at hl 1 rfl) ?_
            refine q_cVi (As := []) (rest := []) q_w0 trivial hK hP21 hDa za_r_numeral hS21 hA [0] [] (by decide +kernel) ⟨hx, hb, hml, hown, hts⟩ (r_isGood l dC dI H21.size p0 o_14 o_15 ho_16 z_18) rfl rfl (cwV 0 hts (p1_gV m_0 m_1 m_2 m_3 g_r_isGood gz_r_isGood) rfl rfl rfl (by decide +kernel) ⟨by decide, by decide⟩) (va_recv hK hP21 (ci := 8) (q0 := 0) rfl rfl) zm_r_isGood rfl hl.1 rfl (Nat.le_of_ble_eq_true rfl) dX9_numeral_70 ⟨by decide, by decide⟩ (fun r_24 H25 lo25 hG25 hS25 => ?_)
            obtain ⟨z_26, hQ25⟩ := hG25
            have hP25 : va_P (dC, dI) vwCl (zW_r_numeral p0 o_14 p0_text c_p0_text b_p0_text) H25 := hQ25
            clear hQ25 hP21 hS21
            rcases z_26 with ⟨rfl, z_26⟩ | ⟨rfl, z_26⟩
            · exfalso; omega
            · refine lv_if_eq (tgt := 80) hx hb dX9_numeral_73 (by decide) (fun c_27 => ?_) (fun c_27 => absurd c_27 (by decide))
              refine lv_iload_n hx hb dX9_numeral_80 rfl (lv_at hl 2 rfl) ?_
              exact q_iret hx hb hr hlocks hS25 dX9_numeral_81 ⟨o_14, at0, en, tk, o_15, (by omega), ho_16, (q_fr.rf.tr hf_17 (by decide)), (hf_17.u (by decide) pf_at0), (hf_17.u (by decide) pf_en), (hf_17.u (by decide) pf_tk), z_18, (by omega), (by omega), hP25, za_r_numeral⟩
        · have tc_11 := q_geN c_11
          refine lv_aload_n hx hb dX9_numeral_36 rfl (lv_at hl 0 rfl) (qg_X9_9 hx hb hts i_X9 hown hK hP7 0 rfl k_5 fv_10 dX9_numeral_37 (lv_iload_n hx hb dX9_numeral_40 rfl (lv_at hl 2 rfl) ?_))
          refine lv_icmp_le (tgt := 53) hx hb dX9_numeral_41 (by decide) (fun c_28 => ?_) (fun c_28 => ?_)
          · have tc_28 := q_le c_28
            refine lv_aload_n hx hb dX9_numeral_53 rfl (lv_at hl 0 rfl) (qg_X9_9 hx hb hts i_X9 hown hK hP7 0 rfl k_5 fv_10 dX9_numeral_54 (lv_istore_n (lv' := [(3, .int v_10), (0, .ref p0), (1, .int a1), (2, .int a2)]) hx hb dX9_numeral_57 rfl hl (by decide) rfl (fun ls hl => ?_)))
            refine lv_aload_n hx hb dX9_numeral_58 rfl (lv_at hl 1 rfl) ?_
            refine q_cVi (As := []) (rest := []) q_w0 trivial hK hP7 hDa za_r_numeral hS7 hA [0] [] (by decide +kernel) ⟨hx, hb, hml, hown, hts⟩ (r_isGood l dC dI H7.size p0 f_p0 fk ho_p0 pf_fk) rfl rfl (cwV 0 hts (p1_gV m_0 m_1 m_2 m_3 g_r_isGood gz_r_isGood) rfl rfl rfl (by decide +kernel) ⟨by decide, by decide⟩) (va_recv hK hP7 (ci := 8) (q0 := 0) rfl rfl) zm_r_isGood rfl hl.1 rfl (Nat.le_of_ble_eq_true rfl) dX9_numeral_59 ⟨by decide, by decide⟩ (fun r_29 H30 lo30 hG30 hS30 => ?_)
            obtain ⟨z_31, hQ30⟩ := hG30
            have hP30 : va_P (dC, dI) vwCl (zW_r_numeral p0 f_p0 p0_text c_p0_text b_p0_text) H30 := hQ30
            clear hQ30 hP7 hS7
            rcases z_31 with ⟨rfl, z_31⟩ | ⟨rfl, z_31⟩
            · refine lv_if_eq (tgt := 69) hx hb dX9_numeral_62 (by decide) (fun c_32 => absurd c_32 (by decide)) (fun c_32 => ?_)
              refine lv_aload_n hx hb dX9_numeral_65 rfl (lv_at hl 1 rfl) ?_
              refine q_cVv (As := []) (rest := []) q_w0 trivial hK hP30 hDa za_r_numeral hS30 hA [0, 1] [0] (by decide +kernel) ⟨hx, hb, hml, hown, hts⟩ (r_goOn l dC dI H30.size p0 f_p0 p0_text c_p0_text b_p0_text en siz ho_p0 fr_p0_1 pf_en pf_siz ((by omega))) rfl rfl (cwV 0 hts (p1_gV m_10 m_11 m_12 m_3 g_r_goOn gz_r_goOn) rfl rfl rfl (by decide +kernel) ⟨by decide, by decide⟩) (va_recv hK hP30 (ci := 8) (q0 := 0) rfl rfl) zm_r_goOn rfl hl.1 rfl (Nat.le_of_ble_eq_true rfl) dX9_numeral_66 ⟨by decide, by decide⟩ (fun H34 lo34 hG34 hS34 => ?_)
              obtain ⟨o_35, o_36, o_37, o_38, ho_39, hf_40, z_41, z_42, z_43, z_44, hQ34⟩ := hG34
              have to_36 := (OKX9_g6 ho_39).use z_41
              have to_37 := (OKX9_g7 ho_39).use z_42
              have to_38 := (OKX9_g8 ho_39).use z_43
              have hP34 : va_P (dC, dI) vwCl (zW_r_numeral p0 o_35 p0_text c_p0_text b_p0_text) H34 := hQ34
              clear hQ34 hP30 hS30
              refine lv_aload_n hx hb dX9_numeral_69 rfl (lv_at hl 1 rfl) ?_
              refine q_cVi (As := []) (rest := []) q_w0 trivial hK hP34 hDa za_r_numeral hS34 hA [0] [] (by decide +kernel) ⟨hx, hb, hml, hown, hts⟩ (r_isGood l dC dI H34.size p0 o_35 fk ho_39 ((hf_40.u (by decide) pf_fk))) rfl rfl (cwV 0 hts (p1_gV m_0 m_1 m_2 m_3 g_r_isGood gz_r_isGood) rfl rfl rfl (by decide +kernel) ⟨by decide, by decide⟩) (va_recv hK hP34 (ci := 8) (q0 := 0) rfl rfl) zm_r_isGood rfl hl.1 rfl (Nat.le_of_ble_eq_true rfl) dX9_numeral_70 ⟨by decide, by decide⟩ (fun r_45 H46 lo46 hG46 hS46 => ?_)
              obtain ⟨z_47, hQ46⟩ := hG46
              have hP46 : va_P (dC, dI) vwCl (zW_r_numeral p0 o_35 p0_text c_p0_text b_p0_text) H46 := hQ46
              clear hQ46 hP34 hS34
              rcases z_47 with ⟨rfl, z_47⟩ | ⟨rfl, z_47⟩
              · refine lv_if_eq (tgt := 80) hx hb dX9_numeral_73 (by decide) (fun c_48 => absurd c_48 (by decide)) (fun c_48 => ?_)
                refine lv_iload_n hx hb dX9_numeral_76 rfl (lv_at hl 0 rfl) (lv_goto (tgt := 81) hx hb dX9_numeral_77 (by decide) ?_)
                exact q_iret hx hb hr hlocks hS46 dX9_numeral_81 ⟨o_35, o_36, o_37, o_38, fk, (by omega), ho_39, (q_fr.rf.tr hf_40 (by decide)), z_41, z_42, z_43, (hf_40.u (by decide) pf_fk), (by omega), (by omega), hP46, za_r_numeral⟩
              · exfalso; omega
            · exfalso; omega
          · have tc_28 := q_gtN c_28
            refine lv_aload_n hx hb dX9_numeral_44 rfl (lv_at hl 0 rfl) (lv_iconst (v := 4) hx hb dX9_numeral_45 (by decide) (lv_aload_n hx hb dX9_numeral_46 rfl (lv_at hl 0 rfl) (qg_X9_6 hx hb hts i_X9 hown hK hP7 0 rfl k_6 pf_at0 dX9_numeral_47 ?_)))
            refine q_cVv (As := [.int 4, .int at0]) (rest := []) q_w0 trivial hK hP7 hDa za_r_numeral hS7 hA [0] [] (by decide +kernel) ⟨hx, hb, hml, hown, hts⟩ (r_fails l dC dI H7.size p0 f_p0 4 at0 ho_p0 ((by omega))) rfl rfl (cwV 2 hts (p1_gV m_7 m_8 m_9 m_3 g_r_fails gz_r_fails) rfl rfl rfl (by decide +kernel) ⟨by decide, by decide⟩) (va_recv hK hP7 (ci := 8) (q0 := 0) rfl rfl) zm_r_fails rfl hl.1 rfl (Nat.le_of_ble_eq_true rfl) dX9_numeral_50 ⟨by decide, by decide⟩ (fun H50 lo50 hG50 hS50 => ?_)
            obtain ⟨o_51, o_52, ho_53, hf_54, z_55, z_56, hQ50⟩ := hG50
            have to_52 := (OKX9_g4 ho_53).use z_55
            have hP50 : va_P (dC, dI) vwCl (zW_r_numeral p0 o_51 p0_text c_p0_text b_p0_text) H50 := hQ50
            clear hQ50 hP7 hS7
            refine lv_aload_n hx hb dX9_numeral_53 rfl (lv_at hl 0 rfl) (qg_X9_9 hx hb hts i_X9 hown hK hP50 0 rfl k_5 (hf_54.u (by decide) fv_10) dX9_numeral_54 (lv_istore_n (lv' := [(3, .int v_10), (0, .ref p0), (1, .int a1), (2, .int a2)]) hx hb dX9_numeral_57 rfl hl (by decide) rfl (fun ls hl => ?_)))
            refine lv_aload_n hx hb dX9_numeral_58 rfl (lv_at hl 1 rfl) ?_
            refine q_cVi (As := []) (rest := []) q_w0 trivial hK hP50 hDa za_r_numeral hS50 hA [0] [] (by decide +kernel) ⟨hx, hb, hml, hown, hts⟩ (r_isGood l dC dI H50.size p0 o_51 o_52 ho_53 z_55) rfl rfl (cwV 0 hts (p1_gV m_0 m_1 m_2 m_3 g_r_isGood gz_r_isGood) rfl rfl rfl (by decide +kernel) ⟨by decide, by decide⟩) (va_recv hK hP50 (ci := 8) (q0 := 0) rfl rfl) zm_r_isGood rfl hl.1 rfl (Nat.le_of_ble_eq_true rfl) dX9_numeral_59 ⟨by decide, by decide⟩ (fun r_57 H58 lo58 hG58 hS58 => ?_)
            obtain ⟨z_59, hQ58⟩ := hG58
            have hP58 : va_P (dC, dI) vwCl (zW_r_numeral p0 o_51 p0_text c_p0_text b_p0_text) H58 := hQ58
            clear hQ58 hP50 hS50
            rcases z_59 with ⟨rfl, z_59⟩ | ⟨rfl, z_59⟩
            · exfalso; omega
            · refine lv_if_eq (tgt := 69) hx hb dX9_numeral_62 (by decide) (fun c_60 => ?_) (fun c_60 => absurd c_60 (by decide))
              refine lv_aload_n hx hb dX9_numeral_69 rfl (lv_at hl 1 rfl) ?_
              refine q_cVi (As := []) (rest := []) q_w0 trivial hK hP58 hDa za_r_numeral hS58 hA [0] [] (by decide +kernel) ⟨hx, hb, hml, hown, hts⟩ (r_isGood l dC dI H58.size p0 o_51 o_52 ho_53 z_55) rfl rfl (cwV 0 hts (p1_gV m_0 m_1 m_2 m_3 g_r_isGood gz_r_isGood) rfl rfl rfl (by decide +kernel) ⟨by decide, by decide⟩) (va_recv hK hP58 (ci := 8) (q0 := 0) rfl rfl) zm_r_isGood rfl hl.1 rfl (Nat.le_of_ble_eq_true rfl) dX9_numeral_70 ⟨by decide, by decide⟩ (fun r_61 H62 lo62 hG62 hS62 => ?_)
              obtain ⟨z_63, hQ62⟩ := hG62
              have hP62 : va_P (dC, dI) vwCl (zW_r_numeral p0 o_51 p0_text c_p0_text b_p0_text) H62 := hQ62
              clear hQ62 hP58 hS58
              rcases z_63 with ⟨rfl, z_63⟩ | ⟨rfl, z_63⟩
              · exfalso; omega
              · refine lv_if_eq (tgt := 80) hx hb dX9_numeral_73 (by decide) (fun c_64 => ?_) (fun c_64 => absurd c_64 (by decide))
                refine lv_iload_n hx hb dX9_numeral_80 rfl (lv_at hl 2 rfl) ?_
                exact q_iret hx hb hr hlocks hS62 dX9_numeral_81 ⟨o_51, at0, en, tk, o_52, (by omega), ho_53, (q_fr.rf.tr hf_54 (by decide)), (hf_54.u (by decide) pf_at0), (hf_54.u (by decide) pf_en), (hf_54.u (by decide) pf_tk), z_55, (by omega), (by omega), hP62, za_r_numeral⟩
      · exfalso; omega
    · have tc_5 := q_neN c_5
      refine lv_aload_n hx hb dX9_numeral_17 rfl (lv_at hl 0 rfl) ?_
      refine q_cVv (As := []) (rest := []) q_w0 trivial hK hP2 hDa za_r_numeral hS2 hA [0] [] (by decide +kernel) ⟨hx, hb, hml, hown, hts⟩ (r_misplaced l dC dI H2.size p0 f_p0 ho_p0) rfl rfl (cwV 0 hts (p1_gV m_13 m_14 m_15 m_3 g_r_misplaced gz_r_misplaced) rfl rfl rfl (by decide +kernel) ⟨by decide, by decide⟩) (va_recv hK hP2 (ci := 8) (q0 := 0) rfl rfl) zm_r_misplaced rfl hl.1 rfl (Nat.le_of_ble_eq_true rfl) dX9_numeral_18 ⟨by decide, by decide⟩ (fun H66 lo66 hG66 hS66 => ?_)
      obtain ⟨o_67, o_68, ho_69, hf_70, z_71, z_72, hQ66⟩ := hG66
      have to_68 := (OKX9_g4 ho_69).use z_71
      have hP66 : va_P (dC, dI) vwCl (zW_r_numeral p0 o_67 p0_text c_p0_text b_p0_text) H66 := hQ66
      clear hQ66 hP2 hS2
      refine lv_aload_n hx hb dX9_numeral_21 rfl (lv_at hl 0 rfl) ?_
      refine q_cVi (As := []) (rest := []) q_w0 trivial hK hP66 hDa za_r_numeral hS66 hA [0] [] (by decide +kernel) ⟨hx, hb, hml, hown, hts⟩ (r_isGood l dC dI H66.size p0 o_67 o_68 ho_69 z_71) rfl rfl (cwV 0 hts (p1_gV m_0 m_1 m_2 m_3 g_r_isGood gz_r_isGood) rfl rfl rfl (by decide +kernel) ⟨by decide, by decide⟩) (va_recv hK hP66 (ci := 8) (q0 := 0) rfl rfl) zm_r_isGood rfl hl.1 rfl (Nat.le_of_ble_eq_true rfl) dX9_numeral_22 ⟨by decide, by decide⟩ (fun r_73 H74 lo74 hG74 hS74 => ?_)
      obtain ⟨z_75, hQ74⟩ := hG74
      have hP74 : va_P (dC, dI) vwCl (zW_r_numeral p0 o_67 p0_text c_p0_text b_p0_text) H74 := hQ74
      clear hQ74 hP66 hS66
      rcases z_75 with ⟨rfl, z_75⟩ | ⟨rfl, z_75⟩
      · exfalso; omega
      · refine lv_if_eq (tgt := 53) hx hb dX9_numeral_25 (by decide) (fun c_76 => ?_) (fun c_76 => absurd c_76 (by decide))
        refine lv_aload_n hx hb dX9_numeral_53 rfl (lv_at hl 0 rfl) ?_
        obtain ⟨v_77, fv_77⟩ := OKX9_g9 ho_69
        refine qg_X9_9 hx hb hts i_X9 hown hK hP74 0 rfl k_5 fv_77 dX9_numeral_54 (lv_istore_n (lv' := [(3, .int v_77), (0, .ref p0), (1, .int a1), (2, .int a2)]) hx hb dX9_numeral_57 rfl hl (by decide) rfl (fun ls hl => ?_))
        refine lv_aload_n hx hb dX9_numeral_58 rfl (lv_at hl 1 rfl) ?_
        refine q_cVi (As := []) (rest := []) q_w0 trivial hK hP74 hDa za_r_numeral hS74 hA [0] [] (by decide +kernel) ⟨hx, hb, hml, hown, hts⟩ (r_isGood l dC dI H74.size p0 o_67 o_68 ho_69 z_71) rfl rfl (cwV 0 hts (p1_gV m_0 m_1 m_2 m_3 g_r_isGood gz_r_isGood) rfl rfl rfl (by decide +kernel) ⟨by decide, by decide⟩) (va_recv hK hP74 (ci := 8) (q0 := 0) rfl rfl) zm_r_isGood rfl hl.1 rfl (Nat.le_of_ble_eq_true rfl) dX9_numeral_59 ⟨by decide, by decide⟩ (fun r_78 H79 lo79 hG79 hS79 => ?_)
        obtain ⟨z_80, hQ79⟩ := hG79
        have hP79 : va_P (dC, dI) vwCl (zW_r_numeral p0 o_67 p0_text c_p0_text b_p0_text) H79 := hQ79
        clear hQ79 hP74 hS74
        rcases z_80 with ⟨rfl, z_80⟩ | ⟨rfl, z_80⟩
        · exfalso; omega
        · refine lv_if_eq (tgt := 69) hx hb dX9_numeral_62 (by decide) (fun c_81 => ?_) (fun c_81 => absurd c_81 (by decide))
          refine lv_aload_n hx hb dX9_numeral_69 rfl (lv_at hl 1 rfl) ?_
          refine q_cVi (As := []) (rest := []) q_w0 trivial hK hP79 hDa za_r_numeral hS79 hA [0] [] (by decide +kernel) ⟨hx, hb, hml, hown, hts⟩ (r_isGood l dC dI H79.size p0 o_67 o_68 ho_69 z_71) rfl rfl (cwV 0 hts (p1_gV m_0 m_1 m_2 m_3 g_r_isGood gz_r_isGood) rfl rfl rfl (by decide +kernel) ⟨by decide, by decide⟩) (va_recv hK hP79 (ci := 8) (q0 := 0) rfl rfl) zm_r_isGood rfl hl.1 rfl (Nat.le_of_ble_eq_true rfl) dX9_numeral_70 ⟨by decide, by decide⟩ (fun r_82 H83 lo83 hG83 hS83 => ?_)
          obtain ⟨z_84, hQ83⟩ := hG83
          have hP83 : va_P (dC, dI) vwCl (zW_r_numeral p0 o_67 p0_text c_p0_text b_p0_text) H83 := hQ83
          clear hQ83 hP79 hS79
          rcases z_84 with ⟨rfl, z_84⟩ | ⟨rfl, z_84⟩
          · exfalso; omega
          · refine lv_if_eq (tgt := 80) hx hb dX9_numeral_73 (by decide) (fun c_85 => ?_) (fun c_85 => absurd c_85 (by decide))
            refine lv_iload_n hx hb dX9_numeral_80 rfl (lv_at hl 2 rfl) ?_
            exact q_iret hx hb hr hlocks hS83 dX9_numeral_81 ⟨o_67, at0, en, tk, o_68, (by omega), ho_69, (q_fr.rf.tr hf_70 (by decide)), (hf_70.u (by decide) pf_at0), (hf_70.u (by decide) pf_en), (hf_70.u (by decide) pf_tk), z_71, (by omega), (by omega), hP83, za_r_numeral⟩
  · refine lv_if_ne (tgt := 9) hx hb dX9_numeral_4 (by decide) (fun c_86 => absurd c_86 (by decide)) (fun c_86 => ?_)
    refine lv_iload_n hx hb dX9_numeral_7 rfl (lv_at hl 1 rfl) ?_
    exact q_iret hx hb hr hlocks hS2 dX9_numeral_8 ⟨f_p0, at0, en, tk, fk, (by omega), ho_p0, q_fr.rf, pf_at0, pf_en, pf_tk, pf_fk, (by omega), (by omega), hP2, za_r_numeral⟩
def zo_r_after : List Cond := [.code yX9_after cX9_after 5 (some .int), .methodLink RX9 268 yX9_isWord, .instanceMethod yX9_isWord, .selects RX9 yX9_isWord yX9_isWord, .initialized RX9, .methodLink RX9 271 yX9_must, .instanceMethod yX9_must, .selects RX9 yX9_must yX9_must, .methodLink RX9 275 yX9_numeral, .instanceMethod yX9_numeral, .selects RX9 yX9_numeral yX9_numeral]
def zw_r_after : List Cond := zo_r_after ++ (zw_r_isWord ++ (zw_r_must ++ (zw_r_numeral ++ [])))
theorem gz_r_after : zw_r_after.all goodWord = true := p1_ga (by decide +kernel) (p1_ga gz_r_isWord (p1_ga gz_r_must (p1_ga gz_r_numeral p1_g0)))
theorem iz_r_after : ∀ w ∈ zw_r_after, w ∈ lw_tbl := p1_ia (p1_all [1370, 1339, 1341, 49, 116, 1371, 1373, 57, 1375, 1377, 58] (by decide +kernel)) (p1_ia iz_r_isWord (p1_ia iz_r_must (p1_ia iz_r_numeral p1_i0)))
def zW_r_after (p0 : Nat) (f_p0 : List Value) (p0_text : Nat) (c_p0_text : ClassId) (b_p0_text : Nat → Int32) : va_W := [(p0, .inr (8, f_p0)), (p0_text, .inl (c_p0_text, 1600, .inl b_p0_text))]
def zT_r_after (c_p0_text : ClassId) : List (ClassId × FieldType) := [(c_p0_text, .byte)]
def zA_r_after (p0 : Nat) (p0_text : Nat) : List Nat := [p0, p0_text]
theorem za_r_after {p0 : Nat} {f_p0 : List Value} {p0_text : Nat} {c_p0_text : ClassId} {b_p0_text : Nat → Int32} : (zW_r_after p0 f_p0 p0_text c_p0_text b_p0_text).map Prod.fst = (zA_r_after p0 p0_text) := rfl
def zG_r_after (p0 : Nat) (f_p0 : List Value) (p0_text : Nat) (c_p0_text : ClassId) (b_p0_text : Nat → Int32) (a1 : Int64) (a2 : Int32) (a3 : Int32) (at0 : Int32) (en : Int32) (tk : Int32) (siz : Int32) (fk : Int32) (r : Int32) (X : va_W → Prop) : Prop := ∃ (y_p0 : List Value) (at1 : Int32) (en1 : Int32) (tk1 : Int32) (fk1 : Int32), (a2.toInt ≤ r.toInt ∧ r.toInt ≤ a3.toInt) ∧ OKX9 y_p0 ∧ q_fr [4, 5, 6, 7, 8, 9, 10] f_p0 y_p0 ∧ q_if y_p0 6 at1 ∧ q_if y_p0 7 en1 ∧ q_if y_p0 8 tk1 ∧ q_if y_p0 4 fk1 ∧ (en1.toInt ≤ siz.toInt ∧ at0.toInt ≤ at1.toInt ∧ at1.toInt ≤ en1.toInt ∧ (tk1.toInt ≠ 3 ∨ at1.toInt < en1.toInt)) ∧ (fk.toInt = 0 ∨ 1 ≤ fk1.toInt) ∧ X (zW_r_after p0 y_p0 p0_text c_p0_text b_p0_text)
theorem zm_r_after {p0 : Nat} {f_p0 : List Value} {p0_text : Nat} {c_p0_text : ClassId} {b_p0_text : Nat → Int32} {a1 : Int64} {a2 : Int32} {a3 : Int32} {at0 : Int32} {en : Int32} {tk : Int32} {siz : Int32} {fk : Int32} : ∀ (r : Int32), ∀ X Y : va_W → Prop, (∀ w, X w → Y w) → zG_r_after p0 f_p0 p0_text c_p0_text b_p0_text a1 a2 a3 at0 en tk siz fk r X → zG_r_after p0 f_p0 p0_text c_p0_text b_p0_text a1 a2 a3 at0 en tk siz fk r Y := fun r X Y h h1 => by obtain ⟨x0, x1, x2, x3, x4, x5, x6, x7, x8, x9, x10, x11, x12, x13, hx⟩ := h1; exact ⟨x0, x1, x2, x3, x4, x5, x6, x7, x8, x9, x10, x11, x12, x13, h _ hx⟩
set_option maxHeartbeats 4000000 in
set_option maxRecDepth 100000 in
theorem r_after (l : Launch) (dC : Nat → ClassId) (dI : Nat → Nat → Nat) (sz : Nat) (p0 : Nat) (f_p0 : List Value) (p0_text : Nat) (c_p0_text : ClassId) (b_p0_text : Nat → Int32) (a1 : Int64) (a2 : Int32) (a3 : Int32) (at0 : Int32) (en : Int32) (tk : Int32) (siz : Int32) (fk : Int32) (ho_p0 : OKX9 f_p0) (fr_p0_1 : q_rf f_p0 1 p0_text) (pf_at0 : q_if f_p0 6 at0) (pf_en : q_if f_p0 7 en) (pf_tk : q_if f_p0 8 tk) (pf_siz : q_if f_p0 3 siz) (pf_fk : q_if f_p0 4 fk) (hR : en.toInt ≤ siz.toInt ∧ at0.toInt ≤ en.toInt ∧ (tk.toInt ≠ 3 ∨ at0.toInt < en.toInt)) (hlm : a2.toInt ≤ a3.toInt) : Met l yX9_after zw_r_after ({ frames := 3, cells := 0, slots := 0, locals := 67 }) (va_Pc [.ref p0, .long a1, .int a2, .int a3] (q_pre (dC, dI) (zW_r_after p0 f_p0 p0_text c_p0_text b_p0_text) (zT_r_after c_p0_text) q_E0 sz)) (q_Qi (dC, dI) (zG_r_after p0 f_p0 p0_text c_p0_text b_p0_text a1 a2 a3 at0 en tk siz fk) (zA_r_after p0 p0_text) (va_A (zW_r_after p0 f_p0 p0_text c_p0_text b_p0_text) sz)) 0 0 (va_A (zW_r_after p0 f_p0 p0_text c_p0_text b_p0_text) sz) := by
  refine Met.ofW (cc := cX9_after) (maxL := 5) (ret := (some .int)) (by decide) rfl ?_
  intro p e s m args below meth c s₁ B hml hv
  obtain ⟨rfl, hsz, hP, hK, hD0, hE⟩ := hv
  have hx := B.exec
  have hb := B.bytes
  have hr := B.returns
  have hts := atoms_spec (ws := zw_r_after) B.pre
  have hown : s.vm.findClass RX9 = some m.cls := findClass_of_methodNamed B.named
  have hlocks := B.notSynchronized
  subst hsz
  have hD := hD0.self (sz := s.heap.size)
  generalize hAe : va_A (zW_r_after p0 f_p0 p0_text c_p0_text b_p0_text) s.heap.size = A at hD hE ⊢
  have hA : ∀ q : Nat, s.heap.size ≤ q → A q := fun q h => by rw [← hAe]; exact Or.inr h
  have hDa : q_DA A (zA_r_after p0 p0_text) := q_DA.mk hD za_r_after
  clear hAe hD0 hD
  have hS : va_S A s.heap s.heap [] := va_S.rf
  have m_0 : (.methodLink RX9 268 yX9_isWord : Cond) ∈ zw_r_after := List.mem_append_left _ (List.mem_of_getElem? (i := 1) rfl)
  have k_0 := hts _ m_0
  have m_1 : (.instanceMethod yX9_isWord : Cond) ∈ zw_r_after := List.mem_append_left _ (List.mem_of_getElem? (i := 2) rfl)
  have k_1 := hts _ m_1
  have m_2 : (.selects RX9 yX9_isWord yX9_isWord : Cond) ∈ zw_r_after := List.mem_append_left _ (List.mem_of_getElem? (i := 3) rfl)
  have k_2 := hts _ m_2
  have m_3 : (.initialized RX9 : Cond) ∈ zw_r_after := List.mem_append_left _ (List.mem_of_getElem? (i := 4) rfl)
  have k_3 := hts _ m_3
  have m_4 : (.methodLink RX9 271 yX9_must : Cond) ∈ zw_r_after := List.mem_append_left _ (List.mem_of_getElem? (i := 5) rfl)
  have k_4 := hts _ m_4
  have m_5 : (.instanceMethod yX9_must : Cond) ∈ zw_r_after := List.mem_append_left _ (List.mem_of_getElem? (i := 6) rfl)
  have k_5 := hts _ m_5
  have m_6 : (.selects RX9 yX9_must yX9_must : Cond) ∈ zw_r_after := List.mem_append_left _ (List.mem_of_getElem? (i := 7) rfl)
  have k_6 := hts _ m_6
  have m_7 : (.methodLink RX9 275 yX9_numeral : Cond) ∈ zw_r_after := List.mem_append_left _ (List.mem_of_getElem? (i := 8) rfl)
  have k_7 := hts _ m_7
  have m_8 : (.instanceMethod yX9_numeral : Cond) ∈ zw_r_after := List.mem_append_left _ (List.mem_of_getElem? (i := 9) rfl)
  have k_8 := hts _ m_8
  have m_9 : (.selects RX9 yX9_numeral yX9_numeral : Cond) ∈ zw_r_after := List.mem_append_left _ (List.mem_of_getElem? (i := 10) rfl)
  have k_9 := hts _ m_9
  have g_r_isWord : ∀ w ∈ zw_r_isWord, w ∈ zw_r_after := fun w h => List.mem_append_right _ (List.mem_append_left _ h)
  have g_r_must : ∀ w ∈ zw_r_must, w ∈ zw_r_after := fun w h => List.mem_append_right _ (List.mem_append_right _ (List.mem_append_left _ h))
  have g_r_numeral : ∀ w ∈ zw_r_numeral, w ∈ zw_r_after := fun w h => List.mem_append_right _ (List.mem_append_right _ (List.mem_append_right _ (List.mem_append_left _ h)))
  have lt_0 : (0 : Int32).toInt = 0 := by decide
  have lt_1 : (1 : Int32).toInt = 1 := by decide
  have hl := lv_entry ([.ref p0, .long a1, .int a2, .int a3]) (n := 5) (Nat.le_of_ble_eq_true rfl)
  rw [lg_entry_eq]
  generalize (lg_sl ([.ref p0, .long a1, .int a2, .int a3]) ++ List.replicate (5 - (lg_sl ([.ref p0, .long a1, .int a2, .int a3])).length) Slot.unset).toArray = ls at hl ⊢
  have hl : lv_has ls 5 [(0, .ref p0), (1, .long a1), (3, .int a2), (4, .int a3)] := hl
  have tat0 := (OKX9_g6 ho_p0).use pf_at0
  have ten := (OKX9_g7 ho_p0).use pf_en
  have ttk := (OKX9_g8 ho_p0).use pf_tk
  have tsiz := (OKX9_g3 ho_p0).use pf_siz
  have tfk := (OKX9_g4 ho_p0).use pf_fk
  refine lv_aload_n hx hb dX9_after_0 rfl (lv_at hl 0 rfl) (lv_aload_n hx hb dX9_after_1 rfl (lv_at hl 0 rfl) (lv_lload_n hx hb dX9_after_2 rfl (lv_at hl 1 rfl) ?_))
  obtain ⟨v_1, fv_1⟩ := OKX9_g10 ho_p0
  refine q_cVi (As := [.long a1]) (rest := [.ref p0]) q_w0 trivial hK hP hDa za_r_after hS hA [0] [] (by decide +kernel) ⟨hx, hb, hml, hown, hts⟩ (r_isWord l dC dI s.heap.size p0 f_p0 a1 tk v_1 ho_p0 pf_tk fv_1) rfl rfl (cwV 1 hts (p1_gV m_0 m_1 m_2 m_3 g_r_isWord gz_r_isWord) rfl rfl rfl (by decide +kernel) ⟨by decide, by decide⟩) (va_recv hK hP (ci := 8) (q0 := 0) rfl rfl) zm_r_isWord rfl hl.1 rfl (Nat.le_of_ble_eq_true rfl) dX9_after_3 ⟨by decide, by decide⟩ (fun r_2 H3 lo3 hG3 hS3 => ?_)
  obtain ⟨z_4, hQ3⟩ := hG3
  have hP3 : va_P (dC, dI) vwCl (zW_r_after p0 f_p0 p0_text c_p0_text b_p0_text) H3 := hQ3
  clear hQ3 hP hS
  rcases z_4 with ⟨rfl, z_4⟩ | ⟨rfl, z_4⟩
  · refine q_cVv (As := [.int 1]) (rest := []) q_w0 trivial hK hP3 hDa za_r_after hS3 hA [0, 1] [0] (by decide +kernel) ⟨hx, hb, hml, hown, hts⟩ (r_must l dC dI H3.size p0 f_p0 p0_text c_p0_text b_p0_text 1 at0 en tk siz fk ho_p0 fr_p0_1 pf_at0 pf_en pf_tk pf_siz pf_fk ((by omega))) rfl rfl (cwV 1 hts (p1_gV m_4 m_5 m_6 m_3 g_r_must gz_r_must) rfl rfl rfl (by decide +kernel) ⟨by decide, by decide⟩) (va_recv hK hP3 (ci := 8) (q0 := 0) rfl rfl) zm_r_must rfl hl.1 rfl (Nat.le_of_ble_eq_true rfl) dX9_after_6 ⟨by decide, by decide⟩ (fun H6 lo6 hG6 hS6 => ?_)
    obtain ⟨o_7, o_8, o_9, o_10, o_11, ho_12, hf_13, z_14, z_15, z_16, z_17, z_18, z_19, hQ6⟩ := hG6
    have to_8 := (OKX9_g6 ho_12).use z_14
    have to_9 := (OKX9_g7 ho_12).use z_15
    have to_10 := (OKX9_g8 ho_12).use z_16
    have to_11 := (OKX9_g4 ho_12).use z_17
    have hP6 : va_P (dC, dI) vwCl (zW_r_after p0 o_7 p0_text c_p0_text b_p0_text) H6 := hQ6
    clear hQ6 hP3 hS3
    refine lv_aload_n hx hb dX9_after_9 rfl (lv_at hl 0 rfl) (lv_iload_n hx hb dX9_after_10 rfl (lv_at hl 2 rfl) (lv_iload hx hb dX9_after_11 (lv_at hl 3 rfl) ?_))
    refine q_cVi (As := [.int a2, .int a3]) (rest := []) q_w0 trivial hK hP6 hDa za_r_after hS6 hA [0, 1] [0] (by decide +kernel) ⟨hx, hb, hml, hown, hts⟩ (r_numeral l dC dI H6.size p0 o_7 p0_text c_p0_text b_p0_text a2 a3 o_8 o_9 o_10 siz o_11 ho_12 ((hf_13.u (by decide) fr_p0_1)) z_14 z_15 z_16 ((hf_13.u (by decide) pf_siz)) z_17 ((by omega)) ((by omega))) rfl rfl (cwV 2 hts (p1_gV m_7 m_8 m_9 m_3 g_r_numeral gz_r_numeral) rfl rfl rfl (by decide +kernel) ⟨by decide, by decide⟩) (va_recv hK hP6 (ci := 8) (q0 := 0) rfl rfl) zm_r_numeral rfl hl.1 rfl (Nat.le_of_ble_eq_true rfl) dX9_after_13 ⟨by decide, by decide⟩ (fun r_20 H21 lo21 hG21 hS21 => ?_)
    obtain ⟨o_22, o_23, o_24, o_25, o_26, z_27, ho_28, hf_29, z_30, z_31, z_32, z_33, z_34, z_35, hQ21⟩ := hG21
    have to_23 := (OKX9_g6 ho_28).use z_30
    have to_24 := (OKX9_g7 ho_28).use z_31
    have to_25 := (OKX9_g8 ho_28).use z_32
    have to_26 := (OKX9_g4 ho_28).use z_33
    have hP21 : va_P (dC, dI) vwCl (zW_r_after p0 o_22 p0_text c_p0_text b_p0_text) H21 := hQ21
    clear hQ21 hP6 hS6
    exact q_iret hx hb hr hlocks hS21 dX9_after_16 ⟨o_22, o_23, o_24, o_25, o_26, (by omega), ho_28, ((q_fr.rf.tr hf_13 (by decide)).tr hf_29 (by decide)), z_30, z_31, z_32, z_33, (by omega), (by omega), hP21, za_r_after⟩
  · refine q_cVv (As := [.int 0]) (rest := []) q_w0 trivial hK hP3 hDa za_r_after hS3 hA [0, 1] [0] (by decide +kernel) ⟨hx, hb, hml, hown, hts⟩ (r_must l dC dI H3.size p0 f_p0 p0_text c_p0_text b_p0_text 0 at0 en tk siz fk ho_p0 fr_p0_1 pf_at0 pf_en pf_tk pf_siz pf_fk ((by omega))) rfl rfl (cwV 1 hts (p1_gV m_4 m_5 m_6 m_3 g_r_must gz_r_must) rfl rfl rfl (by decide +kernel) ⟨by decide, by decide⟩) (va_recv hK hP3 (ci := 8) (q0 := 0) rfl rfl) zm_r_must rfl hl.1 rfl (Nat.le_of_ble_eq_true rfl) dX9_after_6 ⟨by decide, by decide⟩ (fun H37 lo37 hG37 hS37 => ?_)
    obtain ⟨o_38, o_39, o_40, o_41, o_42, ho_43, hf_44, z_45, z_46, z_47, z_48, z_49, z_50, hQ37⟩ := hG37
    have to_39 := (OKX9_g6 ho_43).use z_45
    have to_40 := (OKX9_g7 ho_43).use z_46
    have to_41 := (OKX9_g8 ho_43).use z_47
    have to_42 := (OKX9_g4 ho_43).use z_48
    have hP37 : va_P (dC, dI) vwCl (zW_r_after p0 o_38 p0_text c_p0_text b_p0_text) H37 := hQ37
    clear hQ37 hP3 hS3
    refine lv_aload_n hx hb dX9_after_9 rfl (lv_at hl 0 rfl) (lv_iload_n hx hb dX9_after_10 rfl (lv_at hl 2 rfl) (lv_iload hx hb dX9_after_11 (lv_at hl 3 rfl) ?_))
    refine q_cVi (As := [.int a2, .int a3]) (rest := []) q_w0 trivial hK hP37 hDa za_r_after hS37 hA [0, 1] [0] (by decide +kernel) ⟨hx, hb, hml, hown, hts⟩ (r_numeral l dC dI H37.size p0 o_38 p0_text c_p0_text b_p0_text a2 a3 o_39 o_40 o_41 siz o_42 ho_43 ((hf_44.u (by decide) fr_p0_1)) z_45 z_46 z_47 ((hf_44.u (by decide) pf_siz)) z_48 ((by omega)) ((by omega))) rfl rfl (cwV 2 hts (p1_gV m_7 m_8 m_9 m_3 g_r_numeral gz_r_numeral) rfl rfl rfl (by decide +kernel) ⟨by decide, by decide⟩) (va_recv hK hP37 (ci := 8) (q0 := 0) rfl rfl) zm_r_numeral rfl hl.1 rfl (Nat.le_of_ble_eq_true rfl) dX9_after_13 ⟨by decide, by decide⟩ (fun r_51 H52 lo52 hG52 hS52 => ?_)
    obtain ⟨o_53, o_54, o_55, o_56, o_57, z_58, ho_59, hf_60, z_61, z_62, z_63, z_64, z_65, z_66, hQ52⟩ := hG52
    have to_54 := (OKX9_g6 ho_59).use z_61
    have to_55 := (OKX9_g7 ho_59).use z_62
    have to_56 := (OKX9_g8 ho_59).use z_63
    have to_57 := (OKX9_g4 ho_59).use z_64
    have hP52 : va_P (dC, dI) vwCl (zW_r_after p0 o_53 p0_text c_p0_text b_p0_text) H52 := hQ52
    clear hQ52 hP37 hS37
    exact q_iret hx hb hr hlocks hS52 dX9_after_16 ⟨o_53, o_54, o_55, o_56, o_57, (by omega), ho_59, ((q_fr.rf.tr hf_44 (by decide)).tr hf_60 (by decide)), z_61, z_62, z_63, z_64, (by omega), (by omega), hP52, za_r_after⟩
def zo_r_fresh : List Cond := [.code yX9_fresh cX9_fresh 6 (some .long), .methodLink RX9 258 yX9_isGood, .instanceMethod yX9_isGood, .selects RX9 yX9_isGood yX9_isGood, .initialized RX9, .fieldLink RX9 230 "BowWalkModel" "token" "I", .fieldLink RX9 237 "BowWalkModel" "name" "J", .methodLink RX9 262 yX9_goOn, .instanceMethod yX9_goOn, .selects RX9 yX9_goOn yX9_goOn, .fieldLink RX9 223 "BowWalkModel" "at" "I", .methodLink RX9 254 yX9_fails, .instanceMethod yX9_fails, .selects RX9 yX9_fails yX9_fails, .methodLink RX9 265 yX9_misplaced, .instanceMethod yX9_misplaced, .selects RX9 yX9_misplaced yX9_misplaced]
def zw_r_fresh : List Cond := zo_r_fresh ++ (zw_r_isGood ++ (zw_r_goOn ++ (zw_r_fails ++ (zw_r_misplaced ++ (wsX90 ++ [])))))
theorem gz_r_fresh : zw_r_fresh.all goodWord = true := p1_ga (by decide +kernel) (p1_ga gz_r_isGood (p1_ga gz_r_goOn (p1_ga gz_r_fails (p1_ga gz_r_misplaced (p1_ga gk_X9 p1_g0)))))
theorem iz_r_fresh : ∀ w ∈ zw_r_fresh, w ∈ lw_tbl := p1_ia (p1_all [1358, 1327, 1329, 46, 116, 1045, 1047, 1285, 1287, 44, 1043, 1347, 1349, 51, 1343, 1345, 50] (by decide +kernel)) (p1_ia iz_r_isGood (p1_ia iz_r_goOn (p1_ia iz_r_fails (p1_ia iz_r_misplaced (p1_ia ik_X9 p1_i0)))))
def zW_r_fresh (p0 : Nat) (f_p0 : List Value) (p0_text : Nat) (c_p0_text : ClassId) (b_p0_text : Nat → Int32) (p1 : Nat) (c_p1 : ClassId) (b_p1 : Nat → Int64) (n_p1 : Nat) : va_W := [(p0, .inr (8, f_p0)), (p0_text, .inl (c_p0_text, 1600, .inl b_p0_text)), (p1, .inl (c_p1, n_p1, .inr (.inl b_p1)))]
def zT_r_fresh (c_p0_text : ClassId) (c_p1 : ClassId) : List (ClassId × FieldType) := [(c_p0_text, .byte), (c_p1, .long)]
def zA_r_fresh (p0 : Nat) (p0_text : Nat) (p1 : Nat) : List Nat := [p0, p0_text, p1]
theorem za_r_fresh {p0 : Nat} {f_p0 : List Value} {p0_text : Nat} {c_p0_text : ClassId} {b_p0_text : Nat → Int32} {p1 : Nat} {c_p1 : ClassId} {b_p1 : Nat → Int64} {n_p1 : Nat} : (zW_r_fresh p0 f_p0 p0_text c_p0_text b_p0_text p1 c_p1 b_p1 n_p1).map Prod.fst = (zA_r_fresh p0 p0_text p1) := rfl
def zG_r_fresh (p0 : Nat) (f_p0 : List Value) (p0_text : Nat) (c_p0_text : ClassId) (b_p0_text : Nat → Int32) (p1 : Nat) (c_p1 : ClassId) (b_p1 : Nat → Int64) (n_p1 : Nat) (a2 : Int32) (a3 : Int32) (at0 : Int32) (en : Int32) (tk : Int32) (siz : Int32) (fk : Int32) (r : Int64) (X : va_W → Prop) : Prop := ∃ (y_p0 : List Value) (at1 : Int32) (en1 : Int32) (tk1 : Int32) (fk1 : Int32), OKX9 y_p0 ∧ q_fr [4, 5, 6, 7, 8, 9, 10] f_p0 y_p0 ∧ q_if y_p0 6 at1 ∧ q_if y_p0 7 en1 ∧ q_if y_p0 8 tk1 ∧ q_if y_p0 4 fk1 ∧ (en1.toInt ≤ siz.toInt ∧ at0.toInt ≤ at1.toInt ∧ at1.toInt ≤ en1.toInt ∧ (tk1.toInt ≠ 3 ∨ at1.toInt < en1.toInt)) ∧ (fk.toInt = 0 ∨ 1 ≤ fk1.toInt) ∧ X (zW_r_fresh p0 y_p0 p0_text c_p0_text b_p0_text p1 c_p1 b_p1 n_p1)
theorem zm_r_fresh {p0 : Nat} {f_p0 : List Value} {p0_text : Nat} {c_p0_text : ClassId} {b_p0_text : Nat → Int32} {p1 : Nat} {c_p1 : ClassId} {b_p1 : Nat → Int64} {n_p1 : Nat} {a2 : Int32} {a3 : Int32} {at0 : Int32} {en : Int32} {tk : Int32} {siz : Int32} {fk : Int32} : ∀ (r : Int64), ∀ X Y : va_W → Prop, (∀ w, X w → Y w) → zG_r_fresh p0 f_p0 p0_text c_p0_text b_p0_text p1 c_p1 b_p1 n_p1 a2 a3 at0 en tk siz fk r X → zG_r_fresh p0 f_p0 p0_text c_p0_text b_p0_text p1 c_p1 b_p1 n_p1 a2 a3 at0 en tk siz fk r Y := fun r X Y h h1 => by obtain ⟨x0, x1, x2, x3, x4, x5, x6, x7, x8, x9, x10, x11, x12, hx⟩ := h1; exact ⟨x0, x1, x2, x3, x4, x5, x6, x7, x8, x9, x10, x11, x12, h _ hx⟩
set_option maxHeartbeats 4000000 in
set_option maxRecDepth 100000 in
theorem r_fresh (l : Launch) (dC : Nat → ClassId) (dI : Nat → Nat → Nat) (sz : Nat) (p0 : Nat) (f_p0 : List Value) (p0_text : Nat) (c_p0_text : ClassId) (b_p0_text : Nat → Int32) (p1 : Nat) (c_p1 : ClassId) (b_p1 : Nat → Int64) (n_p1 : Nat) (a2 : Int32) (a3 : Int32) (at0 : Int32) (en : Int32) (tk : Int32) (siz : Int32) (fk : Int32) (ho_p0 : OKX9 f_p0) (fr_p0_1 : q_rf f_p0 1 p0_text) (pf_at0 : q_if f_p0 6 at0) (pf_en : q_if f_p0 7 en) (pf_tk : q_if f_p0 8 tk) (pf_siz : q_if f_p0 3 siz) (pf_fk : q_if f_p0 4 fk) (ta2 : (0) ≤ a2.toInt ∧ a2.toInt ≤ 1000) (ta3 : (0) ≤ a3.toInt ∧ a3.toInt ≤ 6) (hR : en.toInt ≤ siz.toInt ∧ at0.toInt ≤ en.toInt ∧ (tk.toInt ≠ 3 ∨ at0.toInt < en.toInt)) (hn : a2.toInt + a3.toInt ≤ (n_p1 : Int)) : Met l yX9_fresh zw_r_fresh ({ frames := 2, cells := 0, slots := 0, locals := 44 }) (va_Pc [.ref p0, .ref p1, .int a2, .int a3] (q_pre (dC, dI) (zW_r_fresh p0 f_p0 p0_text c_p0_text b_p0_text p1 c_p1 b_p1 n_p1) (zT_r_fresh c_p0_text c_p1) q_E0 sz)) (q_Ql (dC, dI) (zG_r_fresh p0 f_p0 p0_text c_p0_text b_p0_text p1 c_p1 b_p1 n_p1 a2 a3 at0 en tk siz fk) (zA_r_fresh p0 p0_text p1) (va_A (zW_r_fresh p0 f_p0 p0_text c_p0_text b_p0_text p1 c_p1 b_p1 n_p1) sz)) 0 0 (va_A (zW_r_fresh p0 f_p0 p0_text c_p0_text b_p0_text p1 c_p1 b_p1 n_p1) sz) := by
  refine Met.ofW (cc := cX9_fresh) (maxL := 6) (ret := (some .long)) (by decide) rfl ?_
  intro p e s m args below meth c s₁ B hml hv
  obtain ⟨rfl, hsz, hP, hK, hD0, hE⟩ := hv
  have hx := B.exec
  have hb := B.bytes
  have hr := B.returns
  have hts := atoms_spec (ws := zw_r_fresh) B.pre
  have hown : s.vm.findClass RX9 = some m.cls := findClass_of_methodNamed B.named
  have hlocks := B.notSynchronized
  subst hsz
  have hD := hD0.self (sz := s.heap.size)
  generalize hAe : va_A (zW_r_fresh p0 f_p0 p0_text c_p0_text b_p0_text p1 c_p1 b_p1 n_p1) s.heap.size = A at hD hE ⊢
  have hA : ∀ q : Nat, s.heap.size ≤ q → A q := fun q h => by rw [← hAe]; exact Or.inr h
  have hDa : q_DA A (zA_r_fresh p0 p0_text p1) := q_DA.mk hD za_r_fresh
  clear hAe hD0 hD
  have hS : va_S A s.heap s.heap [] := va_S.rf
  have m_0 : (.methodLink RX9 258 yX9_isGood : Cond) ∈ zw_r_fresh := List.mem_append_left _ (List.mem_of_getElem? (i := 1) rfl)
  have k_0 := hts _ m_0
  have m_1 : (.instanceMethod yX9_isGood : Cond) ∈ zw_r_fresh := List.mem_append_left _ (List.mem_of_getElem? (i := 2) rfl)
  have k_1 := hts _ m_1
  have m_2 : (.selects RX9 yX9_isGood yX9_isGood : Cond) ∈ zw_r_fresh := List.mem_append_left _ (List.mem_of_getElem? (i := 3) rfl)
  have k_2 := hts _ m_2
  have m_3 : (.initialized RX9 : Cond) ∈ zw_r_fresh := List.mem_append_left _ (List.mem_of_getElem? (i := 4) rfl)
  have k_3 := hts _ m_3
  have m_4 : (.fieldLink RX9 230 "BowWalkModel" "token" "I" : Cond) ∈ zw_r_fresh := List.mem_append_left _ (List.mem_of_getElem? (i := 5) rfl)
  have k_4 := hts _ m_4
  have m_5 : (.fieldLink RX9 237 "BowWalkModel" "name" "J" : Cond) ∈ zw_r_fresh := List.mem_append_left _ (List.mem_of_getElem? (i := 6) rfl)
  have k_5 := hts _ m_5
  have m_6 : (.methodLink RX9 262 yX9_goOn : Cond) ∈ zw_r_fresh := List.mem_append_left _ (List.mem_of_getElem? (i := 7) rfl)
  have k_6 := hts _ m_6
  have m_7 : (.instanceMethod yX9_goOn : Cond) ∈ zw_r_fresh := List.mem_append_left _ (List.mem_of_getElem? (i := 8) rfl)
  have k_7 := hts _ m_7
  have m_8 : (.selects RX9 yX9_goOn yX9_goOn : Cond) ∈ zw_r_fresh := List.mem_append_left _ (List.mem_of_getElem? (i := 9) rfl)
  have k_8 := hts _ m_8
  have m_9 : (.fieldLink RX9 223 "BowWalkModel" "at" "I" : Cond) ∈ zw_r_fresh := List.mem_append_left _ (List.mem_of_getElem? (i := 10) rfl)
  have k_9 := hts _ m_9
  have m_10 : (.methodLink RX9 254 yX9_fails : Cond) ∈ zw_r_fresh := List.mem_append_left _ (List.mem_of_getElem? (i := 11) rfl)
  have k_10 := hts _ m_10
  have m_11 : (.instanceMethod yX9_fails : Cond) ∈ zw_r_fresh := List.mem_append_left _ (List.mem_of_getElem? (i := 12) rfl)
  have k_11 := hts _ m_11
  have m_12 : (.selects RX9 yX9_fails yX9_fails : Cond) ∈ zw_r_fresh := List.mem_append_left _ (List.mem_of_getElem? (i := 13) rfl)
  have k_12 := hts _ m_12
  have m_13 : (.methodLink RX9 265 yX9_misplaced : Cond) ∈ zw_r_fresh := List.mem_append_left _ (List.mem_of_getElem? (i := 14) rfl)
  have k_13 := hts _ m_13
  have m_14 : (.instanceMethod yX9_misplaced : Cond) ∈ zw_r_fresh := List.mem_append_left _ (List.mem_of_getElem? (i := 15) rfl)
  have k_14 := hts _ m_14
  have m_15 : (.selects RX9 yX9_misplaced yX9_misplaced : Cond) ∈ zw_r_fresh := List.mem_append_left _ (List.mem_of_getElem? (i := 16) rfl)
  have k_15 := hts _ m_15
  have g_r_isGood : ∀ w ∈ zw_r_isGood, w ∈ zw_r_fresh := fun w h => List.mem_append_right _ (List.mem_append_left _ h)
  have g_r_goOn : ∀ w ∈ zw_r_goOn, w ∈ zw_r_fresh := fun w h => List.mem_append_right _ (List.mem_append_right _ (List.mem_append_left _ h))
  have g_r_fails : ∀ w ∈ zw_r_fails, w ∈ zw_r_fresh := fun w h => List.mem_append_right _ (List.mem_append_right _ (List.mem_append_right _ (List.mem_append_left _ h)))
  have g_r_misplaced : ∀ w ∈ zw_r_misplaced, w ∈ zw_r_fresh := fun w h => List.mem_append_right _ (List.mem_append_right _ (List.mem_append_right _ (List.mem_append_right _ (List.mem_append_left _ h))))
  have i_X9 : ∀ w ∈ u_ws RX9 TX9 81, w ∈ zw_r_fresh := fun w h => List.mem_append_right _ (List.mem_append_right _ (List.mem_append_right _ (List.mem_append_right _ (List.mem_append_right _ (List.mem_append_left _ h)))))
  have lt_0 : (0 : Int32).toInt = 0 := by decide
  have lt_1 : (1 : Int32).toInt = 1 := by decide
  have lt_2 : (2 : Int32).toInt = 2 := by decide
  have lt_3 : (3 : Int32).toInt = 3 := by decide
  have hl := lv_entry ([.ref p0, .ref p1, .int a2, .int a3]) (n := 6) (Nat.le_of_ble_eq_true rfl)
  rw [lg_entry_eq]
  generalize (lg_sl ([.ref p0, .ref p1, .int a2, .int a3]) ++ List.replicate (6 - (lg_sl ([.ref p0, .ref p1, .int a2, .int a3])).length) Slot.unset).toArray = ls at hl ⊢
  have hl : lv_has ls 6 [(0, .ref p0), (1, .ref p1), (2, .int a2), (3, .int a3)] := hl
  have tat0 := (OKX9_g6 ho_p0).use pf_at0
  have ten := (OKX9_g7 ho_p0).use pf_en
  have ttk := (OKX9_g8 ho_p0).use pf_tk
  have tsiz := (OKX9_g3 ho_p0).use pf_siz
  have tfk := (OKX9_g4 ho_p0).use pf_fk
  refine lv_aload_n hx hb dX9_fresh_0 rfl (lv_at hl 0 rfl) ?_
  refine q_cVi (As := []) (rest := []) q_w0 trivial hK hP hDa za_r_fresh hS hA [0] [] (by decide +kernel) ⟨hx, hb, hml, hown, hts⟩ (r_isGood l dC dI s.heap.size p0 f_p0 fk ho_p0 pf_fk) rfl rfl (cwV 0 hts (p1_gV m_0 m_1 m_2 m_3 g_r_isGood gz_r_isGood) rfl rfl rfl (by decide +kernel) ⟨by decide, by decide⟩) (va_recv hK hP (ci := 8) (q0 := 0) rfl rfl) zm_r_isGood rfl hl.1 rfl (Nat.le_of_ble_eq_true rfl) dX9_fresh_1 ⟨by decide, by decide⟩ (fun r_1 H2 lo2 hG2 hS2 => ?_)
  obtain ⟨z_3, hQ2⟩ := hG2
  have hP2 : va_P (dC, dI) vwCl (zW_r_fresh p0 f_p0 p0_text c_p0_text b_p0_text p1 c_p1 b_p1 n_p1) H2 := hQ2
  clear hQ2 hP hS
  rcases z_3 with ⟨rfl, z_3⟩ | ⟨rfl, z_3⟩
  · refine lv_if_ne (tgt := 9) hx hb dX9_fresh_4 (by decide) (fun c_4 => ?_) (fun c_4 => absurd c_4 (by decide))
    refine lv_aload_n hx hb dX9_fresh_9 rfl (lv_at hl 0 rfl) (qg_X9_8 hx hb hts i_X9 hown hK hP2 0 rfl k_4 pf_tk dX9_fresh_10 (lv_iconst (v := 2) hx hb dX9_fresh_13 (by decide) ?_))
    refine lv_icmp_eq (tgt := 21) hx hb dX9_fresh_14 (by decide) (fun c_5 => ?_) (fun c_5 => ?_)
    · have tc_5 := q_eq c_5
      refine lv_iconst (v := 0) hx hb dX9_fresh_21 (by decide) (lv_istore (lv' := [(4, .int 0), (0, .ref p0), (1, .ref p1), (2, .int a2), (3, .int a3)]) hx hb dX9_fresh_22 hl (by decide) rfl (fun ls hl => ?_))
      have key24 : ∀ (fu24 : Nat) (kf : Int32) (fz_p0 : List Value) (fkv : Int32) (H : Heap) (locs : List Loc) (ls : Array Slot) (hfu24 : 6 - kf.toInt ≤ (fu24 : Int)) (tkf : (0) ≤ kf.toInt ∧ kf.toInt ≤ 6) (ho_fz_p0 : OKX9 fz_p0) (hf_fz_p0 : q_fr [4, 5, 6, 7, 8, 9, 10] f_p0 fz_p0) (fr_fz_p0_1 : q_rf fz_p0 1 p0_text) (fh_fz_p0_3 : q_if fz_p0 3 siz) (fv_fz_p0_4 : q_if fz_p0 4 fkv) (tfkv : (0) ≤ fkv.toInt ∧ fkv.toInt ≤ 4) (fh_fz_p0_6 : q_if fz_p0 6 at0) (fh_fz_p0_7 : q_if fz_p0 7 en) (fh_fz_p0_8 : q_if fz_p0 8 tk) (hq24_0 : fk.toInt = 0 ∨ 1 ≤ fkv.toInt), va_P (dC, dI) vwCl (zW_r_fresh p0 fz_p0 p0_text c_p0_text b_p0_text p1 c_p1 b_p1 n_p1) H → va_S A s.heap H locs → lv_has ls 6 [(4, .int kf), (0, .ref p0), (1, .ref p1), (2, .int a2), (3, .int a3)] → W p l e (headSpec zw_r_fresh { frames := 2, cells := 0, slots := 0, locals := 44 }).room s m ([.ref p0, .ref p1, .int a2, .int a3] : List Value).toArray below meth c H locs 0 0 (MQ below (q_Ql (dC, dI) (zG_r_fresh p0 f_p0 p0_text c_p0_text b_p0_text p1 c_p1 b_p1 n_p1 a2 a3 at0 en tk siz fk) (zA_r_fresh p0 p0_text p1) A) ([.ref p0, .ref p1, .int a2, .int a3] : List Value).toArray s 0 0 A) (F0 m 24 ls []) := by
        intro fu24
        induction fu24 using Nat.strongRecOn with
        | ind fu24 ih24 =>
          intro kf fz_p0 fkv H6 lo6 ls hfu24 tkf ho_fz_p0 hf_fz_p0 fr_fz_p0_1 fh_fz_p0_3 fv_fz_p0_4 tfkv fh_fz_p0_6 fh_fz_p0_7 fh_fz_p0_8 hq24_0 hP6 hS6 hl
          refine lv_iload hx hb dX9_fresh_24 (lv_at hl 0 rfl) (lv_iload_n hx hb dX9_fresh_26 rfl (lv_at hl 4 rfl) ?_)
          refine lv_icmp_ge (tgt := 66) hx hb dX9_fresh_27 (by decide) (fun c_7 => ?_) (fun c_7 => ?_)
          · have tc_7 := q_ge c_7
            refine lv_aload_n hx hb dX9_fresh_66 rfl (lv_at hl 1 rfl) ?_
            obtain ⟨v_8, fv_8⟩ := OKX9_g10 ho_fz_p0
            refine qg_X9_10 hx hb hts i_X9 hown hK hP6 0 rfl k_5 fv_8 dX9_fresh_67 (lv_lstore (lv' := [(4, .long v_8), (0, .ref p0), (1, .ref p1), (2, .int a2), (3, .int a3)]) hx hb dX9_fresh_70 hl (by decide) rfl (fun ls hl => ?_))
            refine lv_aload_n hx hb dX9_fresh_72 rfl (lv_at hl 1 rfl) ?_
            refine q_cVi (As := []) (rest := []) q_w0 trivial hK hP6 hDa za_r_fresh hS6 hA [0] [] (by decide +kernel) ⟨hx, hb, hml, hown, hts⟩ (r_isGood l dC dI H6.size p0 fz_p0 fkv ho_fz_p0 fv_fz_p0_4) rfl rfl (cwV 0 hts (p1_gV m_0 m_1 m_2 m_3 g_r_isGood gz_r_isGood) rfl rfl rfl (by decide +kernel) ⟨by decide, by decide⟩) (va_recv hK hP6 (ci := 8) (q0 := 0) rfl rfl) zm_r_isGood rfl hl.1 rfl (Nat.le_of_ble_eq_true rfl) dX9_fresh_73 ⟨by decide, by decide⟩ (fun r_9 H10 lo10 hG10 hS10 => ?_)
            obtain ⟨z_11, hQ10⟩ := hG10
            have hP10 : va_P (dC, dI) vwCl (zW_r_fresh p0 fz_p0 p0_text c_p0_text b_p0_text p1 c_p1 b_p1 n_p1) H10 := hQ10
            clear hQ10 hP6 hS6
            rcases z_11 with ⟨rfl, z_11⟩ | ⟨rfl, z_11⟩
            · refine lv_if_eq (tgt := 83) hx hb dX9_fresh_76 (by decide) (fun c_12 => absurd c_12 (by decide)) (fun c_12 => ?_)
              refine lv_aload_n hx hb dX9_fresh_79 rfl (lv_at hl 1 rfl) ?_
              refine q_cVv (As := []) (rest := []) q_w0 trivial hK hP10 hDa za_r_fresh hS10 hA [0, 1] [0] (by decide +kernel) ⟨hx, hb, hml, hown, hts⟩ (r_goOn l dC dI H10.size p0 fz_p0 p0_text c_p0_text b_p0_text en siz ho_fz_p0 fr_fz_p0_1 fh_fz_p0_7 fh_fz_p0_3 ((by omega))) rfl rfl (cwV 0 hts (p1_gV m_6 m_7 m_8 m_3 g_r_goOn gz_r_goOn) rfl rfl rfl (by decide +kernel) ⟨by decide, by decide⟩) (va_recv hK hP10 (ci := 8) (q0 := 0) rfl rfl) zm_r_goOn rfl hl.1 rfl (Nat.le_of_ble_eq_true rfl) dX9_fresh_80 ⟨by decide, by decide⟩ (fun H14 lo14 hG14 hS14 => ?_)
              obtain ⟨o_15, o_16, o_17, o_18, ho_19, hf_20, z_21, z_22, z_23, z_24, hQ14⟩ := hG14
              have to_16 := (OKX9_g6 ho_19).use z_21
              have to_17 := (OKX9_g7 ho_19).use z_22
              have to_18 := (OKX9_g8 ho_19).use z_23
              have hP14 : va_P (dC, dI) vwCl (zW_r_fresh p0 o_15 p0_text c_p0_text b_p0_text p1 c_p1 b_p1 n_p1) H14 := hQ14
              clear hQ14 hP10 hS10
              refine lv_lload hx hb dX9_fresh_83 (lv_at hl 0 rfl) ?_
              exact q_lret hx hb hr hlocks hS14 dX9_fresh_85 ⟨o_15, o_16, o_17, o_18, fkv, ho_19, (hf_fz_p0.tr hf_20 (by decide)), z_21, z_22, z_23, (hf_20.u (by decide) fv_fz_p0_4), (by omega), (by omega), hP14, za_r_fresh⟩
            · refine lv_if_eq (tgt := 83) hx hb dX9_fresh_76 (by decide) (fun c_25 => ?_) (fun c_25 => absurd c_25 (by decide))
              refine lv_lload hx hb dX9_fresh_83 (lv_at hl 0 rfl) ?_
              exact q_lret hx hb hr hlocks hS10 dX9_fresh_85 ⟨fz_p0, at0, en, tk, fkv, ho_fz_p0, hf_fz_p0, fh_fz_p0_6, fh_fz_p0_7, fh_fz_p0_8, fv_fz_p0_4, (by omega), (by omega), hP10, za_r_fresh⟩
          · have tc_7 := q_ltN c_7
            refine lv_aload_n hx hb dX9_fresh_30 rfl (lv_at hl 1 rfl) ?_
            refine q_cVi (As := []) (rest := []) q_w0 trivial hK hP6 hDa za_r_fresh hS6 hA [0] [] (by decide +kernel) ⟨hx, hb, hml, hown, hts⟩ (r_isGood l dC dI H6.size p0 fz_p0 fkv ho_fz_p0 fv_fz_p0_4) rfl rfl (cwV 0 hts (p1_gV m_0 m_1 m_2 m_3 g_r_isGood gz_r_isGood) rfl rfl rfl (by decide +kernel) ⟨by decide, by decide⟩) (va_recv hK hP6 (ci := 8) (q0 := 0) rfl rfl) zm_r_isGood rfl hl.1 rfl (Nat.le_of_ble_eq_true rfl) dX9_fresh_31 ⟨by decide, by decide⟩ (fun r_26 H27 lo27 hG27 hS27 => ?_)
            obtain ⟨z_28, hQ27⟩ := hG27
            have hP27 : va_P (dC, dI) vwCl (zW_r_fresh p0 fz_p0 p0_text c_p0_text b_p0_text p1 c_p1 b_p1 n_p1) H27 := hQ27
            clear hQ27 hP6 hS6
            rcases z_28 with ⟨rfl, z_28⟩ | ⟨rfl, z_28⟩
            · refine lv_if_eq (tgt := 66) hx hb dX9_fresh_34 (by decide) (fun c_29 => absurd c_29 (by decide)) (fun c_29 => ?_)
              refine lv_aload_n hx hb dX9_fresh_37 rfl (lv_at hl 2 rfl) (lv_iload_n hx hb dX9_fresh_38 rfl (lv_at hl 3 rfl) (lv_iload hx hb dX9_fresh_39 (lv_at hl 0 rfl) (lv_iadd hx hb dX9_fresh_41 (lv_topi fun v_30 ev_30 => ?_))))
              have tv_30 := q_add ev_30 (by omega) (by omega)
              refine q_lld hx hb hK hP27 2 1 rfl rfl (q_in (by omega) (by omega)) dX9_fresh_42 (fun w_31 ew_31 => ?_)
              refine lv_aload_n hx hb dX9_fresh_43 rfl (lv_at hl 1 rfl) ?_
              obtain ⟨v_32, fv_32⟩ := OKX9_g10 ho_fz_p0
              refine qg_X9_10 hx hb hts i_X9 hown hK hP27 0 rfl k_5 fv_32 dX9_fresh_44 (W.lcmp hx hb dX9_fresh_47 (lv_topi fun v_33 ev_33 => ?_))
              refine lv_if_ne (tgt := 60) hx hb dX9_fresh_48 (by decide) (fun c_34 => ?_) (fun c_34 => ?_)
              · have tc_34 := q_ne c_34
                obtain ⟨v_35, ev_35⟩ : ∃ y : Int32, y = kf + 1 := ⟨_, rfl⟩
                have tv_35 := q_add ev_35 (by omega) (by omega)
                refine lv_iinc (v := v_35) (lv' := [(4, .int v_35), (0, .ref p0), (1, .ref p1), (2, .int a2), (3, .int a3)]) hx hb dX9_fresh_60 hl (k := 0) rfl (by rw [ev_35]; rfl) (by decide) rfl (fun ls hl => ?_)
                refine lv_goto (tgt := 24) hx hb dX9_fresh_63 (by decide) ?_
                exact ih24 (fu24 - 1) (by omega) v_35 fz_p0 fkv _ _ _ (by omega) (by omega) ho_fz_p0 hf_fz_p0 fr_fz_p0_1 fh_fz_p0_3 fv_fz_p0_4 (by omega) fh_fz_p0_6 fh_fz_p0_7 fh_fz_p0_8 (by omega) hP27 hS27 (lv_sub hl [0, 1, 2, 3, 4] rfl)
              · have tc_34 := q_eqN c_34
                refine lv_aload_n hx hb dX9_fresh_51 rfl (lv_at hl 1 rfl) (lv_iconst (v := 3) hx hb dX9_fresh_52 (by decide) (lv_aload_n hx hb dX9_fresh_53 rfl (lv_at hl 1 rfl) (qg_X9_6 hx hb hts i_X9 hown hK hP27 0 rfl k_9 fh_fz_p0_6 dX9_fresh_54 ?_)))
                refine q_cVv (As := [.int 3, .int at0]) (rest := []) q_w0 trivial hK hP27 hDa za_r_fresh hS27 hA [0] [] (by decide +kernel) ⟨hx, hb, hml, hown, hts⟩ (r_fails l dC dI H27.size p0 fz_p0 3 at0 ho_fz_p0 ((by omega))) rfl rfl (cwV 2 hts (p1_gV m_10 m_11 m_12 m_3 g_r_fails gz_r_fails) rfl rfl rfl (by decide +kernel) ⟨by decide, by decide⟩) (va_recv hK hP27 (ci := 8) (q0 := 0) rfl rfl) zm_r_fails rfl hl.1 rfl (Nat.le_of_ble_eq_true rfl) dX9_fresh_57 ⟨by decide, by decide⟩ (fun H37 lo37 hG37 hS37 => ?_)
                obtain ⟨o_38, o_39, ho_40, hf_41, z_42, z_43, hQ37⟩ := hG37
                have to_39 := (OKX9_g4 ho_40).use z_42
                have hP37 : va_P (dC, dI) vwCl (zW_r_fresh p0 o_38 p0_text c_p0_text b_p0_text p1 c_p1 b_p1 n_p1) H37 := hQ37
                clear hQ37 hP27 hS27
                obtain ⟨v_44, ev_44⟩ : ∃ y : Int32, y = kf + 1 := ⟨_, rfl⟩
                have tv_44 := q_add ev_44 (by omega) (by omega)
                refine lv_iinc (v := v_44) (lv' := [(4, .int v_44), (0, .ref p0), (1, .ref p1), (2, .int a2), (3, .int a3)]) hx hb dX9_fresh_60 hl (k := 0) rfl (by rw [ev_44]; rfl) (by decide) rfl (fun ls hl => ?_)
                refine lv_goto (tgt := 24) hx hb dX9_fresh_63 (by decide) ?_
                exact ih24 (fu24 - 1) (by omega) v_44 o_38 o_39 _ _ _ (by omega) (by omega) ho_40 (hf_fz_p0.tr hf_41 (by decide)) (hf_41.u (by decide) fr_fz_p0_1) (hf_41.u (by decide) fh_fz_p0_3) z_42 (by omega) (hf_41.u (by decide) fh_fz_p0_6) (hf_41.u (by decide) fh_fz_p0_7) (hf_41.u (by decide) fh_fz_p0_8) (by omega) hP37 hS37 (lv_sub hl [0, 1, 2, 3, 4] rfl)
            · refine lv_if_eq (tgt := 66) hx hb dX9_fresh_34 (by decide) (fun c_45 => ?_) (fun c_45 => absurd c_45 (by decide))
              refine lv_aload_n hx hb dX9_fresh_66 rfl (lv_at hl 1 rfl) ?_
              obtain ⟨v_46, fv_46⟩ := OKX9_g10 ho_fz_p0
              refine qg_X9_10 hx hb hts i_X9 hown hK hP27 0 rfl k_5 fv_46 dX9_fresh_67 (lv_lstore (lv' := [(4, .long v_46), (0, .ref p0), (1, .ref p1), (2, .int a2), (3, .int a3)]) hx hb dX9_fresh_70 hl (by decide) rfl (fun ls hl => ?_))
              refine lv_aload_n hx hb dX9_fresh_72 rfl (lv_at hl 1 rfl) ?_
              refine q_cVi (As := []) (rest := []) q_w0 trivial hK hP27 hDa za_r_fresh hS27 hA [0] [] (by decide +kernel) ⟨hx, hb, hml, hown, hts⟩ (r_isGood l dC dI H27.size p0 fz_p0 fkv ho_fz_p0 fv_fz_p0_4) rfl rfl (cwV 0 hts (p1_gV m_0 m_1 m_2 m_3 g_r_isGood gz_r_isGood) rfl rfl rfl (by decide +kernel) ⟨by decide, by decide⟩) (va_recv hK hP27 (ci := 8) (q0 := 0) rfl rfl) zm_r_isGood rfl hl.1 rfl (Nat.le_of_ble_eq_true rfl) dX9_fresh_73 ⟨by decide, by decide⟩ (fun r_47 H48 lo48 hG48 hS48 => ?_)
              obtain ⟨z_49, hQ48⟩ := hG48
              have hP48 : va_P (dC, dI) vwCl (zW_r_fresh p0 fz_p0 p0_text c_p0_text b_p0_text p1 c_p1 b_p1 n_p1) H48 := hQ48
              clear hQ48 hP27 hS27
              rcases z_49 with ⟨rfl, z_49⟩ | ⟨rfl, z_49⟩
              · exfalso; omega
              · refine lv_if_eq (tgt := 83) hx hb dX9_fresh_76 (by decide) (fun c_50 => ?_) (fun c_50 => absurd c_50 (by decide))
                refine lv_lload hx hb dX9_fresh_83 (lv_at hl 0 rfl) ?_
                exact q_lret hx hb hr hlocks hS48 dX9_fresh_85 ⟨fz_p0, at0, en, tk, fkv, ho_fz_p0, hf_fz_p0, fh_fz_p0_6, fh_fz_p0_7, fh_fz_p0_8, fv_fz_p0_4, (by omega), (by omega), hP48, za_r_fresh⟩
      exact key24 6 0 f_p0 fk _ _ _ (by omega) (by omega) ho_p0 q_fr.rf fr_p0_1 pf_siz pf_fk (by omega) pf_at0 pf_en pf_tk (by omega) hP2 hS2 (lv_sub hl [0, 1, 2, 3, 4] rfl)
    · have tc_5 := q_neN c_5
      refine lv_aload_n hx hb dX9_fresh_17 rfl (lv_at hl 0 rfl) ?_
      refine q_cVv (As := []) (rest := []) q_w0 trivial hK hP2 hDa za_r_fresh hS2 hA [0] [] (by decide +kernel) ⟨hx, hb, hml, hown, hts⟩ (r_misplaced l dC dI H2.size p0 f_p0 ho_p0) rfl rfl (cwV 0 hts (p1_gV m_13 m_14 m_15 m_3 g_r_misplaced gz_r_misplaced) rfl rfl rfl (by decide +kernel) ⟨by decide, by decide⟩) (va_recv hK hP2 (ci := 8) (q0 := 0) rfl rfl) zm_r_misplaced rfl hl.1 rfl (Nat.le_of_ble_eq_true rfl) dX9_fresh_18 ⟨by decide, by decide⟩ (fun H52 lo52 hG52 hS52 => ?_)
      obtain ⟨o_53, o_54, ho_55, hf_56, z_57, z_58, hQ52⟩ := hG52
      have to_54 := (OKX9_g4 ho_55).use z_57
      have hP52 : va_P (dC, dI) vwCl (zW_r_fresh p0 o_53 p0_text c_p0_text b_p0_text p1 c_p1 b_p1 n_p1) H52 := hQ52
      clear hQ52 hP2 hS2
      refine lv_iconst (v := 0) hx hb dX9_fresh_21 (by decide) (lv_istore (lv' := [(4, .int 0), (0, .ref p0), (1, .ref p1), (2, .int a2), (3, .int a3)]) hx hb dX9_fresh_22 hl (by decide) rfl (fun ls hl => ?_))
      have key24 : ∀ (fu24 : Nat) (kf : Int32) (fz_p0 : List Value) (fkv : Int32) (H : Heap) (locs : List Loc) (ls : Array Slot) (hfu24 : 6 - kf.toInt ≤ (fu24 : Int)) (tkf : (0) ≤ kf.toInt ∧ kf.toInt ≤ 6) (ho_fz_p0 : OKX9 fz_p0) (hf_fz_p0 : q_fr [4, 5, 6, 7, 8, 9, 10] f_p0 fz_p0) (fr_fz_p0_1 : q_rf fz_p0 1 p0_text) (fh_fz_p0_3 : q_if fz_p0 3 siz) (fv_fz_p0_4 : q_if fz_p0 4 fkv) (tfkv : (0) ≤ fkv.toInt ∧ fkv.toInt ≤ 4) (fh_fz_p0_6 : q_if fz_p0 6 at0) (fh_fz_p0_7 : q_if fz_p0 7 en) (fh_fz_p0_8 : q_if fz_p0 8 tk) (hq24_0 : fk.toInt = 0 ∨ 1 ≤ fkv.toInt), va_P (dC, dI) vwCl (zW_r_fresh p0 fz_p0 p0_text c_p0_text b_p0_text p1 c_p1 b_p1 n_p1) H → va_S A s.heap H locs → lv_has ls 6 [(4, .int kf), (0, .ref p0), (1, .ref p1), (2, .int a2), (3, .int a3)] → W p l e (headSpec zw_r_fresh { frames := 2, cells := 0, slots := 0, locals := 44 }).room s m ([.ref p0, .ref p1, .int a2, .int a3] : List Value).toArray below meth c H locs 0 0 (MQ below (q_Ql (dC, dI) (zG_r_fresh p0 f_p0 p0_text c_p0_text b_p0_text p1 c_p1 b_p1 n_p1 a2 a3 at0 en tk siz fk) (zA_r_fresh p0 p0_text p1) A) ([.ref p0, .ref p1, .int a2, .int a3] : List Value).toArray s 0 0 A) (F0 m 24 ls []) := by
        intro fu24
        induction fu24 using Nat.strongRecOn with
        | ind fu24 ih24 =>
          intro kf fz_p0 fkv H59 lo59 ls hfu24 tkf ho_fz_p0 hf_fz_p0 fr_fz_p0_1 fh_fz_p0_3 fv_fz_p0_4 tfkv fh_fz_p0_6 fh_fz_p0_7 fh_fz_p0_8 hq24_0 hP59 hS59 hl
          refine lv_iload hx hb dX9_fresh_24 (lv_at hl 0 rfl) (lv_iload_n hx hb dX9_fresh_26 rfl (lv_at hl 4 rfl) ?_)
          refine lv_icmp_ge (tgt := 66) hx hb dX9_fresh_27 (by decide) (fun c_60 => ?_) (fun c_60 => ?_)
          · have tc_60 := q_ge c_60
            refine lv_aload_n hx hb dX9_fresh_66 rfl (lv_at hl 1 rfl) ?_
            obtain ⟨v_61, fv_61⟩ := OKX9_g10 ho_fz_p0
            refine qg_X9_10 hx hb hts i_X9 hown hK hP59 0 rfl k_5 fv_61 dX9_fresh_67 (lv_lstore (lv' := [(4, .long v_61), (0, .ref p0), (1, .ref p1), (2, .int a2), (3, .int a3)]) hx hb dX9_fresh_70 hl (by decide) rfl (fun ls hl => ?_))
            refine lv_aload_n hx hb dX9_fresh_72 rfl (lv_at hl 1 rfl) ?_
            refine q_cVi (As := []) (rest := []) q_w0 trivial hK hP59 hDa za_r_fresh hS59 hA [0] [] (by decide +kernel) ⟨hx, hb, hml, hown, hts⟩ (r_isGood l dC dI H59.size p0 fz_p0 fkv ho_fz_p0 fv_fz_p0_4) rfl rfl (cwV 0 hts (p1_gV m_0 m_1 m_2 m_3 g_r_isGood gz_r_isGood) rfl rfl rfl (by decide +kernel) ⟨by decide, by decide⟩) (va_recv hK hP59 (ci := 8) (q0 := 0) rfl rfl) zm_r_isGood rfl hl.1 rfl (Nat.le_of_ble_eq_true rfl) dX9_fresh_73 ⟨by decide, by decide⟩ (fun r_62 H63 lo63 hG63 hS63 => ?_)
            obtain ⟨z_64, hQ63⟩ := hG63
            have hP63 : va_P (dC, dI) vwCl (zW_r_fresh p0 fz_p0 p0_text c_p0_text b_p0_text p1 c_p1 b_p1 n_p1) H63 := hQ63
            clear hQ63 hP59 hS59
            rcases z_64 with ⟨rfl, z_64⟩ | ⟨rfl, z_64⟩
            · refine lv_if_eq (tgt := 83) hx hb dX9_fresh_76 (by decide) (fun c_65 => absurd c_65 (by decide)) (fun c_65 => ?_)
              refine lv_aload_n hx hb dX9_fresh_79 rfl (lv_at hl 1 rfl) ?_
              refine q_cVv (As := []) (rest := []) q_w0 trivial hK hP63 hDa za_r_fresh hS63 hA [0, 1] [0] (by decide +kernel) ⟨hx, hb, hml, hown, hts⟩ (r_goOn l dC dI H63.size p0 fz_p0 p0_text c_p0_text b_p0_text en siz ho_fz_p0 fr_fz_p0_1 fh_fz_p0_7 fh_fz_p0_3 ((by omega))) rfl rfl (cwV 0 hts (p1_gV m_6 m_7 m_8 m_3 g_r_goOn gz_r_goOn) rfl rfl rfl (by decide +kernel) ⟨by decide, by decide⟩) (va_recv hK hP63 (ci := 8) (q0 := 0) rfl rfl) zm_r_goOn rfl hl.1 rfl (Nat.le_of_ble_eq_true rfl) dX9_fresh_80 ⟨by decide, by decide⟩ (fun H67 lo67 hG67 hS67 => ?_)
              obtain ⟨o_68, o_69, o_70, o_71, ho_72, hf_73, z_74, z_75, z_76, z_77, hQ67⟩ := hG67
              have to_69 := (OKX9_g6 ho_72).use z_74
              have to_70 := (OKX9_g7 ho_72).use z_75
              have to_71 := (OKX9_g8 ho_72).use z_76
              have hP67 : va_P (dC, dI) vwCl (zW_r_fresh p0 o_68 p0_text c_p0_text b_p0_text p1 c_p1 b_p1 n_p1) H67 := hQ67
              clear hQ67 hP63 hS63
              refine lv_lload hx hb dX9_fresh_83 (lv_at hl 0 rfl) ?_
              exact q_lret hx hb hr hlocks hS67 dX9_fresh_85 ⟨o_68, o_69, o_70, o_71, fkv, ho_72, (hf_fz_p0.tr hf_73 (by decide)), z_74, z_75, z_76, (hf_73.u (by decide) fv_fz_p0_4), (by omega), (by omega), hP67, za_r_fresh⟩
            · refine lv_if_eq (tgt := 83) hx hb dX9_fresh_76 (by decide) (fun c_78 => ?_) (fun c_78 => absurd c_78 (by decide))
              refine lv_lload hx hb dX9_fresh_83 (lv_at hl 0 rfl) ?_
              exact q_lret hx hb hr hlocks hS63 dX9_fresh_85 ⟨fz_p0, at0, en, tk, fkv, ho_fz_p0, hf_fz_p0, fh_fz_p0_6, fh_fz_p0_7, fh_fz_p0_8, fv_fz_p0_4, (by omega), (by omega), hP63, za_r_fresh⟩
          · have tc_60 := q_ltN c_60
            refine lv_aload_n hx hb dX9_fresh_30 rfl (lv_at hl 1 rfl) ?_
            refine q_cVi (As := []) (rest := []) q_w0 trivial hK hP59 hDa za_r_fresh hS59 hA [0] [] (by decide +kernel) ⟨hx, hb, hml, hown, hts⟩ (r_isGood l dC dI H59.size p0 fz_p0 fkv ho_fz_p0 fv_fz_p0_4) rfl rfl (cwV 0 hts (p1_gV m_0 m_1 m_2 m_3 g_r_isGood gz_r_isGood) rfl rfl rfl (by decide +kernel) ⟨by decide, by decide⟩) (va_recv hK hP59 (ci := 8) (q0 := 0) rfl rfl) zm_r_isGood rfl hl.1 rfl (Nat.le_of_ble_eq_true rfl) dX9_fresh_31 ⟨by decide, by decide⟩ (fun r_79 H80 lo80 hG80 hS80 => ?_)
            obtain ⟨z_81, hQ80⟩ := hG80
            have hP80 : va_P (dC, dI) vwCl (zW_r_fresh p0 fz_p0 p0_text c_p0_text b_p0_text p1 c_p1 b_p1 n_p1) H80 := hQ80
            clear hQ80 hP59 hS59
            rcases z_81 with ⟨rfl, z_81⟩ | ⟨rfl, z_81⟩
            · refine lv_if_eq (tgt := 66) hx hb dX9_fresh_34 (by decide) (fun c_82 => absurd c_82 (by decide)) (fun c_82 => ?_)
              refine lv_aload_n hx hb dX9_fresh_37 rfl (lv_at hl 2 rfl) (lv_iload_n hx hb dX9_fresh_38 rfl (lv_at hl 3 rfl) (lv_iload hx hb dX9_fresh_39 (lv_at hl 0 rfl) (lv_iadd hx hb dX9_fresh_41 (lv_topi fun v_83 ev_83 => ?_))))
              have tv_83 := q_add ev_83 (by omega) (by omega)
              refine q_lld hx hb hK hP80 2 1 rfl rfl (q_in (by omega) (by omega)) dX9_fresh_42 (fun w_84 ew_84 => ?_)
              refine lv_aload_n hx hb dX9_fresh_43 rfl (lv_at hl 1 rfl) ?_
              obtain ⟨v_85, fv_85⟩ := OKX9_g10 ho_fz_p0
              refine qg_X9_10 hx hb hts i_X9 hown hK hP80 0 rfl k_5 fv_85 dX9_fresh_44 (W.lcmp hx hb dX9_fresh_47 (lv_topi fun v_86 ev_86 => ?_))
              refine lv_if_ne (tgt := 60) hx hb dX9_fresh_48 (by decide) (fun c_87 => ?_) (fun c_87 => ?_)
              · have tc_87 := q_ne c_87
                obtain ⟨v_88, ev_88⟩ : ∃ y : Int32, y = kf + 1 := ⟨_, rfl⟩
                have tv_88 := q_add ev_88 (by omega) (by omega)
                refine lv_iinc (v := v_88) (lv' := [(4, .int v_88), (0, .ref p0), (1, .ref p1), (2, .int a2), (3, .int a3)]) hx hb dX9_fresh_60 hl (k := 0) rfl (by rw [ev_88]; rfl) (by decide) rfl (fun ls hl => ?_)
                refine lv_goto (tgt := 24) hx hb dX9_fresh_63 (by decide) ?_
                exact ih24 (fu24 - 1) (by omega) v_88 fz_p0 fkv _ _ _ (by omega) (by omega) ho_fz_p0 hf_fz_p0 fr_fz_p0_1 fh_fz_p0_3 fv_fz_p0_4 (by omega) fh_fz_p0_6 fh_fz_p0_7 fh_fz_p0_8 (by omega) hP80 hS80 (lv_sub hl [0, 1, 2, 3, 4] rfl)
              · have tc_87 := q_eqN c_87
                refine lv_aload_n hx hb dX9_fresh_51 rfl (lv_at hl 1 rfl) (lv_iconst (v := 3) hx hb dX9_fresh_52 (by decide) (lv_aload_n hx hb dX9_fresh_53 rfl (lv_at hl 1 rfl) (qg_X9_6 hx hb hts i_X9 hown hK hP80 0 rfl k_9 fh_fz_p0_6 dX9_fresh_54 ?_)))
                refine q_cVv (As := [.int 3, .int at0]) (rest := []) q_w0 trivial hK hP80 hDa za_r_fresh hS80 hA [0] [] (by decide +kernel) ⟨hx, hb, hml, hown, hts⟩ (r_fails l dC dI H80.size p0 fz_p0 3 at0 ho_fz_p0 ((by omega))) rfl rfl (cwV 2 hts (p1_gV m_10 m_11 m_12 m_3 g_r_fails gz_r_fails) rfl rfl rfl (by decide +kernel) ⟨by decide, by decide⟩) (va_recv hK hP80 (ci := 8) (q0 := 0) rfl rfl) zm_r_fails rfl hl.1 rfl (Nat.le_of_ble_eq_true rfl) dX9_fresh_57 ⟨by decide, by decide⟩ (fun H90 lo90 hG90 hS90 => ?_)
                obtain ⟨o_91, o_92, ho_93, hf_94, z_95, z_96, hQ90⟩ := hG90
                have to_92 := (OKX9_g4 ho_93).use z_95
                have hP90 : va_P (dC, dI) vwCl (zW_r_fresh p0 o_91 p0_text c_p0_text b_p0_text p1 c_p1 b_p1 n_p1) H90 := hQ90
                clear hQ90 hP80 hS80
                obtain ⟨v_97, ev_97⟩ : ∃ y : Int32, y = kf + 1 := ⟨_, rfl⟩
                have tv_97 := q_add ev_97 (by omega) (by omega)
                refine lv_iinc (v := v_97) (lv' := [(4, .int v_97), (0, .ref p0), (1, .ref p1), (2, .int a2), (3, .int a3)]) hx hb dX9_fresh_60 hl (k := 0) rfl (by rw [ev_97]; rfl) (by decide) rfl (fun ls hl => ?_)
                refine lv_goto (tgt := 24) hx hb dX9_fresh_63 (by decide) ?_
                exact ih24 (fu24 - 1) (by omega) v_97 o_91 o_92 _ _ _ (by omega) (by omega) ho_93 (hf_fz_p0.tr hf_94 (by decide)) (hf_94.u (by decide) fr_fz_p0_1) (hf_94.u (by decide) fh_fz_p0_3) z_95 (by omega) (hf_94.u (by decide) fh_fz_p0_6) (hf_94.u (by decide) fh_fz_p0_7) (hf_94.u (by decide) fh_fz_p0_8) (by omega) hP90 hS90 (lv_sub hl [0, 1, 2, 3, 4] rfl)
            · refine lv_if_eq (tgt := 66) hx hb dX9_fresh_34 (by decide) (fun c_98 => ?_) (fun c_98 => absurd c_98 (by decide))
              refine lv_aload_n hx hb dX9_fresh_66 rfl (lv_at hl 1 rfl) ?_
              obtain ⟨v_99, fv_99⟩ := OKX9_g10 ho_fz_p0
              refine qg_X9_10 hx hb hts i_X9 hown hK hP80 0 rfl k_5 fv_99 dX9_fresh_67 (lv_lstore (lv' := [(4, .long v_99), (0, .ref p0), (1, .ref p1), (2, .int a2), (3, .int a3)]) hx hb dX9_fresh_70 hl (by decide) rfl (fun ls hl => ?_))
              refine lv_aload_n hx hb dX9_fresh_72 rfl (lv_at hl 1 rfl) ?_
              refine q_cVi (As := []) (rest := []) q_w0 trivial hK hP80 hDa za_r_fresh hS80 hA [0] [] (by decide +kernel) ⟨hx, hb, hml, hown, hts⟩ (r_isGood l dC dI H80.size p0 fz_p0 fkv ho_fz_p0 fv_fz_p0_4) rfl rfl (cwV 0 hts (p1_gV m_0 m_1 m_2 m_3 g_r_isGood gz_r_isGood) rfl rfl rfl (by decide +kernel) ⟨by decide, by decide⟩) (va_recv hK hP80 (ci := 8) (q0 := 0) rfl rfl) zm_r_isGood rfl hl.1 rfl (Nat.le_of_ble_eq_true rfl) dX9_fresh_73 ⟨by decide, by decide⟩ (fun r_100 H101 lo101 hG101 hS101 => ?_)
              obtain ⟨z_102, hQ101⟩ := hG101
              have hP101 : va_P (dC, dI) vwCl (zW_r_fresh p0 fz_p0 p0_text c_p0_text b_p0_text p1 c_p1 b_p1 n_p1) H101 := hQ101
              clear hQ101 hP80 hS80
              rcases z_102 with ⟨rfl, z_102⟩ | ⟨rfl, z_102⟩
              · exfalso; omega
              · refine lv_if_eq (tgt := 83) hx hb dX9_fresh_76 (by decide) (fun c_103 => ?_) (fun c_103 => absurd c_103 (by decide))
                refine lv_lload hx hb dX9_fresh_83 (lv_at hl 0 rfl) ?_
                exact q_lret hx hb hr hlocks hS101 dX9_fresh_85 ⟨fz_p0, at0, en, tk, fkv, ho_fz_p0, hf_fz_p0, fh_fz_p0_6, fh_fz_p0_7, fh_fz_p0_8, fv_fz_p0_4, (by omega), (by omega), hP101, za_r_fresh⟩
      exact key24 6 0 o_53 o_54 _ _ _ (by omega) (by omega) ho_55 (q_fr.rf.tr hf_56 (by decide)) (hf_56.u (by decide) fr_p0_1) (hf_56.u (by decide) pf_siz) z_57 (by omega) (hf_56.u (by decide) pf_at0) (hf_56.u (by decide) pf_en) (hf_56.u (by decide) pf_tk) (by omega) hP52 hS52 (lv_sub hl [0, 1, 2, 3, 4] rfl)
  · refine lv_if_ne (tgt := 9) hx hb dX9_fresh_4 (by decide) (fun c_104 => absurd c_104 (by decide)) (fun c_104 => ?_)
    refine lv_lconst (v := 0) hx hb dX9_fresh_7 (by decide) ?_
    exact q_lret hx hb hr hlocks hS2 dX9_fresh_8 ⟨f_p0, at0, en, tk, fk, ho_p0, q_fr.rf, pf_at0, pf_en, pf_tk, pf_fk, (by omega), (by omega), hP2, za_r_fresh⟩
def zo_r_isSide : List Cond := [.code yX9_isSide cX9_isSide 1 (some .boolean), .constantLong RX9 178 (1870030194), .methodLink RX9 268 yX9_isWord, .instanceMethod yX9_isWord, .selects RX9 yX9_isWord yX9_isWord, .initialized RX9, .constantLong RX9 180 (504363246962)]
def zw_r_isSide : List Cond := zo_r_isSide ++ (zw_r_isWord ++ [])
theorem gz_r_isSide : zw_r_isSide.all goodWord = true := p1_ga (by decide +kernel) (p1_ga gz_r_isWord p1_g0)
theorem iz_r_isSide : ∀ w ∈ zw_r_isSide, w ∈ lw_tbl := p1_ia (p1_all [1362, 1300, 1339, 1341, 49, 116, 1301] (by decide +kernel)) (p1_ia iz_r_isWord p1_i0)
def zW_r_isSide (p0 : Nat) (f_p0 : List Value) : va_W := [(p0, .inr (8, f_p0))]
def zT_r_isSide : List (ClassId × FieldType) := []
def zA_r_isSide (p0 : Nat) : List Nat := [p0]
theorem za_r_isSide {p0 : Nat} {f_p0 : List Value} : (zW_r_isSide p0 f_p0).map Prod.fst = (zA_r_isSide p0) := rfl
def zG_r_isSide (p0 : Nat) (f_p0 : List Value) (r : Int32) (X : va_W → Prop) : Prop := ((r = 1 ∧ (True)) ∨ (r = 0 ∧ (True))) ∧ X (zW_r_isSide p0 f_p0)
theorem zm_r_isSide {p0 : Nat} {f_p0 : List Value} : ∀ (r : Int32), ∀ X Y : va_W → Prop, (∀ w, X w → Y w) → zG_r_isSide p0 f_p0 r X → zG_r_isSide p0 f_p0 r Y := fun r X Y h h1 => by obtain ⟨x0, hx⟩ := h1; exact ⟨x0, h _ hx⟩
set_option maxHeartbeats 4000000 in
set_option maxRecDepth 100000 in
theorem r_isSide (l : Launch) (dC : Nat → ClassId) (dI : Nat → Nat → Nat) (sz : Nat) (p0 : Nat) (f_p0 : List Value) (ho_p0 : OKX9 f_p0) : Met l yX9_isSide zw_r_isSide ({ frames := 1, cells := 0, slots := 0, locals := 22 }) (va_Pc [.ref p0] (q_pre (dC, dI) (zW_r_isSide p0 f_p0) (zT_r_isSide) q_E0 sz)) (q_Qi (dC, dI) (zG_r_isSide p0 f_p0) (zA_r_isSide p0) (va_A (zW_r_isSide p0 f_p0) sz)) 0 0 (va_A (zW_r_isSide p0 f_p0) sz) := by
  refine Met.ofW (cc := cX9_isSide) (maxL := 1) (ret := (some .boolean)) (by decide) rfl ?_
  intro p e s m args below meth c s₁ B hml hv
  obtain ⟨rfl, hsz, hP, hK, hD0, hE⟩ := hv
  have hx := B.exec
  have hb := B.bytes
  have hr := B.returns
  have hts := atoms_spec (ws := zw_r_isSide) B.pre
  have hown : s.vm.findClass RX9 = some m.cls := findClass_of_methodNamed B.named
  have hlocks := B.notSynchronized
  subst hsz
  have hD := hD0.self (sz := s.heap.size)
  generalize hAe : va_A (zW_r_isSide p0 f_p0) s.heap.size = A at hD hE ⊢
  have hA : ∀ q : Nat, s.heap.size ≤ q → A q := fun q h => by rw [← hAe]; exact Or.inr h
  have hDa : q_DA A (zA_r_isSide p0) := q_DA.mk hD za_r_isSide
  clear hAe hD0 hD
  have hS : va_S A s.heap s.heap [] := va_S.rf
  have m_0 : (.constantLong RX9 178 (1870030194) : Cond) ∈ zw_r_isSide := List.mem_append_left _ (List.mem_of_getElem? (i := 1) rfl)
  have k_0 := hts _ m_0
  have m_1 : (.methodLink RX9 268 yX9_isWord : Cond) ∈ zw_r_isSide := List.mem_append_left _ (List.mem_of_getElem? (i := 2) rfl)
  have k_1 := hts _ m_1
  have m_2 : (.instanceMethod yX9_isWord : Cond) ∈ zw_r_isSide := List.mem_append_left _ (List.mem_of_getElem? (i := 3) rfl)
  have k_2 := hts _ m_2
  have m_3 : (.selects RX9 yX9_isWord yX9_isWord : Cond) ∈ zw_r_isSide := List.mem_append_left _ (List.mem_of_getElem? (i := 4) rfl)
  have k_3 := hts _ m_3
  have m_4 : (.initialized RX9 : Cond) ∈ zw_r_isSide := List.mem_append_left _ (List.mem_of_getElem? (i := 5) rfl)
  have k_4 := hts _ m_4
  have m_5 : (.constantLong RX9 180 (504363246962) : Cond) ∈ zw_r_isSide := List.mem_append_left _ (List.mem_of_getElem? (i := 6) rfl)
  have k_5 := hts _ m_5
  have g_r_isWord : ∀ w ∈ zw_r_isWord, w ∈ zw_r_isSide := fun w h => List.mem_append_right _ (List.mem_append_left _ h)
  have lt_0 : (0 : Int32).toInt = 0 := by decide
  have lt_1 : (1 : Int32).toInt = 1 := by decide
  have hl := lv_entry ([.ref p0]) (n := 1) (Nat.le_of_ble_eq_true rfl)
  rw [lg_entry_eq]
  generalize (lg_sl ([.ref p0]) ++ List.replicate (1 - (lg_sl ([.ref p0])).length) Slot.unset).toArray = ls at hl ⊢
  have hl : lv_has ls 1 [(0, .ref p0)] := hl
  refine lv_aload_n hx hb dX9_isSide_0 rfl (lv_at hl 0 rfl) (lv_ldc2 (v := 1870030194) hx hb hown k_0 dX9_isSide_1 ?_)
  obtain ⟨v_1, fv_1, tv_1⟩ := OKX9_g8 ho_p0
  obtain ⟨v_2, fv_2⟩ := OKX9_g10 ho_p0
  refine q_cVi (As := [.long 1870030194]) (rest := []) q_w0 trivial hK hP hDa za_r_isSide hS hA [0] [] (by decide +kernel) ⟨hx, hb, hml, hown, hts⟩ (r_isWord l dC dI s.heap.size p0 f_p0 1870030194 v_1 v_2 ho_p0 fv_1 fv_2) rfl rfl (cwV 1 hts (p1_gV m_1 m_2 m_3 m_4 g_r_isWord gz_r_isWord) rfl rfl rfl (by decide +kernel) ⟨by decide, by decide⟩) (va_recv hK hP (ci := 8) (q0 := 0) rfl rfl) zm_r_isWord rfl hl.1 rfl (Nat.le_of_ble_eq_true rfl) dX9_isSide_4 ⟨by decide, by decide⟩ (fun r_3 H4 lo4 hG4 hS4 => ?_)
  obtain ⟨z_5, hQ4⟩ := hG4
  have hP4 : va_P (dC, dI) vwCl (zW_r_isSide p0 f_p0) H4 := hQ4
  clear hQ4 hP hS
  rcases z_5 with ⟨rfl, z_5⟩ | ⟨rfl, z_5⟩
  · refine lv_if_ne (tgt := 20) hx hb dX9_isSide_7 (by decide) (fun c_6 => ?_) (fun c_6 => absurd c_6 (by decide))
    refine lv_iconst (v := 1) hx hb dX9_isSide_20 (by decide) (lv_goto (tgt := 25) hx hb dX9_isSide_21 (by decide) ?_)
    exact q_zret hx hb hr hlocks (by decide) hS4 dX9_isSide_25 ⟨(Or.inl ⟨rfl, by first | trivial | omega⟩), hP4, za_r_isSide⟩
  · refine lv_if_ne (tgt := 20) hx hb dX9_isSide_7 (by decide) (fun c_7 => absurd c_7 (by decide)) (fun c_7 => ?_)
    refine lv_aload_n hx hb dX9_isSide_10 rfl (lv_at hl 0 rfl) (lv_ldc2 (v := 504363246962) hx hb hown k_5 dX9_isSide_11 ?_)
    refine q_cVi (As := [.long 504363246962]) (rest := []) q_w0 trivial hK hP4 hDa za_r_isSide hS4 hA [0] [] (by decide +kernel) ⟨hx, hb, hml, hown, hts⟩ (r_isWord l dC dI H4.size p0 f_p0 504363246962 v_1 v_2 ho_p0 fv_1 fv_2) rfl rfl (cwV 1 hts (p1_gV m_1 m_2 m_3 m_4 g_r_isWord gz_r_isWord) rfl rfl rfl (by decide +kernel) ⟨by decide, by decide⟩) (va_recv hK hP4 (ci := 8) (q0 := 0) rfl rfl) zm_r_isWord rfl hl.1 rfl (Nat.le_of_ble_eq_true rfl) dX9_isSide_14 ⟨by decide, by decide⟩ (fun r_8 H9 lo9 hG9 hS9 => ?_)
    obtain ⟨z_10, hQ9⟩ := hG9
    have hP9 : va_P (dC, dI) vwCl (zW_r_isSide p0 f_p0) H9 := hQ9
    clear hQ9 hP4 hS4
    rcases z_10 with ⟨rfl, z_10⟩ | ⟨rfl, z_10⟩
    · refine lv_if_eq (tgt := 24) hx hb dX9_isSide_17 (by decide) (fun c_11 => absurd c_11 (by decide)) (fun c_11 => ?_)
      refine lv_iconst (v := 1) hx hb dX9_isSide_20 (by decide) (lv_goto (tgt := 25) hx hb dX9_isSide_21 (by decide) ?_)
      exact q_zret hx hb hr hlocks (by decide) hS9 dX9_isSide_25 ⟨(Or.inl ⟨rfl, by first | trivial | omega⟩), hP9, za_r_isSide⟩
    · refine lv_if_eq (tgt := 24) hx hb dX9_isSide_17 (by decide) (fun c_12 => ?_) (fun c_12 => absurd c_12 (by decide))
      refine lv_iconst (v := 0) hx hb dX9_isSide_24 (by decide) ?_
      exact q_zret hx hb hr hlocks (by decide) hS9 dX9_isSide_25 ⟨(Or.inr ⟨rfl, by first | trivial | omega⟩), hP9, za_r_isSide⟩
