def zo_r_e : List Cond := [.code yX9_e cX9_e 2 none, .fieldLink RX9 339 "BowWalkModel" "piled" "I", .fieldLink RX9 342 "BowWalkModel" "within" "I", .methodLink RX9 345 yX9_pushE, .instanceMethod yX9_pushE, .selects RX9 yX9_pushE yX9_pushE, .initialized RX9, .methodLink RX9 258 yX9_isGood, .instanceMethod yX9_isGood, .selects RX9 yX9_isGood yX9_isGood, .methodLink RX9 351 yX9_behindUnit, .instanceMethod yX9_behindUnit, .selects RX9 yX9_behindUnit yX9_behindUnit, .methodLink RX9 348 yX9_unit, .instanceMethod yX9_unit, .selects RX9 yX9_unit yX9_unit]
def zw_r_e : List Cond := zo_r_e ++ (zw_r_pushE ++ (zw_r_isGood ++ (zw_r_behindUnit ++ (zw_r_unit ++ (wsX90 ++ [])))))
theorem gz_r_e : zw_r_e.all goodWord = true := p1_ga (by decide +kernel) (p1_ga gz_r_pushE (p1_ga gz_r_isGood (p1_ga gz_r_behindUnit (p1_ga gz_r_unit (p1_ga gk_X9 p1_g0)))))
theorem iz_r_e : ∀ w ∈ zw_r_e, w ∈ lw_tbl := p1_ia (p1_all [1390, 1085, 1084, 1391, 1393, 62, 116, 1327, 1329, 46, 1411, 1413, 67, 1395, 1397, 63] (by decide +kernel)) (p1_ia iz_r_pushE (p1_ia iz_r_isGood (p1_ia iz_r_behindUnit (p1_ia iz_r_unit (p1_ia ik_X9 p1_i0)))))
def zW_r_e (p0 : Nat) (f_p0 : List Value) (p0_code : Nat) (c_p0_code : ClassId) (b_p0_code : Nat → Int32) (p0_codeNumber : Nat) (c_p0_codeNumber : ClassId) (b_p0_codeNumber : Nat → Int32) (p0_eSign : Nat) (c_p0_eSign : ClassId) (b_p0_eSign : Nat → Int32) (p0_eWhat : Nat) (c_p0_eWhat : ClassId) (b_p0_eWhat : Nat → Int32) (p0_text : Nat) (c_p0_text : ClassId) (b_p0_text : Nat → Int32) : va_W := [(p0, .inr (8, f_p0)), (p0_code, .inl (c_p0_code, 1800, .inl b_p0_code)), (p0_codeNumber, .inl (c_p0_codeNumber, 1800, .inl b_p0_codeNumber)), (p0_eSign, .inl (c_p0_eSign, 120, .inl b_p0_eSign)), (p0_eWhat, .inl (c_p0_eWhat, 120, .inl b_p0_eWhat)), (p0_text, .inl (c_p0_text, 1600, .inl b_p0_text))]
def zT_r_e (c_p0_code : ClassId) (c_p0_codeNumber : ClassId) (c_p0_eSign : ClassId) (c_p0_eWhat : ClassId) (c_p0_text : ClassId) : List (ClassId × FieldType) := [(c_p0_code, .int), (c_p0_codeNumber, .int), (c_p0_eSign, .int), (c_p0_eWhat, .int), (c_p0_text, .byte)]
def zA_r_e (p0 : Nat) (p0_code : Nat) (p0_codeNumber : Nat) (p0_eSign : Nat) (p0_eWhat : Nat) (p0_text : Nat) : List Nat := [p0, p0_code, p0_codeNumber, p0_eSign, p0_eWhat, p0_text]
theorem za_r_e {p0 : Nat} {f_p0 : List Value} {p0_code : Nat} {c_p0_code : ClassId} {b_p0_code : Nat → Int32} {p0_codeNumber : Nat} {c_p0_codeNumber : ClassId} {b_p0_codeNumber : Nat → Int32} {p0_eSign : Nat} {c_p0_eSign : ClassId} {b_p0_eSign : Nat → Int32} {p0_eWhat : Nat} {c_p0_eWhat : ClassId} {b_p0_eWhat : Nat → Int32} {p0_text : Nat} {c_p0_text : ClassId} {b_p0_text : Nat → Int32} : (zW_r_e p0 f_p0 p0_code c_p0_code b_p0_code p0_codeNumber c_p0_codeNumber b_p0_codeNumber p0_eSign c_p0_eSign b_p0_eSign p0_eWhat c_p0_eWhat b_p0_eWhat p0_text c_p0_text b_p0_text).map Prod.fst = (zA_r_e p0 p0_code p0_codeNumber p0_eSign p0_eWhat p0_text) := rfl
def zG_r_e (p0 : Nat) (f_p0 : List Value) (p0_code : Nat) (c_p0_code : ClassId) (b_p0_code : Nat → Int32) (p0_codeNumber : Nat) (c_p0_codeNumber : ClassId) (b_p0_codeNumber : Nat → Int32) (p0_eSign : Nat) (c_p0_eSign : ClassId) (b_p0_eSign : Nat → Int32) (p0_eWhat : Nat) (c_p0_eWhat : ClassId) (b_p0_eWhat : Nat → Int32) (p0_text : Nat) (c_p0_text : ClassId) (b_p0_text : Nat → Int32) (at0 : Int32) (en : Int32) (tk : Int32) (siz : Int32) (fk : Int32) (co : Int32) (un : Int32) (rb : Int32) (X : va_W → Prop) : Prop := ∃ (y_p0 : List Value) (y_p0_code : Nat → Int32) (y_p0_codeNumber : Nat → Int32) (y_p0_eSign : Nat → Int32) (y_p0_eWhat : Nat → Int32) (at1 : Int32) (en1 : Int32) (tk1 : Int32) (fk1 : Int32) (co1 : Int32) (un1 : Int32), OKX9 y_p0 ∧ q_fr [4, 5, 6, 7, 8, 9, 10, 45, 46, 47, 48] f_p0 y_p0 ∧ q_if y_p0 6 at1 ∧ q_if y_p0 7 en1 ∧ q_if y_p0 8 tk1 ∧ q_if y_p0 4 fk1 ∧ q_if y_p0 45 co1 ∧ q_if y_p0 46 un1 ∧ (en1.toInt ≤ siz.toInt ∧ at0.toInt ≤ at1.toInt ∧ at1.toInt ≤ en1.toInt ∧ (tk1.toInt ≠ 3 ∨ at1.toInt < en1.toInt)) ∧ (fk.toInt = 0 ∨ 1 ≤ fk1.toInt) ∧ (900 * rb.toInt ≤ co1.toInt ∧ co1.toInt ≤ 900 * rb.toInt + 900 ∧ 0 ≤ un1.toInt ∧ un1.toInt ≤ 60) ∧ (q_offc co.toInt rb b_p0_code y_p0_code) ∧ (1 ≤ fk1.toInt ∨ (co.toInt ≤ co1.toInt ∧ q_run y_p0_code co.toInt.toNat (co1.toInt - co.toInt).toNat ≠ none ∧ co1.toInt - 900 * rb.toInt ≤ 9 * un1.toInt)) ∧ X (zW_r_e p0 y_p0 p0_code c_p0_code y_p0_code p0_codeNumber c_p0_codeNumber y_p0_codeNumber p0_eSign c_p0_eSign y_p0_eSign p0_eWhat c_p0_eWhat y_p0_eWhat p0_text c_p0_text b_p0_text)
theorem zm_r_e {p0 : Nat} {f_p0 : List Value} {p0_code : Nat} {c_p0_code : ClassId} {b_p0_code : Nat → Int32} {p0_codeNumber : Nat} {c_p0_codeNumber : ClassId} {b_p0_codeNumber : Nat → Int32} {p0_eSign : Nat} {c_p0_eSign : ClassId} {b_p0_eSign : Nat → Int32} {p0_eWhat : Nat} {c_p0_eWhat : ClassId} {b_p0_eWhat : Nat → Int32} {p0_text : Nat} {c_p0_text : ClassId} {b_p0_text : Nat → Int32} {at0 : Int32} {en : Int32} {tk : Int32} {siz : Int32} {fk : Int32} {co : Int32} {un : Int32} {rb : Int32} : ∀ X Y : va_W → Prop, (∀ w, X w → Y w) → zG_r_e p0 f_p0 p0_code c_p0_code b_p0_code p0_codeNumber c_p0_codeNumber b_p0_codeNumber p0_eSign c_p0_eSign b_p0_eSign p0_eWhat c_p0_eWhat b_p0_eWhat p0_text c_p0_text b_p0_text at0 en tk siz fk co un rb X → zG_r_e p0 f_p0 p0_code c_p0_code b_p0_code p0_codeNumber c_p0_codeNumber b_p0_codeNumber p0_eSign c_p0_eSign b_p0_eSign p0_eWhat c_p0_eWhat b_p0_eWhat p0_text c_p0_text b_p0_text at0 en tk siz fk co un rb Y := fun X Y h h1 => by obtain ⟨x0, x1, x2, x3, x4, x5, x6, x7, x8, x9, x10, x11, x12, x13, x14, x15, x16, x17, x18, x19, x20, x21, x22, x23, hx⟩ := h1; exact ⟨x0, x1, x2, x3, x4, x5, x6, x7, x8, x9, x10, x11, x12, x13, x14, x15, x16, x17, x18, x19, x20, x21, x22, x23, h _ hx⟩
set_option maxHeartbeats 4000000 in
set_option maxRecDepth 100000 in
theorem r_e (l : Launch) (dC : Nat → ClassId) (dI : Nat → Nat → Nat) (sz : Nat) (p0 : Nat) (f_p0 : List Value) (p0_code : Nat) (c_p0_code : ClassId) (b_p0_code : Nat → Int32) (p0_codeNumber : Nat) (c_p0_codeNumber : ClassId) (b_p0_codeNumber : Nat → Int32) (p0_eSign : Nat) (c_p0_eSign : ClassId) (b_p0_eSign : Nat → Int32) (p0_eWhat : Nat) (c_p0_eWhat : ClassId) (b_p0_eWhat : Nat → Int32) (p0_text : Nat) (c_p0_text : ClassId) (b_p0_text : Nat → Int32) (at0 : Int32) (en : Int32) (tk : Int32) (siz : Int32) (fk : Int32) (co : Int32) (un : Int32) (rb : Int32) (ho_p0 : OKX9 f_p0) (fr_p0_1 : q_rf f_p0 1 p0_text) (fr_p0_38 : q_rf f_p0 38 p0_code) (fr_p0_39 : q_rf f_p0 39 p0_codeNumber) (fr_p0_40 : q_rf f_p0 40 p0_eWhat) (fr_p0_41 : q_rf f_p0 41 p0_eSign) (pf_at0 : q_if f_p0 6 at0) (pf_en : q_if f_p0 7 en) (pf_tk : q_if f_p0 8 tk) (pf_siz : q_if f_p0 3 siz) (pf_fk : q_if f_p0 4 fk) (pf_co : q_if f_p0 45 co) (pf_un : q_if f_p0 46 un) (pf_rb : q_if f_p0 44 rb) (hR : en.toInt ≤ siz.toInt ∧ at0.toInt ≤ en.toInt ∧ (tk.toInt ≠ 3 ∨ at0.toInt < en.toInt)) (hc : 900 * rb.toInt ≤ co.toInt ∧ co.toInt - 900 * rb.toInt ≤ 9 * un.toInt ∧ 0 ≤ un.toInt ∧ un.toInt ≤ 60) : Met l yX9_e zw_r_e ({ frames := 4, cells := 0, slots := 0, locals := 86 }) (va_Pc [.ref p0] (q_pre (dC, dI) (zW_r_e p0 f_p0 p0_code c_p0_code b_p0_code p0_codeNumber c_p0_codeNumber b_p0_codeNumber p0_eSign c_p0_eSign b_p0_eSign p0_eWhat c_p0_eWhat b_p0_eWhat p0_text c_p0_text b_p0_text) (zT_r_e c_p0_code c_p0_codeNumber c_p0_eSign c_p0_eWhat c_p0_text) q_E0 sz)) (q_Qv (dC, dI) (zG_r_e p0 f_p0 p0_code c_p0_code b_p0_code p0_codeNumber c_p0_codeNumber b_p0_codeNumber p0_eSign c_p0_eSign b_p0_eSign p0_eWhat c_p0_eWhat b_p0_eWhat p0_text c_p0_text b_p0_text at0 en tk siz fk co un rb) (zA_r_e p0 p0_code p0_codeNumber p0_eSign p0_eWhat p0_text) (va_A (zW_r_e p0 f_p0 p0_code c_p0_code b_p0_code p0_codeNumber c_p0_codeNumber b_p0_codeNumber p0_eSign c_p0_eSign b_p0_eSign p0_eWhat c_p0_eWhat b_p0_eWhat p0_text c_p0_text b_p0_text) sz)) 0 0 (va_A (zW_r_e p0 f_p0 p0_code c_p0_code b_p0_code p0_codeNumber c_p0_codeNumber b_p0_codeNumber p0_eSign c_p0_eSign b_p0_eSign p0_eWhat c_p0_eWhat b_p0_eWhat p0_text c_p0_text b_p0_text) sz) := by
  refine Met.ofW (cc := cX9_e) (maxL := 2) (ret := none) (by decide) rfl ?_
  intro p e s m args below meth c s₁ B hml hv
  obtain ⟨rfl, hsz, hP, hK, hD0, hE⟩ := hv
  have hx := B.exec
  have hb := B.bytes
  have hr := B.returns
  have hts := atoms_spec (ws := zw_r_e) B.pre
  have hown : s.vm.findClass RX9 = some m.cls := findClass_of_methodNamed B.named
  have hlocks := B.notSynchronized
  subst hsz
  have hD := hD0.self (sz := s.heap.size)
  generalize hAe : va_A (zW_r_e p0 f_p0 p0_code c_p0_code b_p0_code p0_codeNumber c_p0_codeNumber b_p0_codeNumber p0_eSign c_p0_eSign b_p0_eSign p0_eWhat c_p0_eWhat b_p0_eWhat p0_text c_p0_text b_p0_text) s.heap.size = A at hD hE ⊢
  have hA : ∀ q : Nat, s.heap.size ≤ q → A q := fun q h => by rw [← hAe]; exact Or.inr h
  have hDa : q_DA A (zA_r_e p0 p0_code p0_codeNumber p0_eSign p0_eWhat p0_text) := q_DA.mk hD za_r_e
  clear hAe hD0 hD
  have hS : va_S A s.heap s.heap [] := va_S.rf
  have m_0 : (.fieldLink RX9 339 "BowWalkModel" "piled" "I" : Cond) ∈ zw_r_e := List.mem_append_left _ (List.mem_of_getElem? (i := 1) rfl)
  have k_0 := hts _ m_0
  have m_1 : (.fieldLink RX9 342 "BowWalkModel" "within" "I" : Cond) ∈ zw_r_e := List.mem_append_left _ (List.mem_of_getElem? (i := 2) rfl)
  have k_1 := hts _ m_1
  have m_2 : (.methodLink RX9 345 yX9_pushE : Cond) ∈ zw_r_e := List.mem_append_left _ (List.mem_of_getElem? (i := 3) rfl)
  have k_2 := hts _ m_2
  have m_3 : (.instanceMethod yX9_pushE : Cond) ∈ zw_r_e := List.mem_append_left _ (List.mem_of_getElem? (i := 4) rfl)
  have k_3 := hts _ m_3
  have m_4 : (.selects RX9 yX9_pushE yX9_pushE : Cond) ∈ zw_r_e := List.mem_append_left _ (List.mem_of_getElem? (i := 5) rfl)
  have k_4 := hts _ m_4
  have m_5 : (.initialized RX9 : Cond) ∈ zw_r_e := List.mem_append_left _ (List.mem_of_getElem? (i := 6) rfl)
  have k_5 := hts _ m_5
  have m_6 : (.methodLink RX9 258 yX9_isGood : Cond) ∈ zw_r_e := List.mem_append_left _ (List.mem_of_getElem? (i := 7) rfl)
  have k_6 := hts _ m_6
  have m_7 : (.instanceMethod yX9_isGood : Cond) ∈ zw_r_e := List.mem_append_left _ (List.mem_of_getElem? (i := 8) rfl)
  have k_7 := hts _ m_7
  have m_8 : (.selects RX9 yX9_isGood yX9_isGood : Cond) ∈ zw_r_e := List.mem_append_left _ (List.mem_of_getElem? (i := 9) rfl)
  have k_8 := hts _ m_8
  have m_9 : (.methodLink RX9 351 yX9_behindUnit : Cond) ∈ zw_r_e := List.mem_append_left _ (List.mem_of_getElem? (i := 10) rfl)
  have k_9 := hts _ m_9
  have m_10 : (.instanceMethod yX9_behindUnit : Cond) ∈ zw_r_e := List.mem_append_left _ (List.mem_of_getElem? (i := 11) rfl)
  have k_10 := hts _ m_10
  have m_11 : (.selects RX9 yX9_behindUnit yX9_behindUnit : Cond) ∈ zw_r_e := List.mem_append_left _ (List.mem_of_getElem? (i := 12) rfl)
  have k_11 := hts _ m_11
  have m_12 : (.methodLink RX9 348 yX9_unit : Cond) ∈ zw_r_e := List.mem_append_left _ (List.mem_of_getElem? (i := 13) rfl)
  have k_12 := hts _ m_12
  have m_13 : (.instanceMethod yX9_unit : Cond) ∈ zw_r_e := List.mem_append_left _ (List.mem_of_getElem? (i := 14) rfl)
  have k_13 := hts _ m_13
  have m_14 : (.selects RX9 yX9_unit yX9_unit : Cond) ∈ zw_r_e := List.mem_append_left _ (List.mem_of_getElem? (i := 15) rfl)
  have k_14 := hts _ m_14
  have g_r_pushE : ∀ w ∈ zw_r_pushE, w ∈ zw_r_e := fun w h => List.mem_append_right _ (List.mem_append_left _ h)
  have g_r_isGood : ∀ w ∈ zw_r_isGood, w ∈ zw_r_e := fun w h => List.mem_append_right _ (List.mem_append_right _ (List.mem_append_left _ h))
  have g_r_behindUnit : ∀ w ∈ zw_r_behindUnit, w ∈ zw_r_e := fun w h => List.mem_append_right _ (List.mem_append_right _ (List.mem_append_right _ (List.mem_append_left _ h)))
  have g_r_unit : ∀ w ∈ zw_r_unit, w ∈ zw_r_e := fun w h => List.mem_append_right _ (List.mem_append_right _ (List.mem_append_right _ (List.mem_append_right _ (List.mem_append_left _ h))))
  have i_X9 : ∀ w ∈ u_ws RX9 TX9 81, w ∈ zw_r_e := fun w h => List.mem_append_right _ (List.mem_append_right _ (List.mem_append_right _ (List.mem_append_right _ (List.mem_append_right _ (List.mem_append_left _ h)))))
  have lt_0 : (0 : Int32).toInt = 0 := by decide
  have lt_1 : (1 : Int32).toInt = 1 := by decide
  have lt_8 : (8 : Int32).toInt = 8 := by decide
  have hl := lv_entry ([.ref p0]) (n := 2) (Nat.le_of_ble_eq_true rfl)
  rw [lg_entry_eq]
  generalize (lg_sl ([.ref p0]) ++ List.replicate (2 - (lg_sl ([.ref p0])).length) Slot.unset).toArray = ls at hl ⊢
  have hl : lv_has ls 2 [(0, .ref p0)] := hl
  have tat0 := (OKX9_g6 ho_p0).use pf_at0
  have ten := (OKX9_g7 ho_p0).use pf_en
  have ttk := (OKX9_g8 ho_p0).use pf_tk
  have tsiz := (OKX9_g3 ho_p0).use pf_siz
  have tfk := (OKX9_g4 ho_p0).use pf_fk
  have trb := (OKX9_g44 ho_p0).use pf_rb
  refine lv_aload_n hx hb dX9_e_0 rfl (lv_at hl 0 rfl) (lv_iconst (v := 0) hx hb dX9_e_1 (by decide) (qp_X9_48 hx hb hts i_X9 hown hK hP hDa za_r_e hS 0 rfl k_0 (OKX9_l ho_p0) dX9_e_2 (fun H1 lo1 fs1 efs1 (hP1 : va_P (dC, dI) vwCl (zW_r_e p0 fs1 p0_code c_p0_code b_p0_code p0_codeNumber c_p0_codeNumber b_p0_codeNumber p0_eSign c_p0_eSign b_p0_eSign p0_eWhat c_p0_eWhat b_p0_eWhat p0_text c_p0_text b_p0_text) H1) hS1 => ?_)))
  have ho1 := OKX9_p48 ho_p0 efs1
  clear hP hS
  refine lv_aload_n hx hb dX9_e_5 rfl (lv_at hl 0 rfl) (lv_iconst (v := 0) hx hb dX9_e_6 (by decide) (qp_X9_47 hx hb hts i_X9 hown hK hP1 hDa za_r_e hS1 0 rfl k_1 (OKX9_l ho1) dX9_e_7 (fun H2 lo2 fs2 efs2 (hP2 : va_P (dC, dI) vwCl (zW_r_e p0 fs2 p0_code c_p0_code b_p0_code p0_codeNumber c_p0_codeNumber b_p0_codeNumber p0_eSign c_p0_eSign b_p0_eSign p0_eWhat c_p0_eWhat b_p0_eWhat p0_text c_p0_text b_p0_text) H2) hS2 => ?_)))
  have ho2 := OKX9_p47 ho1 efs2
  clear hP1 hS1
  refine lv_aload_n hx hb dX9_e_10 rfl (lv_at hl 0 rfl) (lv_bipush (v := 8) hx hb dX9_e_11 (by decide) (lv_iconst (v := 0) hx hb dX9_e_13 (by decide) ?_))
  refine q_cVv (As := [.int 8, .int 0]) (rest := []) q_w0 trivial hK hP2 hDa za_r_e hS2 hA [0, 3, 4] [2, 3] (by decide +kernel) ⟨hx, hb, hml, hown, hts⟩ (r_pushE l dC dI H2.size p0 fs2 p0_eSign c_p0_eSign b_p0_eSign p0_eWhat c_p0_eWhat b_p0_eWhat 8 0 0 ho2 ((q_sn efs2 (by decide) (q_sn efs1 (by decide) fr_p0_40))) ((q_sn efs2 (by decide) (q_sn efs1 (by decide) fr_p0_41))) ((q_sn efs2 (by decide) (q_sa efs1 (OKX9_l ho_p0) (by decide)))) ((by omega))) rfl rfl (cwV 2 hts (p1_gV m_2 m_3 m_4 m_5 g_r_pushE gz_r_pushE) rfl rfl rfl (by decide +kernel) ⟨by decide, by decide⟩) (va_recv hK hP2 (ci := 8) (q0 := 0) rfl rfl) zm_r_pushE rfl hl.1 rfl (Nat.le_of_ble_eq_true rfl) dX9_e_14 ⟨by decide, by decide⟩ (fun H4 lo4 hG4 hS4 => ?_)
  obtain ⟨o_5, o_6, o_7, o_8, ho_9, hf_10, z_11, z_12, z_13, z_14, hQ4⟩ := hG4
  have hP4 : va_P (dC, dI) vwCl (zW_r_e p0 o_5 p0_code c_p0_code b_p0_code p0_codeNumber c_p0_codeNumber b_p0_codeNumber p0_eSign c_p0_eSign o_6 p0_eWhat c_p0_eWhat o_7 p0_text c_p0_text b_p0_text) H4 := hQ4
  clear hQ4 hP2 hS2
  refine lv_iconst (v := 1) hx hb dX9_e_17 (by decide) (lv_istore_n (lv' := [(1, .int 1), (0, .ref p0)]) hx hb dX9_e_18 rfl hl (by decide) rfl (fun ls hl => ?_))
  have key19 : ∀ (fu19 : Nat) (w : Int32) (fz_p0 : List Value) (fkv : Int32) (atv : Int32) (env : Int32) (tkv : Int32) (cov : Int32) (unv : Int32) (wiv : Int32) (piv : Int32) (bz_p0_code : Nat → Int32) (bz_p0_codeNumber : Nat → Int32) (bz_p0_eSign : Nat → Int32) (bz_p0_eWhat : Nat → Int32) (H : Heap) (locs : List Loc) (ls : Array Slot) (hfu19 : (if fkv.toInt = 0 then 100000 else 0) + 200 * (60 - unv.toInt) + (if w.toInt = 1 then 7 - wiv.toInt else 100 + piv.toInt) ≤ (fu19 : Int)) (tw : (0) ≤ w.toInt ∧ w.toInt ≤ 1) (ho_fz_p0 : OKX9 fz_p0) (hf_fz_p0 : q_fr [4, 5, 6, 7, 8, 9, 10, 45, 46, 47, 48] f_p0 fz_p0) (fr_fz_p0_1 : q_rf fz_p0 1 p0_text) (fh_fz_p0_3 : q_if fz_p0 3 siz) (fv_fz_p0_4 : q_if fz_p0 4 fkv) (tfkv : (0) ≤ fkv.toInt ∧ fkv.toInt ≤ 4) (fv_fz_p0_6 : q_if fz_p0 6 atv) (tatv : (0) ≤ atv.toInt ∧ atv.toInt ≤ 1600) (fv_fz_p0_7 : q_if fz_p0 7 env) (tenv : (0) ≤ env.toInt ∧ env.toInt ≤ 1601) (fv_fz_p0_8 : q_if fz_p0 8 tkv) (ttkv : (0) ≤ tkv.toInt ∧ tkv.toInt ≤ 5) (fr_fz_p0_38 : q_rf fz_p0 38 p0_code) (fr_fz_p0_39 : q_rf fz_p0 39 p0_codeNumber) (fr_fz_p0_40 : q_rf fz_p0 40 p0_eWhat) (fr_fz_p0_41 : q_rf fz_p0 41 p0_eSign) (fh_fz_p0_44 : q_if fz_p0 44 rb) (fv_fz_p0_45 : q_if fz_p0 45 cov) (tcov : (0) ≤ cov.toInt ∧ cov.toInt ≤ 1800) (fv_fz_p0_46 : q_if fz_p0 46 unv) (tunv : (0) ≤ unv.toInt ∧ unv.toInt ≤ 60) (fv_fz_p0_47 : q_if fz_p0 47 wiv) (twiv : (0) ≤ wiv.toInt ∧ wiv.toInt ≤ 7) (fv_fz_p0_48 : q_if fz_p0 48 piv) (tpiv : (0) ≤ piv.toInt ∧ piv.toInt ≤ 69) (hq19_0 : env.toInt ≤ siz.toInt ∧ at0.toInt ≤ atv.toInt ∧ atv.toInt ≤ env.toInt ∧ (tkv.toInt ≠ 3 ∨ atv.toInt < env.toInt)) (hq19_1 : fk.toInt = 0 ∨ 1 ≤ fkv.toInt) (hq19_2 : q_offc co.toInt rb b_p0_code bz_p0_code) (hq19_3 : 1 ≤ fkv.toInt ∨ (piv.toInt = 0 ∧ q_run bz_p0_code co.toInt.toNat (cov.toInt - co.toInt).toNat ≠ none ∧ cov.toInt - 900 * rb.toInt ≤ 9 * unv.toInt ∧ co.toInt ≤ cov.toInt) ∨ (1 ≤ piv.toInt ∧ q_EI (1 - w.toInt).toNat piv.toInt.toNat rb.toInt cov.toInt unv.toInt wiv.toInt co.toInt bz_p0_eWhat bz_p0_eSign bz_p0_code)) (hq19_4 : 900 * rb.toInt ≤ cov.toInt ∧ cov.toInt ≤ 900 * rb.toInt + 900), va_P (dC, dI) vwCl (zW_r_e p0 fz_p0 p0_code c_p0_code bz_p0_code p0_codeNumber c_p0_codeNumber bz_p0_codeNumber p0_eSign c_p0_eSign bz_p0_eSign p0_eWhat c_p0_eWhat bz_p0_eWhat p0_text c_p0_text b_p0_text) H → va_S A s.heap H locs → lv_has ls 2 [(1, .int w), (0, .ref p0)] → W p l e (headSpec zw_r_e { frames := 4, cells := 0, slots := 0, locals := 86 }).room s m ([.ref p0] : List Value).toArray below meth c H locs 0 0 (MQ below (q_Qv (dC, dI) (zG_r_e p0 f_p0 p0_code c_p0_code b_p0_code p0_codeNumber c_p0_codeNumber b_p0_codeNumber p0_eSign c_p0_eSign b_p0_eSign p0_eWhat c_p0_eWhat b_p0_eWhat p0_text c_p0_text b_p0_text at0 en tk siz fk co un rb) (zA_r_e p0 p0_code p0_codeNumber p0_eSign p0_eWhat p0_text) A) ([.ref p0] : List Value).toArray s 0 0 A) (F0 m 19 ls []) := by
    intro fu19
    induction fu19 using Nat.strongRecOn with
    | ind fu19 ih19 =>
      intro w fz_p0 fkv atv env tkv cov unv wiv piv bz_p0_code bz_p0_codeNumber bz_p0_eSign bz_p0_eWhat H15 lo15 ls hfu19 tw ho_fz_p0 hf_fz_p0 fr_fz_p0_1 fh_fz_p0_3 fv_fz_p0_4 tfkv fv_fz_p0_6 tatv fv_fz_p0_7 tenv fv_fz_p0_8 ttkv fr_fz_p0_38 fr_fz_p0_39 fr_fz_p0_40 fr_fz_p0_41 fh_fz_p0_44 fv_fz_p0_45 tcov fv_fz_p0_46 tunv fv_fz_p0_47 twiv fv_fz_p0_48 tpiv hq19_0 hq19_1 hq19_2 hq19_3 hq19_4 hP15 hS15 hl
      refine lv_aload_n hx hb dX9_e_19 rfl (lv_at hl 1 rfl) ?_
      refine q_cVi (As := []) (rest := []) q_w0 trivial hK hP15 hDa za_r_e hS15 hA [0] [] (by decide +kernel) ⟨hx, hb, hml, hown, hts⟩ (r_isGood l dC dI H15.size p0 fz_p0 fkv ho_fz_p0 fv_fz_p0_4) rfl rfl (cwV 0 hts (p1_gV m_6 m_7 m_8 m_5 g_r_isGood gz_r_isGood) rfl rfl rfl (by decide +kernel) ⟨by decide, by decide⟩) (va_recv hK hP15 (ci := 8) (q0 := 0) rfl rfl) zm_r_isGood rfl hl.1 rfl (Nat.le_of_ble_eq_true rfl) dX9_e_20 ⟨by decide, by decide⟩ (fun r_16 H17 lo17 hG17 hS17 => ?_)
      obtain ⟨z_18, hQ17⟩ := hG17
      have hP17 : va_P (dC, dI) vwCl (zW_r_e p0 fz_p0 p0_code c_p0_code bz_p0_code p0_codeNumber c_p0_codeNumber bz_p0_codeNumber p0_eSign c_p0_eSign bz_p0_eSign p0_eWhat c_p0_eWhat bz_p0_eWhat p0_text c_p0_text b_p0_text) H17 := hQ17
      clear hQ17 hP15 hS15
      rcases z_18 with ⟨rfl, z_18⟩ | ⟨rfl, z_18⟩
      · refine lv_if_eq (tgt := 52) hx hb dX9_e_23 (by decide) (fun c_19 => absurd c_19 (by decide)) (fun c_19 => ?_)
        refine lv_aload_n hx hb dX9_e_26 rfl (lv_at hl 1 rfl) (qg_X9_48 hx hb hts i_X9 hown hK hP17 0 rfl k_0 fv_fz_p0_48 dX9_e_27 ?_)
        refine lv_if_le (tgt := 52) hx hb dX9_e_30 (by decide) (fun c_20 => ?_) (fun c_20 => ?_)
        · have tc_20 := q_le c_20
          exact q_vret hx hb hr hlocks hS17 dX9_e_52 ⟨fz_p0, bz_p0_code, bz_p0_codeNumber, bz_p0_eSign, bz_p0_eWhat, atv, env, tkv, fkv, cov, unv, ho_fz_p0, hf_fz_p0, fv_fz_p0_6, fv_fz_p0_7, fv_fz_p0_8, fv_fz_p0_4, fv_fz_p0_45, fv_fz_p0_46, (by omega), (by omega), (by omega), hq19_2, (by rcases hq19_3 with h | h | h; exact Or.inl h; exact Or.inr ⟨h.2.2.2, h.2.1, h.2.2.1⟩; exact Or.inl (by omega)), hP17, za_r_e⟩
        · have tc_20 := q_gtN c_20
          refine lv_iload_n hx hb dX9_e_33 rfl (lv_at hl 0 rfl) ?_
          refine lv_if_eq (tgt := 44) hx hb dX9_e_34 (by decide) (fun c_21 => ?_) (fun c_21 => ?_)
          · have tc_21 := q_eq c_21
            have hEI : q_EI 1 piv.toInt.toNat rb.toInt cov.toInt unv.toInt wiv.toInt co.toInt bz_p0_eWhat bz_p0_eSign bz_p0_code := by
              rcases hq19_3 with h | h | h
              · exfalso; omega
              · exfalso; omega
              · rw [show (1 - w.toInt).toNat = 1 by omega] at h; exact h.2
            refine lv_aload_n hx hb dX9_e_44 rfl (lv_at hl 1 rfl) ?_
            refine q_cVi (As := []) (rest := []) q_w0 trivial hK hP17 hDa za_r_e hS17 hA [0, 1, 2, 3, 4, 5] [0, 1, 2, 3, 4] (by decide +kernel) ⟨hx, hb, hml, hown, hts⟩ (r_behindUnit l dC dI H17.size p0 fz_p0 p0_code c_p0_code bz_p0_code p0_codeNumber c_p0_codeNumber bz_p0_codeNumber p0_eSign c_p0_eSign bz_p0_eSign p0_eWhat c_p0_eWhat bz_p0_eWhat p0_text c_p0_text b_p0_text atv env tkv siz fkv cov unv wiv piv rb co.toInt ho_fz_p0 fr_fz_p0_1 fr_fz_p0_38 fr_fz_p0_39 fr_fz_p0_40 fr_fz_p0_41 fv_fz_p0_6 fv_fz_p0_7 fv_fz_p0_8 fh_fz_p0_3 fv_fz_p0_4 fv_fz_p0_45 fv_fz_p0_46 fv_fz_p0_47 fv_fz_p0_48 fh_fz_p0_44 ((by omega)) ((by omega)) hEI) rfl rfl (cwV 0 hts (p1_gV m_9 m_10 m_11 m_5 g_r_behindUnit gz_r_behindUnit) rfl rfl rfl (by decide +kernel) ⟨by decide, by decide⟩) (va_recv hK hP17 (ci := 8) (q0 := 0) rfl rfl) zm_r_behindUnit rfl hl.1 rfl (Nat.le_of_ble_eq_true rfl) dX9_e_45 ⟨by decide, by decide⟩ (fun r_22 H23 lo23 hG23 hS23 => ?_)
            obtain ⟨o_24, o_25, o_26, o_27, o_28, o_29, o_30, o_31, o_32, o_33, o_34, o_35, o_36, z_37, ho_38, hf_39, z_40, z_41, z_42, z_43, z_44, z_45, z_46, z_47, z_48, z_49, z_50, z_51, z_52, z_53, hQ23⟩ := hG23
            have to_29 := (OKX9_g6 ho_38).use z_40
            have to_30 := (OKX9_g7 ho_38).use z_41
            have to_31 := (OKX9_g8 ho_38).use z_42
            have to_32 := (OKX9_g4 ho_38).use z_43
            have hP23 : va_P (dC, dI) vwCl (zW_r_e p0 o_24 p0_code c_p0_code o_25 p0_codeNumber c_p0_codeNumber o_26 p0_eSign c_p0_eSign o_27 p0_eWhat c_p0_eWhat o_28 p0_text c_p0_text b_p0_text) H23 := hQ23
            clear hQ23 hP17 hS17
            rcases z_37 with ⟨rfl, z_37⟩ | ⟨rfl, z_37⟩
            · refine lv_istore_n (lv' := [(1, .int 1), (0, .ref p0)]) hx hb dX9_e_48 rfl hl (by decide) rfl (fun ls hl => ?_)
              refine lv_goto (tgt := 19) hx hb dX9_e_49 (by decide) ?_
              exact ih19 (fu19 - 1) (by omega) 1 o_24 o_32 o_29 o_30 o_31 o_33 o_34 o_35 o_36 o_25 o_26 o_27 o_28 _ _ _ (by omega) (by omega) ho_38 (hf_fz_p0.tr hf_39 (by decide)) (hf_39.u (by decide) fr_fz_p0_1) (hf_39.u (by decide) fh_fz_p0_3) z_43 (by omega) z_40 (by omega) z_41 (by omega) z_42 (by omega) (hf_39.u (by decide) fr_fz_p0_38) (hf_39.u (by decide) fr_fz_p0_39) (hf_39.u (by decide) fr_fz_p0_40) (hf_39.u (by decide) fr_fz_p0_41) (hf_39.u (by decide) fh_fz_p0_44) z_44 (by omega) z_45 (by omega) z_46 (by omega) z_47 (by omega) (by omega) (by omega) (hq19_2.tr z_51 (by omega)) (by rcases z_37 with h | h; exact Or.inl h; exact Or.inr (Or.inr ⟨h.1, h.2.castx (by omega)⟩)) (by omega) hP23 hS23 (lv_sub hl [0, 1] rfl)
            · refine lv_istore_n (lv' := [(1, .int 0), (0, .ref p0)]) hx hb dX9_e_48 rfl hl (by decide) rfl (fun ls hl => ?_)
              refine lv_goto (tgt := 19) hx hb dX9_e_49 (by decide) ?_
              exact ih19 (fu19 - 1) (by omega) 0 o_24 o_32 o_29 o_30 o_31 o_33 o_34 o_35 o_36 o_25 o_26 o_27 o_28 _ _ _ (by omega) (by omega) ho_38 (hf_fz_p0.tr hf_39 (by decide)) (hf_39.u (by decide) fr_fz_p0_1) (hf_39.u (by decide) fh_fz_p0_3) z_43 (by omega) z_40 (by omega) z_41 (by omega) z_42 (by omega) (hf_39.u (by decide) fr_fz_p0_38) (hf_39.u (by decide) fr_fz_p0_39) (hf_39.u (by decide) fr_fz_p0_40) (hf_39.u (by decide) fr_fz_p0_41) (hf_39.u (by decide) fh_fz_p0_44) z_44 (by omega) z_45 (by omega) z_46 (by omega) z_47 (by omega) (by omega) (by omega) (hq19_2.tr z_51 (by omega)) (by rcases z_37.2 with h | h; exact Or.inr (Or.inr ⟨h.1, h.2.castx (by omega)⟩); exact Or.inr (Or.inl h)) (by omega) hP23 hS23 (lv_sub hl [0, 1] rfl)
          · have tc_21 := q_neN c_21
            have hEI : q_EI 0 piv.toInt.toNat rb.toInt cov.toInt unv.toInt wiv.toInt co.toInt bz_p0_eWhat bz_p0_eSign bz_p0_code := by
              rcases hq19_3 with h | h | h
              · exfalso; omega
              · exfalso; omega
              · rw [show (1 - w.toInt).toNat = 0 by omega] at h; exact h.2
            refine lv_aload_n hx hb dX9_e_37 rfl (lv_at hl 1 rfl) ?_
            refine q_cVi (As := []) (rest := []) q_w0 trivial hK hP17 hDa za_r_e hS17 hA [0, 1, 2, 3, 4, 5] [0, 1, 2, 3, 4] (by decide +kernel) ⟨hx, hb, hml, hown, hts⟩ (r_unit l dC dI H17.size p0 fz_p0 p0_code c_p0_code bz_p0_code p0_codeNumber c_p0_codeNumber bz_p0_codeNumber p0_eSign c_p0_eSign bz_p0_eSign p0_eWhat c_p0_eWhat bz_p0_eWhat p0_text c_p0_text b_p0_text atv env tkv siz fkv cov unv wiv piv rb co.toInt ho_fz_p0 fr_fz_p0_1 fr_fz_p0_38 fr_fz_p0_39 fr_fz_p0_40 fr_fz_p0_41 fv_fz_p0_6 fv_fz_p0_7 fv_fz_p0_8 fh_fz_p0_3 fv_fz_p0_4 fv_fz_p0_45 fv_fz_p0_46 fv_fz_p0_47 fv_fz_p0_48 fh_fz_p0_44 ((by omega)) ((by omega)) hEI) rfl rfl (cwV 0 hts (p1_gV m_12 m_13 m_14 m_5 g_r_unit gz_r_unit) rfl rfl rfl (by decide +kernel) ⟨by decide, by decide⟩) (va_recv hK hP17 (ci := 8) (q0 := 0) rfl rfl) zm_r_unit rfl hl.1 rfl (Nat.le_of_ble_eq_true rfl) dX9_e_38 ⟨by decide, by decide⟩ (fun r_54 H55 lo55 hG55 hS55 => ?_)
            obtain ⟨o_56, o_57, o_58, o_59, o_60, o_61, o_62, o_63, o_64, o_65, o_66, o_67, o_68, z_69, ho_70, hf_71, z_72, z_73, z_74, z_75, z_76, z_77, z_78, z_79, z_80, z_81, z_82, z_83, z_84, z_85, hQ55⟩ := hG55
            have to_61 := (OKX9_g6 ho_70).use z_72
            have to_62 := (OKX9_g7 ho_70).use z_73
            have to_63 := (OKX9_g8 ho_70).use z_74
            have to_64 := (OKX9_g4 ho_70).use z_75
            have hP55 : va_P (dC, dI) vwCl (zW_r_e p0 o_56 p0_code c_p0_code o_57 p0_codeNumber c_p0_codeNumber o_58 p0_eSign c_p0_eSign o_59 p0_eWhat c_p0_eWhat o_60 p0_text c_p0_text b_p0_text) H55 := hQ55
            clear hQ55 hP17 hS17
            rcases z_69 with ⟨rfl, z_69⟩ | ⟨rfl, z_69⟩
            · refine lv_goto (tgt := 48) hx hb dX9_e_41 (by decide) (lv_istore_n (lv' := [(1, .int 1), (0, .ref p0)]) hx hb dX9_e_48 rfl hl (by decide) rfl (fun ls hl => ?_))
              refine lv_goto (tgt := 19) hx hb dX9_e_49 (by decide) ?_
              exact ih19 (fu19 - 1) (by omega) 1 o_56 o_64 o_61 o_62 o_63 o_65 o_66 o_67 o_68 o_57 o_58 o_59 o_60 _ _ _ (by omega) (by omega) ho_70 (hf_fz_p0.tr hf_71 (by decide)) (hf_71.u (by decide) fr_fz_p0_1) (hf_71.u (by decide) fh_fz_p0_3) z_75 (by omega) z_72 (by omega) z_73 (by omega) z_74 (by omega) (hf_71.u (by decide) fr_fz_p0_38) (hf_71.u (by decide) fr_fz_p0_39) (hf_71.u (by decide) fr_fz_p0_40) (hf_71.u (by decide) fr_fz_p0_41) (hf_71.u (by decide) fh_fz_p0_44) z_76 (by omega) z_77 (by omega) z_78 (by omega) z_79 (by omega) (by omega) (by omega) (hq19_2.tr z_83 (by omega)) (by rcases z_69 with h | h; exact Or.inl h; exact Or.inr (Or.inr ⟨h.1, h.2.1.castx (by omega)⟩)) (by omega) hP55 hS55 (lv_sub hl [0, 1] rfl)
            · refine lv_goto (tgt := 48) hx hb dX9_e_41 (by decide) (lv_istore_n (lv' := [(1, .int 0), (0, .ref p0)]) hx hb dX9_e_48 rfl hl (by decide) rfl (fun ls hl => ?_))
              refine lv_goto (tgt := 19) hx hb dX9_e_49 (by decide) ?_
              exact ih19 (fu19 - 1) (by omega) 0 o_56 o_64 o_61 o_62 o_63 o_65 o_66 o_67 o_68 o_57 o_58 o_59 o_60 _ _ _ (by omega) (by omega) ho_70 (hf_fz_p0.tr hf_71 (by decide)) (hf_71.u (by decide) fr_fz_p0_1) (hf_71.u (by decide) fh_fz_p0_3) z_75 (by omega) z_72 (by omega) z_73 (by omega) z_74 (by omega) (hf_71.u (by decide) fr_fz_p0_38) (hf_71.u (by decide) fr_fz_p0_39) (hf_71.u (by decide) fr_fz_p0_40) (hf_71.u (by decide) fr_fz_p0_41) (hf_71.u (by decide) fh_fz_p0_44) z_76 (by omega) z_77 (by omega) z_78 (by omega) z_79 (by omega) (by omega) (by omega) (hq19_2.tr z_83 (by omega)) (Or.inr (Or.inr ⟨by omega, z_69.1.castx (by omega)⟩)) (by omega) hP55 hS55 (lv_sub hl [0, 1] rfl)
      · refine lv_if_eq (tgt := 52) hx hb dX9_e_23 (by decide) (fun c_86 => ?_) (fun c_86 => absurd c_86 (by decide))
        exact q_vret hx hb hr hlocks hS17 dX9_e_52 ⟨fz_p0, bz_p0_code, bz_p0_codeNumber, bz_p0_eSign, bz_p0_eWhat, atv, env, tkv, fkv, cov, unv, ho_fz_p0, hf_fz_p0, fv_fz_p0_6, fv_fz_p0_7, fv_fz_p0_8, fv_fz_p0_4, fv_fz_p0_45, fv_fz_p0_46, (by omega), (by omega), (by omega), hq19_2, (by rcases hq19_3 with h | h | h; exact Or.inl h; exact Or.inr ⟨h.2.2.2, h.2.1, h.2.2.1⟩; exact Or.inl (by omega)), hP17, za_r_e⟩
  exact key19 200000 1 o_5 fk at0 en tk co un 0 o_8 b_p0_code b_p0_codeNumber o_6 o_7 _ _ _ (by omega) (by omega) ho_9 (((q_fr.rf.st efs1 (by decide)).st efs2 (by decide)).tr hf_10 (by decide)) (hf_10.u (by decide) (q_sn efs2 (by decide) (q_sn efs1 (by decide) fr_p0_1))) (hf_10.u (by decide) (q_sn efs2 (by decide) (q_sn efs1 (by decide) pf_siz))) (hf_10.u (by decide) (q_sn efs2 (by decide) (q_sn efs1 (by decide) pf_fk))) (by omega) (hf_10.u (by decide) (q_sn efs2 (by decide) (q_sn efs1 (by decide) pf_at0))) (by omega) (hf_10.u (by decide) (q_sn efs2 (by decide) (q_sn efs1 (by decide) pf_en))) (by omega) (hf_10.u (by decide) (q_sn efs2 (by decide) (q_sn efs1 (by decide) pf_tk))) (by omega) (hf_10.u (by decide) (q_sn efs2 (by decide) (q_sn efs1 (by decide) fr_p0_38))) (hf_10.u (by decide) (q_sn efs2 (by decide) (q_sn efs1 (by decide) fr_p0_39))) (hf_10.u (by decide) (q_sn efs2 (by decide) (q_sn efs1 (by decide) fr_p0_40))) (hf_10.u (by decide) (q_sn efs2 (by decide) (q_sn efs1 (by decide) fr_p0_41))) (hf_10.u (by decide) (q_sn efs2 (by decide) (q_sn efs1 (by decide) pf_rb))) (hf_10.u (by decide) (q_sn efs2 (by decide) (q_sn efs1 (by decide) pf_co))) (by omega) (hf_10.u (by decide) (q_sn efs2 (by decide) (q_sn efs1 (by decide) pf_un))) (by omega) (hf_10.u (by decide) (q_sa efs2 (OKX9_l ho1) (by decide))) (by omega) z_11 (by omega) (by omega) (by omega) q_offc.rf (Or.inr (Or.inr ⟨by omega, q_EI.castx (q_EI.cast (q_EI.begin (rb := rb.toInt) (co := co.toInt) (un := un.toInt) (by omega) (by omega) (by omega) (by omega) (by omega) z_13 z_14 (by omega)) (by omega) (by omega) (by omega) (by omega)) (by omega)⟩)) (by omega) hP4 hS4 (lv_sub hl [0, 1] rfl)
