def zo_r_isFull : List Cond := [.code yX9_isFull cX9_isFull 1 (some .boolean), .constantLong RX9 176 (1802399604), .methodLink RX9 268 yX9_isWord, .instanceMethod yX9_isWord, .selects RX9 yX9_isWord yX9_isWord, .initialized RX9, .fieldLink RX9 20 "BowWalkModel" "knots" "[I", .fieldLink RX9 279 "BowWalkModel" "rb" "I", .constantLong RX9 182 (1668248164), .fieldLink RX9 24 "BowWalkModel" "cords" "[I", .constantLong RX9 190 (2002873451), .fieldLink RX9 27 "BowWalkModel" "walks" "[I", .constantLong RX9 196 (7102839), .fieldLink RX9 30 "BowWalkModel" "laws" "[I", .constantLong RX9 202 (2002873972), .fieldLink RX9 33 "BowWalkModel" "wants" "[I", .constantLong RX9 192 (499984590964), .fieldLink RX9 45 "BowWalkModel" "isTight" "[Z", .constantLong RX9 194 (1819632491), .fieldLink RX9 49 "BowWalkModel" "isLuck" "[Z"]
def zw_r_isFull : List Cond := zo_r_isFull ++ (zw_r_isWord ++ (wsX90 ++ []))
theorem gz_r_isFull : zw_r_isFull.all goodWord = true := p1_ga (by decide +kernel) (p1_ga gz_r_isWord (p1_ga gk_X9 p1_g0))
theorem iz_r_isFull : ∀ w ∈ zw_r_isFull, w ∈ lw_tbl := p1_ia (p1_all [1338, 1299, 1339, 1341, 49, 116, 1048, 1081, 1302, 1049, 1306, 1050, 1309, 1051, 1312, 1052, 1307, 1056, 1308, 1057] (by decide +kernel)) (p1_ia iz_r_isWord (p1_ia ik_X9 p1_i0))
def zW_r_isFull (p0 : Nat) (f_p0 : List Value) (p0_cords : Nat) (c_p0_cords : ClassId) (b_p0_cords : Nat → Int32) (p0_isLuck : Nat) (c_p0_isLuck : ClassId) (b_p0_isLuck : Nat → Int32) (p0_isTight : Nat) (c_p0_isTight : ClassId) (b_p0_isTight : Nat → Int32) (p0_knots : Nat) (c_p0_knots : ClassId) (b_p0_knots : Nat → Int32) (p0_laws : Nat) (c_p0_laws : ClassId) (b_p0_laws : Nat → Int32) (p0_walks : Nat) (c_p0_walks : ClassId) (b_p0_walks : Nat → Int32) (p0_wants : Nat) (c_p0_wants : ClassId) (b_p0_wants : Nat → Int32) : va_W := [(p0, .inr (8, f_p0)), (p0_cords, .inl (c_p0_cords, 2, .inl b_p0_cords)), (p0_isLuck, .inl (c_p0_isLuck, 2, .inl b_p0_isLuck)), (p0_isTight, .inl (c_p0_isTight, 2, .inl b_p0_isTight)), (p0_knots, .inl (c_p0_knots, 2, .inl b_p0_knots)), (p0_laws, .inl (c_p0_laws, 2, .inl b_p0_laws)), (p0_walks, .inl (c_p0_walks, 2, .inl b_p0_walks)), (p0_wants, .inl (c_p0_wants, 2, .inl b_p0_wants))]
def zT_r_isFull (c_p0_cords : ClassId) (c_p0_isLuck : ClassId) (c_p0_isTight : ClassId) (c_p0_knots : ClassId) (c_p0_laws : ClassId) (c_p0_walks : ClassId) (c_p0_wants : ClassId) : List (ClassId × FieldType) := [(c_p0_cords, .int), (c_p0_isLuck, .boolean), (c_p0_isTight, .boolean), (c_p0_knots, .int), (c_p0_laws, .int), (c_p0_walks, .int), (c_p0_wants, .int)]
def zA_r_isFull (p0 : Nat) (p0_cords : Nat) (p0_isLuck : Nat) (p0_isTight : Nat) (p0_knots : Nat) (p0_laws : Nat) (p0_walks : Nat) (p0_wants : Nat) : List Nat := [p0, p0_cords, p0_isLuck, p0_isTight, p0_knots, p0_laws, p0_walks, p0_wants]
theorem za_r_isFull {p0 : Nat} {f_p0 : List Value} {p0_cords : Nat} {c_p0_cords : ClassId} {b_p0_cords : Nat → Int32} {p0_isLuck : Nat} {c_p0_isLuck : ClassId} {b_p0_isLuck : Nat → Int32} {p0_isTight : Nat} {c_p0_isTight : ClassId} {b_p0_isTight : Nat → Int32} {p0_knots : Nat} {c_p0_knots : ClassId} {b_p0_knots : Nat → Int32} {p0_laws : Nat} {c_p0_laws : ClassId} {b_p0_laws : Nat → Int32} {p0_walks : Nat} {c_p0_walks : ClassId} {b_p0_walks : Nat → Int32} {p0_wants : Nat} {c_p0_wants : ClassId} {b_p0_wants : Nat → Int32} : (zW_r_isFull p0 f_p0 p0_cords c_p0_cords b_p0_cords p0_isLuck c_p0_isLuck b_p0_isLuck p0_isTight c_p0_isTight b_p0_isTight p0_knots c_p0_knots b_p0_knots p0_laws c_p0_laws b_p0_laws p0_walks c_p0_walks b_p0_walks p0_wants c_p0_wants b_p0_wants).map Prod.fst = (zA_r_isFull p0 p0_cords p0_isLuck p0_isTight p0_knots p0_laws p0_walks p0_wants) := rfl
def zG_r_isFull (p0 : Nat) (f_p0 : List Value) (p0_cords : Nat) (c_p0_cords : ClassId) (b_p0_cords : Nat → Int32) (p0_isLuck : Nat) (c_p0_isLuck : ClassId) (b_p0_isLuck : Nat → Int32) (p0_isTight : Nat) (c_p0_isTight : ClassId) (b_p0_isTight : Nat → Int32) (p0_knots : Nat) (c_p0_knots : ClassId) (b_p0_knots : Nat → Int32) (p0_laws : Nat) (c_p0_laws : ClassId) (b_p0_laws : Nat → Int32) (p0_walks : Nat) (c_p0_walks : ClassId) (b_p0_walks : Nat → Int32) (p0_wants : Nat) (c_p0_wants : ClassId) (b_p0_wants : Nat → Int32) (tk : Int32) (nm : Int64) (rb : Int32) (r : Int32) (X : va_W → Prop) : Prop := ((r = 1 ∧ (True)) ∨ (r = 0 ∧ (q_nf nm rb b_p0_knots b_p0_cords b_p0_walks b_p0_laws b_p0_wants))) ∧ X (zW_r_isFull p0 f_p0 p0_cords c_p0_cords b_p0_cords p0_isLuck c_p0_isLuck b_p0_isLuck p0_isTight c_p0_isTight b_p0_isTight p0_knots c_p0_knots b_p0_knots p0_laws c_p0_laws b_p0_laws p0_walks c_p0_walks b_p0_walks p0_wants c_p0_wants b_p0_wants)
theorem zm_r_isFull {p0 : Nat} {f_p0 : List Value} {p0_cords : Nat} {c_p0_cords : ClassId} {b_p0_cords : Nat → Int32} {p0_isLuck : Nat} {c_p0_isLuck : ClassId} {b_p0_isLuck : Nat → Int32} {p0_isTight : Nat} {c_p0_isTight : ClassId} {b_p0_isTight : Nat → Int32} {p0_knots : Nat} {c_p0_knots : ClassId} {b_p0_knots : Nat → Int32} {p0_laws : Nat} {c_p0_laws : ClassId} {b_p0_laws : Nat → Int32} {p0_walks : Nat} {c_p0_walks : ClassId} {b_p0_walks : Nat → Int32} {p0_wants : Nat} {c_p0_wants : ClassId} {b_p0_wants : Nat → Int32} {tk : Int32} {nm : Int64} {rb : Int32} : ∀ (r : Int32), ∀ X Y : va_W → Prop, (∀ w, X w → Y w) → zG_r_isFull p0 f_p0 p0_cords c_p0_cords b_p0_cords p0_isLuck c_p0_isLuck b_p0_isLuck p0_isTight c_p0_isTight b_p0_isTight p0_knots c_p0_knots b_p0_knots p0_laws c_p0_laws b_p0_laws p0_walks c_p0_walks b_p0_walks p0_wants c_p0_wants b_p0_wants tk nm rb r X → zG_r_isFull p0 f_p0 p0_cords c_p0_cords b_p0_cords p0_isLuck c_p0_isLuck b_p0_isLuck p0_isTight c_p0_isTight b_p0_isTight p0_knots c_p0_knots b_p0_knots p0_laws c_p0_laws b_p0_laws p0_walks c_p0_walks b_p0_walks p0_wants c_p0_wants b_p0_wants tk nm rb r Y := fun r X Y h h1 => by obtain ⟨x0, hx⟩ := h1; exact ⟨x0, h _ hx⟩
set_option maxHeartbeats 4000000 in
set_option maxRecDepth 100000 in
theorem r_isFull (l : Launch) (dC : Nat → ClassId) (dI : Nat → Nat → Nat) (sz : Nat) (p0 : Nat) (f_p0 : List Value) (p0_cords : Nat) (c_p0_cords : ClassId) (b_p0_cords : Nat → Int32) (p0_isLuck : Nat) (c_p0_isLuck : ClassId) (b_p0_isLuck : Nat → Int32) (p0_isTight : Nat) (c_p0_isTight : ClassId) (b_p0_isTight : Nat → Int32) (p0_knots : Nat) (c_p0_knots : ClassId) (b_p0_knots : Nat → Int32) (p0_laws : Nat) (c_p0_laws : ClassId) (b_p0_laws : Nat → Int32) (p0_walks : Nat) (c_p0_walks : ClassId) (b_p0_walks : Nat → Int32) (p0_wants : Nat) (c_p0_wants : ClassId) (b_p0_wants : Nat → Int32) (tk : Int32) (nm : Int64) (rb : Int32) (ho_p0 : OKX9 f_p0) (fr_p0_11 : q_rf f_p0 11 p0_knots) (fr_p0_12 : q_rf f_p0 12 p0_cords) (fr_p0_13 : q_rf f_p0 13 p0_walks) (fr_p0_14 : q_rf f_p0 14 p0_laws) (fr_p0_15 : q_rf f_p0 15 p0_wants) (fr_p0_19 : q_rf f_p0 19 p0_isTight) (fr_p0_20 : q_rf f_p0 20 p0_isLuck) (hr_p0_cords : q_rg 2 (0) 4 b_p0_cords) (hr_p0_isLuck : q_rg 2 (0) 1 b_p0_isLuck) (hr_p0_isTight : q_rg 2 (0) 1 b_p0_isTight) (hr_p0_knots : q_rg 2 (0) 6 b_p0_knots) (hr_p0_laws : q_rg 2 (0) 3 b_p0_laws) (hr_p0_walks : q_rg 2 (0) 4 b_p0_walks) (hr_p0_wants : q_rg 2 (0) 4 b_p0_wants) (pf_tk : q_if f_p0 8 tk) (pf_nm : q_lf f_p0 10 nm) (pf_rb : q_if f_p0 44 rb) (htk : tk.toInt = 3) : Met l yX9_isFull zw_r_isFull ({ frames := 1, cells := 0, slots := 0, locals := 22 }) (va_Pc [.ref p0] (q_pre (dC, dI) (zW_r_isFull p0 f_p0 p0_cords c_p0_cords b_p0_cords p0_isLuck c_p0_isLuck b_p0_isLuck p0_isTight c_p0_isTight b_p0_isTight p0_knots c_p0_knots b_p0_knots p0_laws c_p0_laws b_p0_laws p0_walks c_p0_walks b_p0_walks p0_wants c_p0_wants b_p0_wants) (zT_r_isFull c_p0_cords c_p0_isLuck c_p0_isTight c_p0_knots c_p0_laws c_p0_walks c_p0_wants) q_E0 sz)) (q_Qi (dC, dI) (zG_r_isFull p0 f_p0 p0_cords c_p0_cords b_p0_cords p0_isLuck c_p0_isLuck b_p0_isLuck p0_isTight c_p0_isTight b_p0_isTight p0_knots c_p0_knots b_p0_knots p0_laws c_p0_laws b_p0_laws p0_walks c_p0_walks b_p0_walks p0_wants c_p0_wants b_p0_wants tk nm rb) (zA_r_isFull p0 p0_cords p0_isLuck p0_isTight p0_knots p0_laws p0_walks p0_wants) (va_A (zW_r_isFull p0 f_p0 p0_cords c_p0_cords b_p0_cords p0_isLuck c_p0_isLuck b_p0_isLuck p0_isTight c_p0_isTight b_p0_isTight p0_knots c_p0_knots b_p0_knots p0_laws c_p0_laws b_p0_laws p0_walks c_p0_walks b_p0_walks p0_wants c_p0_wants b_p0_wants) sz)) 0 0 (va_A (zW_r_isFull p0 f_p0 p0_cords c_p0_cords b_p0_cords p0_isLuck c_p0_isLuck b_p0_isLuck p0_isTight c_p0_isTight b_p0_isTight p0_knots c_p0_knots b_p0_knots p0_laws c_p0_laws b_p0_laws p0_walks c_p0_walks b_p0_walks p0_wants c_p0_wants b_p0_wants) sz) := by
  refine Met.ofW (cc := cX9_isFull) (maxL := 1) (ret := (some .boolean)) (by decide) rfl ?_
  intro p e s m args below meth c s₁ B hml hv
  obtain ⟨rfl, hsz, hP, hK, hD0, hE⟩ := hv
  have hx := B.exec
  have hb := B.bytes
  have hr := B.returns
  have hts := atoms_spec (ws := zw_r_isFull) B.pre
  have hown : s.vm.findClass RX9 = some m.cls := findClass_of_methodNamed B.named
  have hlocks := B.notSynchronized
  subst hsz
  have hD := hD0.self (sz := s.heap.size)
  generalize hAe : va_A (zW_r_isFull p0 f_p0 p0_cords c_p0_cords b_p0_cords p0_isLuck c_p0_isLuck b_p0_isLuck p0_isTight c_p0_isTight b_p0_isTight p0_knots c_p0_knots b_p0_knots p0_laws c_p0_laws b_p0_laws p0_walks c_p0_walks b_p0_walks p0_wants c_p0_wants b_p0_wants) s.heap.size = A at hD hE ⊢
  have hA : ∀ q : Nat, s.heap.size ≤ q → A q := fun q h => by rw [← hAe]; exact Or.inr h
  have hDa : q_DA A (zA_r_isFull p0 p0_cords p0_isLuck p0_isTight p0_knots p0_laws p0_walks p0_wants) := q_DA.mk hD za_r_isFull
  clear hAe hD0 hD
  have hS : va_S A s.heap s.heap [] := va_S.rf
  have m_0 : (.constantLong RX9 176 (1802399604) : Cond) ∈ zw_r_isFull := List.mem_append_left _ (List.mem_of_getElem? (i := 1) rfl)
  have k_0 := hts _ m_0
  have m_1 : (.methodLink RX9 268 yX9_isWord : Cond) ∈ zw_r_isFull := List.mem_append_left _ (List.mem_of_getElem? (i := 2) rfl)
  have k_1 := hts _ m_1
  have m_2 : (.instanceMethod yX9_isWord : Cond) ∈ zw_r_isFull := List.mem_append_left _ (List.mem_of_getElem? (i := 3) rfl)
  have k_2 := hts _ m_2
  have m_3 : (.selects RX9 yX9_isWord yX9_isWord : Cond) ∈ zw_r_isFull := List.mem_append_left _ (List.mem_of_getElem? (i := 4) rfl)
  have k_3 := hts _ m_3
  have m_4 : (.initialized RX9 : Cond) ∈ zw_r_isFull := List.mem_append_left _ (List.mem_of_getElem? (i := 5) rfl)
  have k_4 := hts _ m_4
  have m_5 : (.fieldLink RX9 20 "BowWalkModel" "knots" "[I" : Cond) ∈ zw_r_isFull := List.mem_append_left _ (List.mem_of_getElem? (i := 6) rfl)
  have k_5 := hts _ m_5
  have m_6 : (.fieldLink RX9 279 "BowWalkModel" "rb" "I" : Cond) ∈ zw_r_isFull := List.mem_append_left _ (List.mem_of_getElem? (i := 7) rfl)
  have k_6 := hts _ m_6
  have m_7 : (.constantLong RX9 182 (1668248164) : Cond) ∈ zw_r_isFull := List.mem_append_left _ (List.mem_of_getElem? (i := 8) rfl)
  have k_7 := hts _ m_7
  have m_8 : (.fieldLink RX9 24 "BowWalkModel" "cords" "[I" : Cond) ∈ zw_r_isFull := List.mem_append_left _ (List.mem_of_getElem? (i := 9) rfl)
  have k_8 := hts _ m_8
  have m_9 : (.constantLong RX9 190 (2002873451) : Cond) ∈ zw_r_isFull := List.mem_append_left _ (List.mem_of_getElem? (i := 10) rfl)
  have k_9 := hts _ m_9
  have m_10 : (.fieldLink RX9 27 "BowWalkModel" "walks" "[I" : Cond) ∈ zw_r_isFull := List.mem_append_left _ (List.mem_of_getElem? (i := 11) rfl)
  have k_10 := hts _ m_10
  have m_11 : (.constantLong RX9 196 (7102839) : Cond) ∈ zw_r_isFull := List.mem_append_left _ (List.mem_of_getElem? (i := 12) rfl)
  have k_11 := hts _ m_11
  have m_12 : (.fieldLink RX9 30 "BowWalkModel" "laws" "[I" : Cond) ∈ zw_r_isFull := List.mem_append_left _ (List.mem_of_getElem? (i := 13) rfl)
  have k_12 := hts _ m_12
  have m_13 : (.constantLong RX9 202 (2002873972) : Cond) ∈ zw_r_isFull := List.mem_append_left _ (List.mem_of_getElem? (i := 14) rfl)
  have k_13 := hts _ m_13
  have m_14 : (.fieldLink RX9 33 "BowWalkModel" "wants" "[I" : Cond) ∈ zw_r_isFull := List.mem_append_left _ (List.mem_of_getElem? (i := 15) rfl)
  have k_14 := hts _ m_14
  have m_15 : (.constantLong RX9 192 (499984590964) : Cond) ∈ zw_r_isFull := List.mem_append_left _ (List.mem_of_getElem? (i := 16) rfl)
  have k_15 := hts _ m_15
  have m_16 : (.fieldLink RX9 45 "BowWalkModel" "isTight" "[Z" : Cond) ∈ zw_r_isFull := List.mem_append_left _ (List.mem_of_getElem? (i := 17) rfl)
  have k_16 := hts _ m_16
  have m_17 : (.constantLong RX9 194 (1819632491) : Cond) ∈ zw_r_isFull := List.mem_append_left _ (List.mem_of_getElem? (i := 18) rfl)
  have k_17 := hts _ m_17
  have m_18 : (.fieldLink RX9 49 "BowWalkModel" "isLuck" "[Z" : Cond) ∈ zw_r_isFull := List.mem_append_left _ (List.mem_of_getElem? (i := 19) rfl)
  have k_18 := hts _ m_18
  have g_r_isWord : ∀ w ∈ zw_r_isWord, w ∈ zw_r_isFull := fun w h => List.mem_append_right _ (List.mem_append_left _ h)
  have i_X9 : ∀ w ∈ u_ws RX9 TX9 81, w ∈ zw_r_isFull := fun w h => List.mem_append_right _ (List.mem_append_right _ (List.mem_append_left _ h))
  have lt_0 : (0 : Int32).toInt = 0 := by decide
  have lt_1 : (1 : Int32).toInt = 1 := by decide
  have lt_3 : (3 : Int32).toInt = 3 := by decide
  have lt_4 : (4 : Int32).toInt = 4 := by decide
  have lt_6 : (6 : Int32).toInt = 6 := by decide
  have hl := lv_entry ([.ref p0]) (n := 1) (Nat.le_of_ble_eq_true rfl)
  rw [lg_entry_eq]
  generalize (lg_sl ([.ref p0]) ++ List.replicate (1 - (lg_sl ([.ref p0])).length) Slot.unset).toArray = ls at hl ⊢
  have hl : lv_has ls 1 [(0, .ref p0)] := hl
  have ttk := (OKX9_g8 ho_p0).use pf_tk
  have trb := (OKX9_g44 ho_p0).use pf_rb
  refine lv_aload_n hx hb dX9_isFull_0 rfl (lv_at hl 0 rfl) (lv_ldc2 (v := 1802399604) hx hb hown k_0 dX9_isFull_1 ?_)
  refine q_cVi (As := [.long 1802399604]) (rest := []) q_w0 trivial hK hP hDa za_r_isFull hS hA [0] [] (by decide +kernel) ⟨hx, hb, hml, hown, hts⟩ (r_isWord l dC dI s.heap.size p0 f_p0 1802399604 tk nm ho_p0 pf_tk pf_nm) rfl rfl (cwV 1 hts (p1_gV m_1 m_2 m_3 m_4 g_r_isWord gz_r_isWord) rfl rfl rfl (by decide +kernel) ⟨by decide, by decide⟩) (va_recv hK hP (ci := 8) (q0 := 0) rfl rfl) zm_r_isWord rfl hl.1 rfl (Nat.le_of_ble_eq_true rfl) dX9_isFull_4 ⟨by decide, by decide⟩ (fun r_1 H2 lo2 hG2 hS2 => ?_)
  obtain ⟨z_3, hQ2⟩ := hG2
  have hP2 : va_P (dC, dI) vwCl (zW_r_isFull p0 f_p0 p0_cords c_p0_cords b_p0_cords p0_isLuck c_p0_isLuck b_p0_isLuck p0_isTight c_p0_isTight b_p0_isTight p0_knots c_p0_knots b_p0_knots p0_laws c_p0_laws b_p0_laws p0_walks c_p0_walks b_p0_walks p0_wants c_p0_wants b_p0_wants) H2 := hQ2
  clear hQ2 hP hS
  rcases z_3 with ⟨rfl, z_3⟩ | ⟨rfl, z_3⟩
  · refine lv_if_eq (tgt := 30) hx hb dX9_isFull_7 (by decide) (fun c_4 => absurd c_4 (by decide)) (fun c_4 => ?_)
    refine lv_aload_n hx hb dX9_isFull_10 rfl (lv_at hl 0 rfl) (qg_X9_11 hx hb hts i_X9 hown hK hP2 0 rfl k_5 fr_p0_11 dX9_isFull_11 (lv_aload_n hx hb dX9_isFull_14 rfl (lv_at hl 0 rfl) (qg_X9_44 hx hb hts i_X9 hown hK hP2 0 rfl k_6 pf_rb dX9_isFull_15 (q_ild hx hb hK hP2 4 3 rfl rfl (q_in (by omega) (by omega)) dX9_isFull_18 (fun v_5 ev_5 => ?_)))))
    have uv_5 : v_5.toInt = (b_p0_knots rb.toNatClampNeg).toInt := by rw [ev_5]
    have tv_5 := q_rd' hr_p0_knots (q_in (by omega) (by omega)) ev_5
    refine lv_bipush (v := 6) hx hb dX9_isFull_19 (by decide) ?_
    refine lv_icmp_ne (tgt := 28) hx hb dX9_isFull_21 (by decide) (fun c_6 => ?_) (fun c_6 => ?_)
    · have tc_6 := q_ne c_6
      refine lv_iconst (v := 0) hx hb dX9_isFull_28 (by decide) ?_
      exact q_zret hx hb hr hlocks (by decide) hS2 dX9_isFull_29 ⟨(Or.inr ⟨rfl, fun _ => by omega, fun h => absurd (z_3.2.symm.trans h) (by decide), fun h => absurd (z_3.2.symm.trans h) (by decide), fun h => absurd (z_3.2.symm.trans h) (by decide), fun h => absurd (z_3.2.symm.trans h) (by decide)⟩), hP2, za_r_isFull⟩
    · have tc_6 := q_eqN c_6
      refine lv_iconst (v := 1) hx hb dX9_isFull_24 (by decide) (lv_goto (tgt := 29) hx hb dX9_isFull_25 (by decide) ?_)
      exact q_zret hx hb hr hlocks (by decide) hS2 dX9_isFull_29 ⟨(Or.inl ⟨rfl, trivial⟩), hP2, za_r_isFull⟩
  · have nwz_3 := z_3.resolve_left (by omega)
    refine lv_if_eq (tgt := 30) hx hb dX9_isFull_7 (by decide) (fun c_7 => ?_) (fun c_7 => absurd c_7 (by decide))
    refine lv_aload_n hx hb dX9_isFull_30 rfl (lv_at hl 0 rfl) (lv_ldc2 (v := 1668248164) hx hb hown k_7 dX9_isFull_31 ?_)
    refine q_cVi (As := [.long 1668248164]) (rest := []) q_w0 trivial hK hP2 hDa za_r_isFull hS2 hA [0] [] (by decide +kernel) ⟨hx, hb, hml, hown, hts⟩ (r_isWord l dC dI H2.size p0 f_p0 1668248164 tk nm ho_p0 pf_tk pf_nm) rfl rfl (cwV 1 hts (p1_gV m_1 m_2 m_3 m_4 g_r_isWord gz_r_isWord) rfl rfl rfl (by decide +kernel) ⟨by decide, by decide⟩) (va_recv hK hP2 (ci := 8) (q0 := 0) rfl rfl) zm_r_isWord rfl hl.1 rfl (Nat.le_of_ble_eq_true rfl) dX9_isFull_34 ⟨by decide, by decide⟩ (fun r_8 H9 lo9 hG9 hS9 => ?_)
    obtain ⟨z_10, hQ9⟩ := hG9
    have hP9 : va_P (dC, dI) vwCl (zW_r_isFull p0 f_p0 p0_cords c_p0_cords b_p0_cords p0_isLuck c_p0_isLuck b_p0_isLuck p0_isTight c_p0_isTight b_p0_isTight p0_knots c_p0_knots b_p0_knots p0_laws c_p0_laws b_p0_laws p0_walks c_p0_walks b_p0_walks p0_wants c_p0_wants b_p0_wants) H9 := hQ9
    clear hQ9 hP2 hS2
    rcases z_10 with ⟨rfl, z_10⟩ | ⟨rfl, z_10⟩
    · refine lv_if_eq (tgt := 59) hx hb dX9_isFull_37 (by decide) (fun c_11 => absurd c_11 (by decide)) (fun c_11 => ?_)
      refine lv_aload_n hx hb dX9_isFull_40 rfl (lv_at hl 0 rfl) (qg_X9_12 hx hb hts i_X9 hown hK hP9 0 rfl k_8 fr_p0_12 dX9_isFull_41 (lv_aload_n hx hb dX9_isFull_44 rfl (lv_at hl 0 rfl) (qg_X9_44 hx hb hts i_X9 hown hK hP9 0 rfl k_6 pf_rb dX9_isFull_45 (q_ild hx hb hK hP9 1 0 rfl rfl (q_in (by omega) (by omega)) dX9_isFull_48 (fun v_12 ev_12 => ?_)))))
      have uv_12 : v_12.toInt = (b_p0_cords rb.toNatClampNeg).toInt := by rw [ev_12]
      have tv_12 := q_rd' hr_p0_cords (q_in (by omega) (by omega)) ev_12
      refine lv_iconst (v := 4) hx hb dX9_isFull_49 (by decide) ?_
      refine lv_icmp_ne (tgt := 57) hx hb dX9_isFull_50 (by decide) (fun c_13 => ?_) (fun c_13 => ?_)
      · have tc_13 := q_ne c_13
        refine lv_iconst (v := 0) hx hb dX9_isFull_57 (by decide) ?_
        exact q_zret hx hb hr hlocks (by decide) hS9 dX9_isFull_58 ⟨(Or.inr ⟨rfl, fun h => absurd (z_10.2.symm.trans h) (by decide), fun _ => by omega, fun h => absurd (z_10.2.symm.trans h) (by decide), fun h => absurd (z_10.2.symm.trans h) (by decide), fun h => absurd (z_10.2.symm.trans h) (by decide)⟩), hP9, za_r_isFull⟩
      · have tc_13 := q_eqN c_13
        refine lv_iconst (v := 1) hx hb dX9_isFull_53 (by decide) (lv_goto (tgt := 58) hx hb dX9_isFull_54 (by decide) ?_)
        exact q_zret hx hb hr hlocks (by decide) hS9 dX9_isFull_58 ⟨(Or.inl ⟨rfl, trivial⟩), hP9, za_r_isFull⟩
    · have nwz_10 := z_10.resolve_left (by omega)
      refine lv_if_eq (tgt := 59) hx hb dX9_isFull_37 (by decide) (fun c_14 => ?_) (fun c_14 => absurd c_14 (by decide))
      refine lv_aload_n hx hb dX9_isFull_59 rfl (lv_at hl 0 rfl) (lv_ldc2 (v := 2002873451) hx hb hown k_9 dX9_isFull_60 ?_)
      refine q_cVi (As := [.long 2002873451]) (rest := []) q_w0 trivial hK hP9 hDa za_r_isFull hS9 hA [0] [] (by decide +kernel) ⟨hx, hb, hml, hown, hts⟩ (r_isWord l dC dI H9.size p0 f_p0 2002873451 tk nm ho_p0 pf_tk pf_nm) rfl rfl (cwV 1 hts (p1_gV m_1 m_2 m_3 m_4 g_r_isWord gz_r_isWord) rfl rfl rfl (by decide +kernel) ⟨by decide, by decide⟩) (va_recv hK hP9 (ci := 8) (q0 := 0) rfl rfl) zm_r_isWord rfl hl.1 rfl (Nat.le_of_ble_eq_true rfl) dX9_isFull_63 ⟨by decide, by decide⟩ (fun r_15 H16 lo16 hG16 hS16 => ?_)
      obtain ⟨z_17, hQ16⟩ := hG16
      have hP16 : va_P (dC, dI) vwCl (zW_r_isFull p0 f_p0 p0_cords c_p0_cords b_p0_cords p0_isLuck c_p0_isLuck b_p0_isLuck p0_isTight c_p0_isTight b_p0_isTight p0_knots c_p0_knots b_p0_knots p0_laws c_p0_laws b_p0_laws p0_walks c_p0_walks b_p0_walks p0_wants c_p0_wants b_p0_wants) H16 := hQ16
      clear hQ16 hP9 hS9
      rcases z_17 with ⟨rfl, z_17⟩ | ⟨rfl, z_17⟩
      · refine lv_if_eq (tgt := 88) hx hb dX9_isFull_66 (by decide) (fun c_18 => absurd c_18 (by decide)) (fun c_18 => ?_)
        refine lv_aload_n hx hb dX9_isFull_69 rfl (lv_at hl 0 rfl) (qg_X9_13 hx hb hts i_X9 hown hK hP16 0 rfl k_10 fr_p0_13 dX9_isFull_70 (lv_aload_n hx hb dX9_isFull_73 rfl (lv_at hl 0 rfl) (qg_X9_44 hx hb hts i_X9 hown hK hP16 0 rfl k_6 pf_rb dX9_isFull_74 (q_ild hx hb hK hP16 6 5 rfl rfl (q_in (by omega) (by omega)) dX9_isFull_77 (fun v_19 ev_19 => ?_)))))
        have uv_19 : v_19.toInt = (b_p0_walks rb.toNatClampNeg).toInt := by rw [ev_19]
        have tv_19 := q_rd' hr_p0_walks (q_in (by omega) (by omega)) ev_19
        refine lv_iconst (v := 4) hx hb dX9_isFull_78 (by decide) ?_
        refine lv_icmp_ne (tgt := 86) hx hb dX9_isFull_79 (by decide) (fun c_20 => ?_) (fun c_20 => ?_)
        · have tc_20 := q_ne c_20
          refine lv_iconst (v := 0) hx hb dX9_isFull_86 (by decide) ?_
          exact q_zret hx hb hr hlocks (by decide) hS16 dX9_isFull_87 ⟨(Or.inr ⟨rfl, fun h => absurd (z_17.2.symm.trans h) (by decide), fun h => absurd (z_17.2.symm.trans h) (by decide), fun _ => by omega, fun h => absurd (z_17.2.symm.trans h) (by decide), fun h => absurd (z_17.2.symm.trans h) (by decide)⟩), hP16, za_r_isFull⟩
        · have tc_20 := q_eqN c_20
          refine lv_iconst (v := 1) hx hb dX9_isFull_82 (by decide) (lv_goto (tgt := 87) hx hb dX9_isFull_83 (by decide) ?_)
          exact q_zret hx hb hr hlocks (by decide) hS16 dX9_isFull_87 ⟨(Or.inl ⟨rfl, trivial⟩), hP16, za_r_isFull⟩
      · have nwz_17 := z_17.resolve_left (by omega)
        refine lv_if_eq (tgt := 88) hx hb dX9_isFull_66 (by decide) (fun c_21 => ?_) (fun c_21 => absurd c_21 (by decide))
        refine lv_aload_n hx hb dX9_isFull_88 rfl (lv_at hl 0 rfl) (lv_ldc2 (v := 7102839) hx hb hown k_11 dX9_isFull_89 ?_)
        refine q_cVi (As := [.long 7102839]) (rest := []) q_w0 trivial hK hP16 hDa za_r_isFull hS16 hA [0] [] (by decide +kernel) ⟨hx, hb, hml, hown, hts⟩ (r_isWord l dC dI H16.size p0 f_p0 7102839 tk nm ho_p0 pf_tk pf_nm) rfl rfl (cwV 1 hts (p1_gV m_1 m_2 m_3 m_4 g_r_isWord gz_r_isWord) rfl rfl rfl (by decide +kernel) ⟨by decide, by decide⟩) (va_recv hK hP16 (ci := 8) (q0 := 0) rfl rfl) zm_r_isWord rfl hl.1 rfl (Nat.le_of_ble_eq_true rfl) dX9_isFull_92 ⟨by decide, by decide⟩ (fun r_22 H23 lo23 hG23 hS23 => ?_)
        obtain ⟨z_24, hQ23⟩ := hG23
        have hP23 : va_P (dC, dI) vwCl (zW_r_isFull p0 f_p0 p0_cords c_p0_cords b_p0_cords p0_isLuck c_p0_isLuck b_p0_isLuck p0_isTight c_p0_isTight b_p0_isTight p0_knots c_p0_knots b_p0_knots p0_laws c_p0_laws b_p0_laws p0_walks c_p0_walks b_p0_walks p0_wants c_p0_wants b_p0_wants) H23 := hQ23
        clear hQ23 hP16 hS16
        rcases z_24 with ⟨rfl, z_24⟩ | ⟨rfl, z_24⟩
        · refine lv_if_eq (tgt := 117) hx hb dX9_isFull_95 (by decide) (fun c_25 => absurd c_25 (by decide)) (fun c_25 => ?_)
          refine lv_aload_n hx hb dX9_isFull_98 rfl (lv_at hl 0 rfl) (qg_X9_14 hx hb hts i_X9 hown hK hP23 0 rfl k_12 fr_p0_14 dX9_isFull_99 (lv_aload_n hx hb dX9_isFull_102 rfl (lv_at hl 0 rfl) (qg_X9_44 hx hb hts i_X9 hown hK hP23 0 rfl k_6 pf_rb dX9_isFull_103 (q_ild hx hb hK hP23 5 4 rfl rfl (q_in (by omega) (by omega)) dX9_isFull_106 (fun v_26 ev_26 => ?_)))))
          have uv_26 : v_26.toInt = (b_p0_laws rb.toNatClampNeg).toInt := by rw [ev_26]
          have tv_26 := q_rd' hr_p0_laws (q_in (by omega) (by omega)) ev_26
          refine lv_iconst (v := 3) hx hb dX9_isFull_107 (by decide) ?_
          refine lv_icmp_ne (tgt := 115) hx hb dX9_isFull_108 (by decide) (fun c_27 => ?_) (fun c_27 => ?_)
          · have tc_27 := q_ne c_27
            refine lv_iconst (v := 0) hx hb dX9_isFull_115 (by decide) ?_
            exact q_zret hx hb hr hlocks (by decide) hS23 dX9_isFull_116 ⟨(Or.inr ⟨rfl, fun h => absurd (z_24.2.symm.trans h) (by decide), fun h => absurd (z_24.2.symm.trans h) (by decide), fun h => absurd (z_24.2.symm.trans h) (by decide), fun _ => by omega, fun h => absurd (z_24.2.symm.trans h) (by decide)⟩), hP23, za_r_isFull⟩
          · have tc_27 := q_eqN c_27
            refine lv_iconst (v := 1) hx hb dX9_isFull_111 (by decide) (lv_goto (tgt := 116) hx hb dX9_isFull_112 (by decide) ?_)
            exact q_zret hx hb hr hlocks (by decide) hS23 dX9_isFull_116 ⟨(Or.inl ⟨rfl, trivial⟩), hP23, za_r_isFull⟩
        · have nwz_24 := z_24.resolve_left (by omega)
          refine lv_if_eq (tgt := 117) hx hb dX9_isFull_95 (by decide) (fun c_28 => ?_) (fun c_28 => absurd c_28 (by decide))
          refine lv_aload_n hx hb dX9_isFull_117 rfl (lv_at hl 0 rfl) (lv_ldc2 (v := 2002873972) hx hb hown k_13 dX9_isFull_118 ?_)
          refine q_cVi (As := [.long 2002873972]) (rest := []) q_w0 trivial hK hP23 hDa za_r_isFull hS23 hA [0] [] (by decide +kernel) ⟨hx, hb, hml, hown, hts⟩ (r_isWord l dC dI H23.size p0 f_p0 2002873972 tk nm ho_p0 pf_tk pf_nm) rfl rfl (cwV 1 hts (p1_gV m_1 m_2 m_3 m_4 g_r_isWord gz_r_isWord) rfl rfl rfl (by decide +kernel) ⟨by decide, by decide⟩) (va_recv hK hP23 (ci := 8) (q0 := 0) rfl rfl) zm_r_isWord rfl hl.1 rfl (Nat.le_of_ble_eq_true rfl) dX9_isFull_121 ⟨by decide, by decide⟩ (fun r_29 H30 lo30 hG30 hS30 => ?_)
          obtain ⟨z_31, hQ30⟩ := hG30
          have hP30 : va_P (dC, dI) vwCl (zW_r_isFull p0 f_p0 p0_cords c_p0_cords b_p0_cords p0_isLuck c_p0_isLuck b_p0_isLuck p0_isTight c_p0_isTight b_p0_isTight p0_knots c_p0_knots b_p0_knots p0_laws c_p0_laws b_p0_laws p0_walks c_p0_walks b_p0_walks p0_wants c_p0_wants b_p0_wants) H30 := hQ30
          clear hQ30 hP23 hS23
          rcases z_31 with ⟨rfl, z_31⟩ | ⟨rfl, z_31⟩
          · refine lv_if_eq (tgt := 146) hx hb dX9_isFull_124 (by decide) (fun c_32 => absurd c_32 (by decide)) (fun c_32 => ?_)
            refine lv_aload_n hx hb dX9_isFull_127 rfl (lv_at hl 0 rfl) (qg_X9_15 hx hb hts i_X9 hown hK hP30 0 rfl k_14 fr_p0_15 dX9_isFull_128 (lv_aload_n hx hb dX9_isFull_131 rfl (lv_at hl 0 rfl) (qg_X9_44 hx hb hts i_X9 hown hK hP30 0 rfl k_6 pf_rb dX9_isFull_132 (q_ild hx hb hK hP30 7 6 rfl rfl (q_in (by omega) (by omega)) dX9_isFull_135 (fun v_33 ev_33 => ?_)))))
            have uv_33 : v_33.toInt = (b_p0_wants rb.toNatClampNeg).toInt := by rw [ev_33]
            have tv_33 := q_rd' hr_p0_wants (q_in (by omega) (by omega)) ev_33
            refine lv_iconst (v := 4) hx hb dX9_isFull_136 (by decide) ?_
            refine lv_icmp_ne (tgt := 144) hx hb dX9_isFull_137 (by decide) (fun c_34 => ?_) (fun c_34 => ?_)
            · have tc_34 := q_ne c_34
              refine lv_iconst (v := 0) hx hb dX9_isFull_144 (by decide) ?_
              exact q_zret hx hb hr hlocks (by decide) hS30 dX9_isFull_145 ⟨(Or.inr ⟨rfl, fun h => absurd (z_31.2.symm.trans h) (by decide), fun h => absurd (z_31.2.symm.trans h) (by decide), fun h => absurd (z_31.2.symm.trans h) (by decide), fun h => absurd (z_31.2.symm.trans h) (by decide), fun _ => by omega⟩), hP30, za_r_isFull⟩
            · have tc_34 := q_eqN c_34
              refine lv_iconst (v := 1) hx hb dX9_isFull_140 (by decide) (lv_goto (tgt := 145) hx hb dX9_isFull_141 (by decide) ?_)
              exact q_zret hx hb hr hlocks (by decide) hS30 dX9_isFull_145 ⟨(Or.inl ⟨rfl, trivial⟩), hP30, za_r_isFull⟩
          · have nwz_31 := z_31.resolve_left (by omega)
            refine lv_if_eq (tgt := 146) hx hb dX9_isFull_124 (by decide) (fun c_35 => ?_) (fun c_35 => absurd c_35 (by decide))
            refine lv_aload_n hx hb dX9_isFull_146 rfl (lv_at hl 0 rfl) (lv_ldc2 (v := 499984590964) hx hb hown k_15 dX9_isFull_147 ?_)
            refine q_cVi (As := [.long 499984590964]) (rest := []) q_w0 trivial hK hP30 hDa za_r_isFull hS30 hA [0] [] (by decide +kernel) ⟨hx, hb, hml, hown, hts⟩ (r_isWord l dC dI H30.size p0 f_p0 499984590964 tk nm ho_p0 pf_tk pf_nm) rfl rfl (cwV 1 hts (p1_gV m_1 m_2 m_3 m_4 g_r_isWord gz_r_isWord) rfl rfl rfl (by decide +kernel) ⟨by decide, by decide⟩) (va_recv hK hP30 (ci := 8) (q0 := 0) rfl rfl) zm_r_isWord rfl hl.1 rfl (Nat.le_of_ble_eq_true rfl) dX9_isFull_150 ⟨by decide, by decide⟩ (fun r_36 H37 lo37 hG37 hS37 => ?_)
            obtain ⟨z_38, hQ37⟩ := hG37
            have hP37 : va_P (dC, dI) vwCl (zW_r_isFull p0 f_p0 p0_cords c_p0_cords b_p0_cords p0_isLuck c_p0_isLuck b_p0_isLuck p0_isTight c_p0_isTight b_p0_isTight p0_knots c_p0_knots b_p0_knots p0_laws c_p0_laws b_p0_laws p0_walks c_p0_walks b_p0_walks p0_wants c_p0_wants b_p0_wants) H37 := hQ37
            clear hQ37 hP30 hS30
            rcases z_38 with ⟨rfl, z_38⟩ | ⟨rfl, z_38⟩
            · refine lv_if_eq (tgt := 166) hx hb dX9_isFull_153 (by decide) (fun c_39 => absurd c_39 (by decide)) (fun c_39 => ?_)
              refine lv_aload_n hx hb dX9_isFull_156 rfl (lv_at hl 0 rfl) (qg_X9_19 hx hb hts i_X9 hown hK hP37 0 rfl k_16 fr_p0_19 dX9_isFull_157 (lv_aload_n hx hb dX9_isFull_160 rfl (lv_at hl 0 rfl) (qg_X9_44 hx hb hts i_X9 hown hK hP37 0 rfl k_6 pf_rb dX9_isFull_161 (q_zld hx hb hK hP37 3 2 rfl rfl (q_in (by omega) (by omega)) dX9_isFull_164 (fun v_40 ev_40 => ?_)))))
              have tv_40 := q_rd' hr_p0_isTight (q_in (by omega) (by omega)) ev_40
              rcases q_c2 (i := v_40) (by omega) (by omega) with hb_41 | hb_41
              · exact q_zret hx hb hr hlocks (by rw [hb_41]; decide) hS37 dX9_isFull_165 ⟨(Or.inr ⟨hb_41, fun h => absurd (z_38.2.symm.trans h) (by decide), fun h => absurd (z_38.2.symm.trans h) (by decide), fun h => absurd (z_38.2.symm.trans h) (by decide), fun h => absurd (z_38.2.symm.trans h) (by decide), fun h => absurd (z_38.2.symm.trans h) (by decide)⟩), hP37, za_r_isFull⟩
              · exact q_zret hx hb hr hlocks (by rw [hb_41]; decide) hS37 dX9_isFull_165 ⟨(Or.inl ⟨hb_41, trivial⟩), hP37, za_r_isFull⟩
            · have nwz_38 := z_38.resolve_left (by omega)
              refine lv_if_eq (tgt := 166) hx hb dX9_isFull_153 (by decide) (fun c_42 => ?_) (fun c_42 => absurd c_42 (by decide))
              refine lv_aload_n hx hb dX9_isFull_166 rfl (lv_at hl 0 rfl) (lv_ldc2 (v := 1819632491) hx hb hown k_17 dX9_isFull_167 ?_)
              refine q_cVi (As := [.long 1819632491]) (rest := []) q_w0 trivial hK hP37 hDa za_r_isFull hS37 hA [0] [] (by decide +kernel) ⟨hx, hb, hml, hown, hts⟩ (r_isWord l dC dI H37.size p0 f_p0 1819632491 tk nm ho_p0 pf_tk pf_nm) rfl rfl (cwV 1 hts (p1_gV m_1 m_2 m_3 m_4 g_r_isWord gz_r_isWord) rfl rfl rfl (by decide +kernel) ⟨by decide, by decide⟩) (va_recv hK hP37 (ci := 8) (q0 := 0) rfl rfl) zm_r_isWord rfl hl.1 rfl (Nat.le_of_ble_eq_true rfl) dX9_isFull_170 ⟨by decide, by decide⟩ (fun r_43 H44 lo44 hG44 hS44 => ?_)
              obtain ⟨z_45, hQ44⟩ := hG44
              have hP44 : va_P (dC, dI) vwCl (zW_r_isFull p0 f_p0 p0_cords c_p0_cords b_p0_cords p0_isLuck c_p0_isLuck b_p0_isLuck p0_isTight c_p0_isTight b_p0_isTight p0_knots c_p0_knots b_p0_knots p0_laws c_p0_laws b_p0_laws p0_walks c_p0_walks b_p0_walks p0_wants c_p0_wants b_p0_wants) H44 := hQ44
              clear hQ44 hP37 hS37
              rcases z_45 with ⟨rfl, z_45⟩ | ⟨rfl, z_45⟩
              · refine lv_if_eq (tgt := 188) hx hb dX9_isFull_173 (by decide) (fun c_46 => absurd c_46 (by decide)) (fun c_46 => ?_)
                refine lv_aload_n hx hb dX9_isFull_176 rfl (lv_at hl 0 rfl) (qg_X9_20 hx hb hts i_X9 hown hK hP44 0 rfl k_18 fr_p0_20 dX9_isFull_177 (lv_aload_n hx hb dX9_isFull_180 rfl (lv_at hl 0 rfl) (qg_X9_44 hx hb hts i_X9 hown hK hP44 0 rfl k_6 pf_rb dX9_isFull_181 (q_zld hx hb hK hP44 2 1 rfl rfl (q_in (by omega) (by omega)) dX9_isFull_184 (fun v_47 ev_47 => ?_)))))
                have tv_47 := q_rd' hr_p0_isLuck (q_in (by omega) (by omega)) ev_47
                refine lv_if_eq (tgt := 192) hx hb dX9_isFull_185 (by decide) (fun c_48 => ?_) (fun c_48 => ?_)
                · have tc_48 := q_eq c_48
                  refine lv_iconst (v := 0) hx hb dX9_isFull_192 (by decide) ?_
                  exact q_zret hx hb hr hlocks (by decide) hS44 dX9_isFull_193 ⟨(Or.inr ⟨rfl, fun h => absurd (z_45.2.symm.trans h) (by decide), fun h => absurd (z_45.2.symm.trans h) (by decide), fun h => absurd (z_45.2.symm.trans h) (by decide), fun h => absurd (z_45.2.symm.trans h) (by decide), fun h => absurd (z_45.2.symm.trans h) (by decide)⟩), hP44, za_r_isFull⟩
                · have tc_48 := q_neN c_48
                  refine lv_iconst (v := 1) hx hb dX9_isFull_188 (by decide) (lv_goto (tgt := 193) hx hb dX9_isFull_189 (by decide) ?_)
                  exact q_zret hx hb hr hlocks (by decide) hS44 dX9_isFull_193 ⟨(Or.inl ⟨rfl, trivial⟩), hP44, za_r_isFull⟩
              · have nwz_45 := z_45.resolve_left (by omega)
                refine lv_if_eq (tgt := 188) hx hb dX9_isFull_173 (by decide) (fun c_49 => ?_) (fun c_49 => absurd c_49 (by decide))
                refine lv_iconst (v := 1) hx hb dX9_isFull_188 (by decide) (lv_goto (tgt := 193) hx hb dX9_isFull_189 (by decide) ?_)
                exact q_zret hx hb hr hlocks (by decide) hS44 dX9_isFull_193 ⟨(Or.inl ⟨rfl, trivial⟩), hP44, za_r_isFull⟩
