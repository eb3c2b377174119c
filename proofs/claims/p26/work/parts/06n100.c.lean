def zo_r_isIn : List Cond := [.code yX9_isIn cX9_isIn 3 (some .boolean)]
def zw_r_isIn : List Cond := zo_r_isIn ++ []
theorem gz_r_isIn : zw_r_isIn.all goodWord = true := p1_ga (by decide +kernel) p1_g0
theorem iz_r_isIn : ∀ w ∈ zw_r_isIn, w ∈ lw_tbl := p1_ia (p1_all [1441] (by decide +kernel)) p1_i0
def zW_r_isIn : va_W := []
def zT_r_isIn : List (ClassId × FieldType) := []
def zA_r_isIn : List Nat := []
theorem za_r_isIn : (zW_r_isIn).map Prod.fst = zA_r_isIn := rfl
def zG_r_isIn (a0 : Int32) (a1 : Int32) (a2 : Int32) (r : Int32) (X : va_W → Prop) : Prop := ((r = 1 ∧ (a1.toInt ≤ a0.toInt ∧ a0.toInt ≤ a2.toInt)) ∨ (r = 0 ∧ (a0.toInt < a1.toInt ∨ a2.toInt < a0.toInt))) ∧ X (zW_r_isIn)
theorem zm_r_isIn {a0 : Int32} {a1 : Int32} {a2 : Int32} : ∀ (r : Int32), ∀ X Y : va_W → Prop, (∀ w, X w → Y w) → zG_r_isIn a0 a1 a2 r X → zG_r_isIn a0 a1 a2 r Y := fun r X Y h h1 => by obtain ⟨x0, hx⟩ := h1; exact ⟨x0, h _ hx⟩
set_option maxHeartbeats 4000000 in
set_option maxRecDepth 100000 in
theorem r_isIn (l : Launch) (dC : Nat → ClassId) (dI : Nat → Nat → Nat) (sz : Nat) (a0 : Int32) (a1 : Int32) (a2 : Int32) : Met l yX9_isIn zw_r_isIn ({ frames := 0, cells := 0, slots := 0, locals := 0 }) (va_Pc [.int a0, .int a1, .int a2] (q_pre (dC, dI) (zW_r_isIn) (zT_r_isIn) q_E0 sz)) (q_Qi (dC, dI) (zG_r_isIn a0 a1 a2) zA_r_isIn (va_A (zW_r_isIn) sz)) 0 0 (va_A (zW_r_isIn) sz) := by
  refine Met.ofW (cc := cX9_isIn) (maxL := 3) (ret := (some .boolean)) (by decide) rfl ?_
  intro p e s m args below meth c s₁ B hml hv
  obtain ⟨rfl, hsz, hP, hK, hD0, hE⟩ := hv
  have hx := B.exec
  have hb := B.bytes
  have hr := B.returns
  have hts := atoms_spec (ws := zw_r_isIn) B.pre
  have hown : s.vm.findClass RX9 = some m.cls := findClass_of_methodNamed B.named
  have hlocks := B.notSynchronized
  subst hsz
  have hD := hD0.self (sz := s.heap.size)
  generalize hAe : va_A (zW_r_isIn) s.heap.size = A at hD hE ⊢
  have hA : ∀ q : Nat, s.heap.size ≤ q → A q := fun q h => by rw [← hAe]; exact Or.inr h
  have hDa : q_DA A zA_r_isIn := q_DA.mk hD za_r_isIn
  clear hAe hD0 hD
  have hS : va_S A s.heap s.heap [] := va_S.rf
  have lt_0 : (0 : Int32).toInt = 0 := by decide
  have lt_1 : (1 : Int32).toInt = 1 := by decide
  have hl := lv_entry ([.int a0, .int a1, .int a2]) (n := 3) (Nat.le_of_ble_eq_true rfl)
  rw [lg_entry_eq]
  generalize (lg_sl ([.int a0, .int a1, .int a2]) ++ List.replicate (3 - (lg_sl ([.int a0, .int a1, .int a2])).length) Slot.unset).toArray = ls at hl ⊢
  have hl : lv_has ls 3 [(0, .int a0), (1, .int a1), (2, .int a2)] := hl
  refine lv_iload_n hx hb dX9_isIn_0 rfl (lv_at hl 0 rfl) (lv_iload_n hx hb dX9_isIn_1 rfl (lv_at hl 1 rfl) ?_)
  refine lv_icmp_lt (tgt := 14) hx hb dX9_isIn_2 (by decide) (fun c_1 => ?_) (fun c_1 => ?_)
  · have tc_1 := q_lt c_1
    refine lv_iconst (v := 0) hx hb dX9_isIn_14 (by decide) ?_
    exact q_zret hx hb hr hlocks (by decide) hS dX9_isIn_15 ⟨(Or.inr ⟨rfl, by first | trivial | omega⟩), hP, za_r_isIn⟩
  · have tc_1 := q_geN c_1
    refine lv_iload_n hx hb dX9_isIn_5 rfl (lv_at hl 0 rfl) (lv_iload_n hx hb dX9_isIn_6 rfl (lv_at hl 2 rfl) ?_)
    refine lv_icmp_gt (tgt := 14) hx hb dX9_isIn_7 (by decide) (fun c_2 => ?_) (fun c_2 => ?_)
    · have tc_2 := q_gt c_2
      refine lv_iconst (v := 0) hx hb dX9_isIn_14 (by decide) ?_
      exact q_zret hx hb hr hlocks (by decide) hS dX9_isIn_15 ⟨(Or.inr ⟨rfl, by first | trivial | omega⟩), hP, za_r_isIn⟩
    · have tc_2 := q_leN c_2
      refine lv_iconst (v := 1) hx hb dX9_isIn_10 (by decide) (lv_goto (tgt := 15) hx hb dX9_isIn_11 (by decide) ?_)
      exact q_zret hx hb hr hlocks (by decide) hS dX9_isIn_15 ⟨(Or.inl ⟨rfl, by first | trivial | omega⟩), hP, za_r_isIn⟩
def zo_r_isPart : List Cond := [.code yX9_isPart cX9_isPart 1 (some .boolean), .methodLink RX9 389 yX9_isIn, .static yX9_isIn, .initialized RX9]
def zw_r_isPart : List Cond := zo_r_isPart ++ (zw_r_isIn ++ [])
theorem gz_r_isPart : zw_r_isPart.all goodWord = true := p1_ga (by decide +kernel) (p1_ga gz_r_isIn p1_g0)
theorem iz_r_isPart : ∀ w ∈ zw_r_isPart, w ∈ lw_tbl := p1_ia (p1_all [1600, 1439, 1440, 116] (by decide +kernel)) (p1_ia iz_r_isIn p1_i0)
def zW_r_isPart : va_W := []
def zT_r_isPart : List (ClassId × FieldType) := []
def zA_r_isPart : List Nat := []
theorem za_r_isPart : (zW_r_isPart).map Prod.fst = zA_r_isPart := rfl
def zG_r_isPart (a0 : Int32) (r : Int32) (X : va_W → Prop) : Prop := ((r = 1 ∧ (0 ≤ a0.toInt ∧ a0.toInt ≤ 1)) ∨ (r = 0 ∧ (True))) ∧ X (zW_r_isPart)
theorem zm_r_isPart {a0 : Int32} : ∀ (r : Int32), ∀ X Y : va_W → Prop, (∀ w, X w → Y w) → zG_r_isPart a0 r X → zG_r_isPart a0 r Y := fun r X Y h h1 => by obtain ⟨x0, hx⟩ := h1; exact ⟨x0, h _ hx⟩
set_option maxHeartbeats 4000000 in
set_option maxRecDepth 100000 in
theorem r_isPart (l : Launch) (dC : Nat → ClassId) (dI : Nat → Nat → Nat) (sz : Nat) (a0 : Int32) : Met l yX9_isPart zw_r_isPart ({ frames := 1, cells := 0, slots := 0, locals := 22 }) (va_Pc [.int a0] (q_pre (dC, dI) (zW_r_isPart) (zT_r_isPart) q_E0 sz)) (q_Qi (dC, dI) (zG_r_isPart a0) zA_r_isPart (va_A (zW_r_isPart) sz)) 0 0 (va_A (zW_r_isPart) sz) := by
  refine Met.ofW (cc := cX9_isPart) (maxL := 1) (ret := (some .boolean)) (by decide) rfl ?_
  intro p e s m args below meth c s₁ B hml hv
  obtain ⟨rfl, hsz, hP, hK, hD0, hE⟩ := hv
  have hx := B.exec
  have hb := B.bytes
  have hr := B.returns
  have hts := atoms_spec (ws := zw_r_isPart) B.pre
  have hown : s.vm.findClass RX9 = some m.cls := findClass_of_methodNamed B.named
  have hlocks := B.notSynchronized
  subst hsz
  have hD := hD0.self (sz := s.heap.size)
  generalize hAe : va_A (zW_r_isPart) s.heap.size = A at hD hE ⊢
  have hA : ∀ q : Nat, s.heap.size ≤ q → A q := fun q h => by rw [← hAe]; exact Or.inr h
  have hDa : q_DA A zA_r_isPart := q_DA.mk hD za_r_isPart
  clear hAe hD0 hD
  have hS : va_S A s.heap s.heap [] := va_S.rf
  have m_0 : (.methodLink RX9 389 yX9_isIn : Cond) ∈ zw_r_isPart := List.mem_append_left _ (List.mem_of_getElem? (i := 1) rfl)
  have k_0 := hts _ m_0
  have m_1 : (.static yX9_isIn : Cond) ∈ zw_r_isPart := List.mem_append_left _ (List.mem_of_getElem? (i := 2) rfl)
  have k_1 := hts _ m_1
  have m_2 : (.initialized RX9 : Cond) ∈ zw_r_isPart := List.mem_append_left _ (List.mem_of_getElem? (i := 3) rfl)
  have k_2 := hts _ m_2
  have g_r_isIn : ∀ w ∈ zw_r_isIn, w ∈ zw_r_isPart := fun w h => List.mem_append_right _ (List.mem_append_left _ h)
  have lt_0 : (0 : Int32).toInt = 0 := by decide
  have lt_1 : (1 : Int32).toInt = 1 := by decide
  have hl := lv_entry ([.int a0]) (n := 1) (Nat.le_of_ble_eq_true rfl)
  rw [lg_entry_eq]
  generalize (lg_sl ([.int a0]) ++ List.replicate (1 - (lg_sl ([.int a0])).length) Slot.unset).toArray = ls at hl ⊢
  have hl : lv_has ls 1 [(0, .int a0)] := hl
  refine lv_iload_n hx hb dX9_isPart_0 rfl (lv_at hl 0 rfl) (lv_iconst (v := 0) hx hb dX9_isPart_1 (by decide) (lv_iconst (v := 1) hx hb dX9_isPart_2 (by decide) ?_))
  refine q_cSi (As := [.int a0, .int 0, .int 1]) (rest := []) q_w0 trivial hK hP hDa za_r_isPart hS hA [] [] (by decide +kernel) ⟨hx, hb, hml, hown, hts⟩ (r_isIn l dC dI s.heap.size a0 0 1) rfl rfl (va_cwS 3 hts (p1_gS m_0 m_1 m_2 g_r_isIn gz_r_isIn) rfl rfl rfl (by decide +kernel) ⟨by decide, by decide⟩) zm_r_isIn rfl hl.1 rfl (Nat.le_of_ble_eq_true rfl) dX9_isPart_3 ⟨by decide, by decide⟩ (fun r_1 H2 lo2 hG2 hS2 => ?_)
  obtain ⟨z_3, hQ2⟩ := hG2
  have hP2 : va_P (dC, dI) vwCl (zW_r_isPart) H2 := hQ2
  clear hQ2 hP hS
  rcases z_3 with ⟨rfl, z_3⟩ | ⟨rfl, z_3⟩
  · exact q_zret hx hb hr hlocks (by decide) hS2 dX9_isPart_6 ⟨(Or.inl ⟨rfl, by first | trivial | omega⟩), hP2, za_r_isPart⟩
  · exact q_zret hx hb hr hlocks (by decide) hS2 dX9_isPart_6 ⟨(Or.inr ⟨rfl, by first | trivial | omega⟩), hP2, za_r_isPart⟩
def zo_r_isLetter : List Cond := [.code yX9_isLetter cX9_isLetter 1 (some .boolean)]
def zw_r_isLetter : List Cond := zo_r_isLetter ++ []
theorem gz_r_isLetter : zw_r_isLetter.all goodWord = true := p1_ga (by decide +kernel) p1_g0
theorem iz_r_isLetter : ∀ w ∈ zw_r_isLetter, w ∈ lw_tbl := p1_ia (p1_all [1295] (by decide +kernel)) p1_i0
def zW_r_isLetter : va_W := []
def zT_r_isLetter : List (ClassId × FieldType) := []
def zA_r_isLetter : List Nat := []
theorem za_r_isLetter : (zW_r_isLetter).map Prod.fst = zA_r_isLetter := rfl
def zG_r_isLetter (a0 : Int32) (r : Int32) (X : va_W → Prop) : Prop := ((r = 1 ∧ (97 ≤ a0.toInt ∧ a0.toInt ≤ 122)) ∨ (r = 0 ∧ (a0.toInt < 97 ∨ 122 < a0.toInt))) ∧ X (zW_r_isLetter)
theorem zm_r_isLetter {a0 : Int32} : ∀ (r : Int32), ∀ X Y : va_W → Prop, (∀ w, X w → Y w) → zG_r_isLetter a0 r X → zG_r_isLetter a0 r Y := fun r X Y h h1 => by obtain ⟨x0, hx⟩ := h1; exact ⟨x0, h _ hx⟩
set_option maxHeartbeats 4000000 in
set_option maxRecDepth 100000 in
theorem r_isLetter (l : Launch) (dC : Nat → ClassId) (dI : Nat → Nat → Nat) (sz : Nat) (a0 : Int32) : Met l yX9_isLetter zw_r_isLetter ({ frames := 0, cells := 0, slots := 0, locals := 0 }) (va_Pc [.int a0] (q_pre (dC, dI) (zW_r_isLetter) (zT_r_isLetter) q_E0 sz)) (q_Qi (dC, dI) (zG_r_isLetter a0) zA_r_isLetter (va_A (zW_r_isLetter) sz)) 0 0 (va_A (zW_r_isLetter) sz) := by
  refine Met.ofW (cc := cX9_isLetter) (maxL := 1) (ret := (some .boolean)) (by decide) rfl ?_
  intro p e s m args below meth c s₁ B hml hv
  obtain ⟨rfl, hsz, hP, hK, hD0, hE⟩ := hv
  have hx := B.exec
  have hb := B.bytes
  have hr := B.returns
  have hts := atoms_spec (ws := zw_r_isLetter) B.pre
  have hown : s.vm.findClass RX9 = some m.cls := findClass_of_methodNamed B.named
  have hlocks := B.notSynchronized
  subst hsz
  have hD := hD0.self (sz := s.heap.size)
  generalize hAe : va_A (zW_r_isLetter) s.heap.size = A at hD hE ⊢
  have hA : ∀ q : Nat, s.heap.size ≤ q → A q := fun q h => by rw [← hAe]; exact Or.inr h
  have hDa : q_DA A zA_r_isLetter := q_DA.mk hD za_r_isLetter
  clear hAe hD0 hD
  have hS : va_S A s.heap s.heap [] := va_S.rf
  have lt_0 : (0 : Int32).toInt = 0 := by decide
  have lt_1 : (1 : Int32).toInt = 1 := by decide
  have lt_97 : (97 : Int32).toInt = 97 := by decide
  have lt_122 : (122 : Int32).toInt = 122 := by decide
  have hl := lv_entry ([.int a0]) (n := 1) (Nat.le_of_ble_eq_true rfl)
  rw [lg_entry_eq]
  generalize (lg_sl ([.int a0]) ++ List.replicate (1 - (lg_sl ([.int a0])).length) Slot.unset).toArray = ls at hl ⊢
  have hl : lv_has ls 1 [(0, .int a0)] := hl
  refine lv_iload_n hx hb dX9_isLetter_0 rfl (lv_at hl 0 rfl) (lv_bipush (v := 97) hx hb dX9_isLetter_1 (by decide) ?_)
  refine lv_icmp_lt (tgt := 16) hx hb dX9_isLetter_3 (by decide) (fun c_1 => ?_) (fun c_1 => ?_)
  · have tc_1 := q_lt c_1
    refine lv_iconst (v := 0) hx hb dX9_isLetter_16 (by decide) ?_
    exact q_zret hx hb hr hlocks (by decide) hS dX9_isLetter_17 ⟨(Or.inr ⟨rfl, by first | trivial | omega⟩), hP, za_r_isLetter⟩
  · have tc_1 := q_geN c_1
    refine lv_iload_n hx hb dX9_isLetter_6 rfl (lv_at hl 0 rfl) (lv_bipush (v := 122) hx hb dX9_isLetter_7 (by decide) ?_)
    refine lv_icmp_gt (tgt := 16) hx hb dX9_isLetter_9 (by decide) (fun c_2 => ?_) (fun c_2 => ?_)
    · have tc_2 := q_gt c_2
      refine lv_iconst (v := 0) hx hb dX9_isLetter_16 (by decide) ?_
      exact q_zret hx hb hr hlocks (by decide) hS dX9_isLetter_17 ⟨(Or.inr ⟨rfl, by first | trivial | omega⟩), hP, za_r_isLetter⟩
    · have tc_2 := q_leN c_2
      refine lv_iconst (v := 1) hx hb dX9_isLetter_12 (by decide) (lv_goto (tgt := 17) hx hb dX9_isLetter_13 (by decide) ?_)
      exact q_zret hx hb hr hlocks (by decide) hS dX9_isLetter_17 ⟨(Or.inl ⟨rfl, by first | trivial | omega⟩), hP, za_r_isLetter⟩
def zo_r_isKnot : List Cond := [.code yX9_isKnot cX9_isKnot 2 (some .boolean), .fieldLink RX9 20 "BowWalkModel" "knots" "[I", .fieldLink RX9 291 "BowWalkModel" "bank" "I", .methodLink RX9 389 yX9_isIn, .static yX9_isIn, .initialized RX9]
def zw_r_isKnot : List Cond := zo_r_isKnot ++ (zw_r_isIn ++ (wsX90 ++ []))
theorem gz_r_isKnot : zw_r_isKnot.all goodWord = true := p1_ga (by decide +kernel) (p1_ga gz_r_isIn (p1_ga gk_X9 p1_g0))
theorem iz_r_isKnot : ∀ w ∈ zw_r_isKnot, w ∈ lw_tbl := p1_ia (p1_all [1438, 1048, 1080, 1439, 1440, 116] (by decide +kernel)) (p1_ia iz_r_isIn (p1_ia ik_X9 p1_i0))
def zW_r_isKnot (p0 : Nat) (f_p0 : List Value) (p0_knots : Nat) (c_p0_knots : ClassId) (b_p0_knots : Nat → Int32) : va_W := [(p0, .inr (8, f_p0)), (p0_knots, .inl (c_p0_knots, 2, .inl b_p0_knots))]
def zT_r_isKnot (c_p0_knots : ClassId) : List (ClassId × FieldType) := [(c_p0_knots, .int)]
def zA_r_isKnot (p0 : Nat) (p0_knots : Nat) : List Nat := [p0, p0_knots]
theorem za_r_isKnot {p0 : Nat} {f_p0 : List Value} {p0_knots : Nat} {c_p0_knots : ClassId} {b_p0_knots : Nat → Int32} : (zW_r_isKnot p0 f_p0 p0_knots c_p0_knots b_p0_knots).map Prod.fst = (zA_r_isKnot p0 p0_knots) := rfl
def zG_r_isKnot (p0 : Nat) (f_p0 : List Value) (p0_knots : Nat) (c_p0_knots : ClassId) (b_p0_knots : Nat → Int32) (a1 : Int32) (bk : Int32) (r : Int32) (X : va_W → Prop) : Prop := ((r = 1 ∧ (0 ≤ a1.toInt ∧ a1.toInt ≤ 5)) ∨ (r = 0 ∧ (True))) ∧ X (zW_r_isKnot p0 f_p0 p0_knots c_p0_knots b_p0_knots)
theorem zm_r_isKnot {p0 : Nat} {f_p0 : List Value} {p0_knots : Nat} {c_p0_knots : ClassId} {b_p0_knots : Nat → Int32} {a1 : Int32} {bk : Int32} : ∀ (r : Int32), ∀ X Y : va_W → Prop, (∀ w, X w → Y w) → zG_r_isKnot p0 f_p0 p0_knots c_p0_knots b_p0_knots a1 bk r X → zG_r_isKnot p0 f_p0 p0_knots c_p0_knots b_p0_knots a1 bk r Y := fun r X Y h h1 => by obtain ⟨x0, hx⟩ := h1; exact ⟨x0, h _ hx⟩
set_option maxHeartbeats 4000000 in
set_option maxRecDepth 100000 in
theorem r_isKnot (l : Launch) (dC : Nat → ClassId) (dI : Nat → Nat → Nat) (sz : Nat) (p0 : Nat) (f_p0 : List Value) (p0_knots : Nat) (c_p0_knots : ClassId) (b_p0_knots : Nat → Int32) (a1 : Int32) (bk : Int32) (ho_p0 : OKX9 f_p0) (fr_p0_11 : q_rf f_p0 11 p0_knots) (hr_p0_knots : q_rg 2 (0) 6 b_p0_knots) (pf_bk : q_if f_p0 43 bk) : Met l yX9_isKnot zw_r_isKnot ({ frames := 1, cells := 0, slots := 0, locals := 22 }) (va_Pc [.ref p0, .int a1] (q_pre (dC, dI) (zW_r_isKnot p0 f_p0 p0_knots c_p0_knots b_p0_knots) (zT_r_isKnot c_p0_knots) q_E0 sz)) (q_Qi (dC, dI) (zG_r_isKnot p0 f_p0 p0_knots c_p0_knots b_p0_knots a1 bk) (zA_r_isKnot p0 p0_knots) (va_A (zW_r_isKnot p0 f_p0 p0_knots c_p0_knots b_p0_knots) sz)) 0 0 (va_A (zW_r_isKnot p0 f_p0 p0_knots c_p0_knots b_p0_knots) sz) := by
  refine Met.ofW (cc := cX9_isKnot) (maxL := 2) (ret := (some .boolean)) (by decide) rfl ?_
  intro p e s m args below meth c s₁ B hml hv
  obtain ⟨rfl, hsz, hP, hK, hD0, hE⟩ := hv
  have hx := B.exec
  have hb := B.bytes
  have hr := B.returns
  have hts := atoms_spec (ws := zw_r_isKnot) B.pre
  have hown : s.vm.findClass RX9 = some m.cls := findClass_of_methodNamed B.named
  have hlocks := B.notSynchronized
  subst hsz
  have hD := hD0.self (sz := s.heap.size)
  generalize hAe : va_A (zW_r_isKnot p0 f_p0 p0_knots c_p0_knots b_p0_knots) s.heap.size = A at hD hE ⊢
  have hA : ∀ q : Nat, s.heap.size ≤ q → A q := fun q h => by rw [← hAe]; exact Or.inr h
  have hDa : q_DA A (zA_r_isKnot p0 p0_knots) := q_DA.mk hD za_r_isKnot
  clear hAe hD0 hD
  have hS : va_S A s.heap s.heap [] := va_S.rf
  have m_0 : (.fieldLink RX9 20 "BowWalkModel" "knots" "[I" : Cond) ∈ zw_r_isKnot := List.mem_append_left _ (List.mem_of_getElem? (i := 1) rfl)
  have k_0 := hts _ m_0
  have m_1 : (.fieldLink RX9 291 "BowWalkModel" "bank" "I" : Cond) ∈ zw_r_isKnot := List.mem_append_left _ (List.mem_of_getElem? (i := 2) rfl)
  have k_1 := hts _ m_1
  have m_2 : (.methodLink RX9 389 yX9_isIn : Cond) ∈ zw_r_isKnot := List.mem_append_left _ (List.mem_of_getElem? (i := 3) rfl)
  have k_2 := hts _ m_2
  have m_3 : (.static yX9_isIn : Cond) ∈ zw_r_isKnot := List.mem_append_left _ (List.mem_of_getElem? (i := 4) rfl)
  have k_3 := hts _ m_3
  have m_4 : (.initialized RX9 : Cond) ∈ zw_r_isKnot := List.mem_append_left _ (List.mem_of_getElem? (i := 5) rfl)
  have k_4 := hts _ m_4
  have g_r_isIn : ∀ w ∈ zw_r_isIn, w ∈ zw_r_isKnot := fun w h => List.mem_append_right _ (List.mem_append_left _ h)
  have i_X9 : ∀ w ∈ u_ws RX9 TX9 81, w ∈ zw_r_isKnot := fun w h => List.mem_append_right _ (List.mem_append_right _ (List.mem_append_left _ h))
  have lt_0 : (0 : Int32).toInt = 0 := by decide
  have lt_1 : (1 : Int32).toInt = 1 := by decide
  have hl := lv_entry ([.ref p0, .int a1]) (n := 2) (Nat.le_of_ble_eq_true rfl)
  rw [lg_entry_eq]
  generalize (lg_sl ([.ref p0, .int a1]) ++ List.replicate (2 - (lg_sl ([.ref p0, .int a1])).length) Slot.unset).toArray = ls at hl ⊢
  have hl : lv_has ls 2 [(0, .ref p0), (1, .int a1)] := hl
  have tbk := (OKX9_g43 ho_p0).use pf_bk
  refine lv_iload_n hx hb dX9_isKnot_0 rfl (lv_at hl 1 rfl) (lv_iconst (v := 0) hx hb dX9_isKnot_1 (by decide) (lv_aload_n hx hb dX9_isKnot_2 rfl (lv_at hl 0 rfl) (qg_X9_11 hx hb hts i_X9 hown hK hP 0 rfl k_0 fr_p0_11 dX9_isKnot_3 (lv_aload_n hx hb dX9_isKnot_6 rfl (lv_at hl 0 rfl) (qg_X9_43 hx hb hts i_X9 hown hK hP 0 rfl k_1 pf_bk dX9_isKnot_7 (q_ild hx hb hK hP 1 0 rfl rfl (q_in (by omega) (by omega)) dX9_isKnot_10 (fun v_1 ev_1 => ?_)))))))
  have uv_1 : v_1.toInt = (b_p0_knots bk.toNatClampNeg).toInt := by rw [ev_1]
  have tv_1 := q_rd' hr_p0_knots (q_in (by omega) (by omega)) ev_1
  refine lv_iconst (v := 1) hx hb dX9_isKnot_11 (by decide) (lv_isub hx hb dX9_isKnot_12 (lv_topi fun v_2 ev_2 => ?_))
  have tv_2 := q_sub ev_2 (by omega) (by omega)
  refine q_cSi (As := [.int a1, .int 0, .int v_2]) (rest := []) q_w0 trivial hK hP hDa za_r_isKnot hS hA [] [] (by decide +kernel) ⟨hx, hb, hml, hown, hts⟩ (r_isIn l dC dI s.heap.size a1 0 v_2) rfl rfl (va_cwS 3 hts (p1_gS m_2 m_3 m_4 g_r_isIn gz_r_isIn) rfl rfl rfl (by decide +kernel) ⟨by decide, by decide⟩) zm_r_isIn rfl hl.1 rfl (Nat.le_of_ble_eq_true rfl) dX9_isKnot_13 ⟨by decide, by decide⟩ (fun r_3 H4 lo4 hG4 hS4 => ?_)
  obtain ⟨z_5, hQ4⟩ := hG4
  have hP4 : va_P (dC, dI) vwCl (zW_r_isKnot p0 f_p0 p0_knots c_p0_knots b_p0_knots) H4 := hQ4
  clear hQ4 hP hS
  rcases z_5 with ⟨rfl, z_5⟩ | ⟨rfl, z_5⟩
  · exact q_zret hx hb hr hlocks (by decide) hS4 dX9_isKnot_16 ⟨(Or.inl ⟨rfl, by first | trivial | omega⟩), hP4, za_r_isKnot⟩
  · exact q_zret hx hb hr hlocks (by decide) hS4 dX9_isKnot_16 ⟨(Or.inr ⟨rfl, by first | trivial | omega⟩), hP4, za_r_isKnot⟩
def zo_r_isCord : List Cond := [.code yX9_isCord cX9_isCord 2 (some .boolean), .fieldLink RX9 24 "BowWalkModel" "cords" "[I", .fieldLink RX9 291 "BowWalkModel" "bank" "I", .methodLink RX9 389 yX9_isIn, .static yX9_isIn, .initialized RX9]
def zw_r_isCord : List Cond := zo_r_isCord ++ (zw_r_isIn ++ (wsX90 ++ []))
theorem gz_r_isCord : zw_r_isCord.all goodWord = true := p1_ga (by decide +kernel) (p1_ga gz_r_isIn (p1_ga gk_X9 p1_g0))
theorem iz_r_isCord : ∀ w ∈ zw_r_isCord, w ∈ lw_tbl := p1_ia (p1_all [1445, 1049, 1080, 1439, 1440, 116] (by decide +kernel)) (p1_ia iz_r_isIn (p1_ia ik_X9 p1_i0))
def zW_r_isCord (p0 : Nat) (f_p0 : List Value) (p0_cords : Nat) (c_p0_cords : ClassId) (b_p0_cords : Nat → Int32) : va_W := [(p0, .inr (8, f_p0)), (p0_cords, .inl (c_p0_cords, 2, .inl b_p0_cords))]
def zT_r_isCord (c_p0_cords : ClassId) : List (ClassId × FieldType) := [(c_p0_cords, .int)]
def zA_r_isCord (p0 : Nat) (p0_cords : Nat) : List Nat := [p0, p0_cords]
theorem za_r_isCord {p0 : Nat} {f_p0 : List Value} {p0_cords : Nat} {c_p0_cords : ClassId} {b_p0_cords : Nat → Int32} : (zW_r_isCord p0 f_p0 p0_cords c_p0_cords b_p0_cords).map Prod.fst = (zA_r_isCord p0 p0_cords) := rfl
def zG_r_isCord (p0 : Nat) (f_p0 : List Value) (p0_cords : Nat) (c_p0_cords : ClassId) (b_p0_cords : Nat → Int32) (a1 : Int32) (bk : Int32) (r : Int32) (X : va_W → Prop) : Prop := ((r = 1 ∧ (0 ≤ a1.toInt ∧ a1.toInt ≤ 3)) ∨ (r = 0 ∧ (True))) ∧ X (zW_r_isCord p0 f_p0 p0_cords c_p0_cords b_p0_cords)
theorem zm_r_isCord {p0 : Nat} {f_p0 : List Value} {p0_cords : Nat} {c_p0_cords : ClassId} {b_p0_cords : Nat → Int32} {a1 : Int32} {bk : Int32} : ∀ (r : Int32), ∀ X Y : va_W → Prop, (∀ w, X w → Y w) → zG_r_isCord p0 f_p0 p0_cords c_p0_cords b_p0_cords a1 bk r X → zG_r_isCord p0 f_p0 p0_cords c_p0_cords b_p0_cords a1 bk r Y := fun r X Y h h1 => by obtain ⟨x0, hx⟩ := h1; exact ⟨x0, h _ hx⟩
set_option maxHeartbeats 4000000 in
set_option maxRecDepth 100000 in
theorem r_isCord (l : Launch) (dC : Nat → ClassId) (dI : Nat → Nat → Nat) (sz : Nat) (p0 : Nat) (f_p0 : List Value) (p0_cords : Nat) (c_p0_cords : ClassId) (b_p0_cords : Nat → Int32) (a1 : Int32) (bk : Int32) (ho_p0 : OKX9 f_p0) (fr_p0_12 : q_rf f_p0 12 p0_cords) (hr_p0_cords : q_rg 2 (0) 4 b_p0_cords) (pf_bk : q_if f_p0 43 bk) : Met l yX9_isCord zw_r_isCord ({ frames := 1, cells := 0, slots := 0, locals := 22 }) (va_Pc [.ref p0, .int a1] (q_pre (dC, dI) (zW_r_isCord p0 f_p0 p0_cords c_p0_cords b_p0_cords) (zT_r_isCord c_p0_cords) q_E0 sz)) (q_Qi (dC, dI) (zG_r_isCord p0 f_p0 p0_cords c_p0_cords b_p0_cords a1 bk) (zA_r_isCord p0 p0_cords) (va_A (zW_r_isCord p0 f_p0 p0_cords c_p0_cords b_p0_cords) sz)) 0 0 (va_A (zW_r_isCord p0 f_p0 p0_cords c_p0_cords b_p0_cords) sz) := by
  refine Met.ofW (cc := cX9_isCord) (maxL := 2) (ret := (some .boolean)) (by decide) rfl ?_
  intro p e s m args below meth c s₁ B hml hv
  obtain ⟨rfl, hsz, hP, hK, hD0, hE⟩ := hv
  have hx := B.exec
  have hb := B.bytes
  have hr := B.returns
  have hts := atoms_spec (ws := zw_r_isCord) B.pre
  have hown : s.vm.findClass RX9 = some m.cls := findClass_of_methodNamed B.named
  have hlocks := B.notSynchronized
  subst hsz
  have hD := hD0.self (sz := s.heap.size)
  generalize hAe : va_A (zW_r_isCord p0 f_p0 p0_cords c_p0_cords b_p0_cords) s.heap.size = A at hD hE ⊢
  have hA : ∀ q : Nat, s.heap.size ≤ q → A q := fun q h => by rw [← hAe]; exact Or.inr h
  have hDa : q_DA A (zA_r_isCord p0 p0_cords) := q_DA.mk hD za_r_isCord
  clear hAe hD0 hD
  have hS : va_S A s.heap s.heap [] := va_S.rf
  have m_0 : (.fieldLink RX9 24 "BowWalkModel" "cords" "[I" : Cond) ∈ zw_r_isCord := List.mem_append_left _ (List.mem_of_getElem? (i := 1) rfl)
  have k_0 := hts _ m_0
  have m_1 : (.fieldLink RX9 291 "BowWalkModel" "bank" "I" : Cond) ∈ zw_r_isCord := List.mem_append_left _ (List.mem_of_getElem? (i := 2) rfl)
  have k_1 := hts _ m_1
  have m_2 : (.methodLink RX9 389 yX9_isIn : Cond) ∈ zw_r_isCord := List.mem_append_left _ (List.mem_of_getElem? (i := 3) rfl)
  have k_2 := hts _ m_2
  have m_3 : (.static yX9_isIn : Cond) ∈ zw_r_isCord := List.mem_append_left _ (List.mem_of_getElem? (i := 4) rfl)
  have k_3 := hts _ m_3
  have m_4 : (.initialized RX9 : Cond) ∈ zw_r_isCord := List.mem_append_left _ (List.mem_of_getElem? (i := 5) rfl)
  have k_4 := hts _ m_4
  have g_r_isIn : ∀ w ∈ zw_r_isIn, w ∈ zw_r_isCord := fun w h => List.mem_append_right _ (List.mem_append_left _ h)
  have i_X9 : ∀ w ∈ u_ws RX9 TX9 81, w ∈ zw_r_isCord := fun w h => List.mem_append_right _ (List.mem_append_right _ (List.mem_append_left _ h))
  have lt_0 : (0 : Int32).toInt = 0 := by decide
  have lt_1 : (1 : Int32).toInt = 1 := by decide
  have hl := lv_entry ([.ref p0, .int a1]) (n := 2) (Nat.le_of_ble_eq_true rfl)
  rw [lg_entry_eq]
  generalize (lg_sl ([.ref p0, .int a1]) ++ List.replicate (2 - (lg_sl ([.ref p0, .int a1])).length) Slot.unset).toArray = ls at hl ⊢
  have hl : lv_has ls 2 [(0, .ref p0), (1, .int a1)] := hl
  have tbk := (OKX9_g43 ho_p0).use pf_bk
  refine lv_iload_n hx hb dX9_isCord_0 rfl (lv_at hl 1 rfl) (lv_iconst (v := 0) hx hb dX9_isCord_1 (by decide) (lv_aload_n hx hb dX9_isCord_2 rfl (lv_at hl 0 rfl) (qg_X9_12 hx hb hts i_X9 hown hK hP 0 rfl k_0 fr_p0_12 dX9_isCord_3 (lv_aload_n hx hb dX9_isCord_6 rfl (lv_at hl 0 rfl) (qg_X9_43 hx hb hts i_X9 hown hK hP 0 rfl k_1 pf_bk dX9_isCord_7 (q_ild hx hb hK hP 1 0 rfl rfl (q_in (by omega) (by omega)) dX9_isCord_10 (fun v_1 ev_1 => ?_)))))))
  have uv_1 : v_1.toInt = (b_p0_cords bk.toNatClampNeg).toInt := by rw [ev_1]
  have tv_1 := q_rd' hr_p0_cords (q_in (by omega) (by omega)) ev_1
  refine lv_iconst (v := 1) hx hb dX9_isCord_11 (by decide) (lv_isub hx hb dX9_isCord_12 (lv_topi fun v_2 ev_2 => ?_))
  have tv_2 := q_sub ev_2 (by omega) (by omega)
  refine q_cSi (As := [.int a1, .int 0, .int v_2]) (rest := []) q_w0 trivial hK hP hDa za_r_isCord hS hA [] [] (by decide +kernel) ⟨hx, hb, hml, hown, hts⟩ (r_isIn l dC dI s.heap.size a1 0 v_2) rfl rfl (va_cwS 3 hts (p1_gS m_2 m_3 m_4 g_r_isIn gz_r_isIn) rfl rfl rfl (by decide +kernel) ⟨by decide, by decide⟩) zm_r_isIn rfl hl.1 rfl (Nat.le_of_ble_eq_true rfl) dX9_isCord_13 ⟨by decide, by decide⟩ (fun r_3 H4 lo4 hG4 hS4 => ?_)
  obtain ⟨z_5, hQ4⟩ := hG4
  have hP4 : va_P (dC, dI) vwCl (zW_r_isCord p0 f_p0 p0_cords c_p0_cords b_p0_cords) H4 := hQ4
  clear hQ4 hP hS
  rcases z_5 with ⟨rfl, z_5⟩ | ⟨rfl, z_5⟩
  · exact q_zret hx hb hr hlocks (by decide) hS4 dX9_isCord_16 ⟨(Or.inl ⟨rfl, by first | trivial | omega⟩), hP4, za_r_isCord⟩
  · exact q_zret hx hb hr hlocks (by decide) hS4 dX9_isCord_16 ⟨(Or.inr ⟨rfl, by first | trivial | omega⟩), hP4, za_r_isCord⟩
def zo_r_isWant : List Cond := [.code yX9_isWant cX9_isWant 2 (some .boolean), .fieldLink RX9 33 "BowWalkModel" "wants" "[I", .fieldLink RX9 291 "BowWalkModel" "bank" "I", .methodLink RX9 389 yX9_isIn, .static yX9_isIn, .initialized RX9]
def zw_r_isWant : List Cond := zo_r_isWant ++ (zw_r_isIn ++ (wsX90 ++ []))
theorem gz_r_isWant : zw_r_isWant.all goodWord = true := p1_ga (by decide +kernel) (p1_ga gz_r_isIn (p1_ga gk_X9 p1_g0))
theorem iz_r_isWant : ∀ w ∈ zw_r_isWant, w ∈ lw_tbl := p1_ia (p1_all [1585, 1052, 1080, 1439, 1440, 116] (by decide +kernel)) (p1_ia iz_r_isIn (p1_ia ik_X9 p1_i0))
def zW_r_isWant (p0 : Nat) (f_p0 : List Value) (p0_wants : Nat) (c_p0_wants : ClassId) (b_p0_wants : Nat → Int32) : va_W := [(p0, .inr (8, f_p0)), (p0_wants, .inl (c_p0_wants, 2, .inl b_p0_wants))]
def zT_r_isWant (c_p0_wants : ClassId) : List (ClassId × FieldType) := [(c_p0_wants, .int)]
def zA_r_isWant (p0 : Nat) (p0_wants : Nat) : List Nat := [p0, p0_wants]
theorem za_r_isWant {p0 : Nat} {f_p0 : List Value} {p0_wants : Nat} {c_p0_wants : ClassId} {b_p0_wants : Nat → Int32} : (zW_r_isWant p0 f_p0 p0_wants c_p0_wants b_p0_wants).map Prod.fst = (zA_r_isWant p0 p0_wants) := rfl
def zG_r_isWant (p0 : Nat) (f_p0 : List Value) (p0_wants : Nat) (c_p0_wants : ClassId) (b_p0_wants : Nat → Int32) (a1 : Int32) (bk : Int32) (r : Int32) (X : va_W → Prop) : Prop := ((r = 1 ∧ (0 ≤ a1.toInt ∧ a1.toInt ≤ 3)) ∨ (r = 0 ∧ (True))) ∧ X (zW_r_isWant p0 f_p0 p0_wants c_p0_wants b_p0_wants)
theorem zm_r_isWant {p0 : Nat} {f_p0 : List Value} {p0_wants : Nat} {c_p0_wants : ClassId} {b_p0_wants : Nat → Int32} {a1 : Int32} {bk : Int32} : ∀ (r : Int32), ∀ X Y : va_W → Prop, (∀ w, X w → Y w) → zG_r_isWant p0 f_p0 p0_wants c_p0_wants b_p0_wants a1 bk r X → zG_r_isWant p0 f_p0 p0_wants c_p0_wants b_p0_wants a1 bk r Y := fun r X Y h h1 => by obtain ⟨x0, hx⟩ := h1; exact ⟨x0, h _ hx⟩
set_option maxHeartbeats 4000000 in
set_option maxRecDepth 100000 in
theorem r_isWant (l : Launch) (dC : Nat → ClassId) (dI : Nat → Nat → Nat) (sz : Nat) (p0 : Nat) (f_p0 : List Value) (p0_wants : Nat) (c_p0_wants : ClassId) (b_p0_wants : Nat → Int32) (a1 : Int32) (bk : Int32) (ho_p0 : OKX9 f_p0) (fr_p0_15 : q_rf f_p0 15 p0_wants) (hr_p0_wants : q_rg 2 (0) 4 b_p0_wants) (pf_bk : q_if f_p0 43 bk) : Met l yX9_isWant zw_r_isWant ({ frames := 1, cells := 0, slots := 0, locals := 22 }) (va_Pc [.ref p0, .int a1] (q_pre (dC, dI) (zW_r_isWant p0 f_p0 p0_wants c_p0_wants b_p0_wants) (zT_r_isWant c_p0_wants) q_E0 sz)) (q_Qi (dC, dI) (zG_r_isWant p0 f_p0 p0_wants c_p0_wants b_p0_wants a1 bk) (zA_r_isWant p0 p0_wants) (va_A (zW_r_isWant p0 f_p0 p0_wants c_p0_wants b_p0_wants) sz)) 0 0 (va_A (zW_r_isWant p0 f_p0 p0_wants c_p0_wants b_p0_wants) sz) := by
  refine Met.ofW (cc := cX9_isWant) (maxL := 2) (ret := (some .boolean)) (by decide) rfl ?_
  intro p e s m args below meth c s₁ B hml hv
  obtain ⟨rfl, hsz, hP, hK, hD0, hE⟩ := hv
  have hx := B.exec
  have hb := B.bytes
  have hr := B.returns
  have hts := atoms_spec (ws := zw_r_isWant) B.pre
  have hown : s.vm.findClass RX9 = some m.cls := findClass_of_methodNamed B.named
  have hlocks := B.notSynchronized
  subst hsz
  have hD := hD0.self (sz := s.heap.size)
  generalize hAe : va_A (zW_r_isWant p0 f_p0 p0_wants c_p0_wants b_p0_wants) s.heap.size = A at hD hE ⊢
  have hA : ∀ q : Nat, s.heap.size ≤ q → A q := fun q h => by rw [← hAe]; exact Or.inr h
  have hDa : q_DA A (zA_r_isWant p0 p0_wants) := q_DA.mk hD za_r_isWant
  clear hAe hD0 hD
  have hS : va_S A s.heap s.heap [] := va_S.rf
  have m_0 : (.fieldLink RX9 33 "BowWalkModel" "wants" "[I" : Cond) ∈ zw_r_isWant := List.mem_append_left _ (List.mem_of_getElem? (i := 1) rfl)
  have k_0 := hts _ m_0
  have m_1 : (.fieldLink RX9 291 "BowWalkModel" "bank" "I" : Cond) ∈ zw_r_isWant := List.mem_append_left _ (List.mem_of_getElem? (i := 2) rfl)
  have k_1 := hts _ m_1
  have m_2 : (.methodLink RX9 389 yX9_isIn : Cond) ∈ zw_r_isWant := List.mem_append_left _ (List.mem_of_getElem? (i := 3) rfl)
  have k_2 := hts _ m_2
  have m_3 : (.static yX9_isIn : Cond) ∈ zw_r_isWant := List.mem_append_left _ (List.mem_of_getElem? (i := 4) rfl)
  have k_3 := hts _ m_3
  have m_4 : (.initialized RX9 : Cond) ∈ zw_r_isWant := List.mem_append_left _ (List.mem_of_getElem? (i := 5) rfl)
  have k_4 := hts _ m_4
  have g_r_isIn : ∀ w ∈ zw_r_isIn, w ∈ zw_r_isWant := fun w h => List.mem_append_right _ (List.mem_append_left _ h)
  have i_X9 : ∀ w ∈ u_ws RX9 TX9 81, w ∈ zw_r_isWant := fun w h => List.mem_append_right _ (List.mem_append_right _ (List.mem_append_left _ h))
  have lt_0 : (0 : Int32).toInt = 0 := by decide
  have lt_1 : (1 : Int32).toInt = 1 := by decide
  have hl := lv_entry ([.ref p0, .int a1]) (n := 2) (Nat.le_of_ble_eq_true rfl)
  rw [lg_entry_eq]
  generalize (lg_sl ([.ref p0, .int a1]) ++ List.replicate (2 - (lg_sl ([.ref p0, .int a1])).length) Slot.unset).toArray = ls at hl ⊢
  have hl : lv_has ls 2 [(0, .ref p0), (1, .int a1)] := hl
  have tbk := (OKX9_g43 ho_p0).use pf_bk
  refine lv_iload_n hx hb dX9_isWant_0 rfl (lv_at hl 1 rfl) (lv_iconst (v := 0) hx hb dX9_isWant_1 (by decide) (lv_aload_n hx hb dX9_isWant_2 rfl (lv_at hl 0 rfl) (qg_X9_15 hx hb hts i_X9 hown hK hP 0 rfl k_0 fr_p0_15 dX9_isWant_3 (lv_aload_n hx hb dX9_isWant_6 rfl (lv_at hl 0 rfl) (qg_X9_43 hx hb hts i_X9 hown hK hP 0 rfl k_1 pf_bk dX9_isWant_7 (q_ild hx hb hK hP 1 0 rfl rfl (q_in (by omega) (by omega)) dX9_isWant_10 (fun v_1 ev_1 => ?_)))))))
  have tv_1 := q_rd' hr_p0_wants (q_in (by omega) (by omega)) ev_1
  refine lv_iconst (v := 1) hx hb dX9_isWant_11 (by decide) (lv_isub hx hb dX9_isWant_12 (lv_topi fun v_2 ev_2 => ?_))
  have tv_2 := q_sub ev_2 (by omega) (by omega)
  refine q_cSi (As := [.int a1, .int 0, .int v_2]) (rest := []) q_w0 trivial hK hP hDa za_r_isWant hS hA [] [] (by decide +kernel) ⟨hx, hb, hml, hown, hts⟩ (r_isIn l dC dI s.heap.size a1 0 v_2) rfl rfl (va_cwS 3 hts (p1_gS m_2 m_3 m_4 g_r_isIn gz_r_isIn) rfl rfl rfl (by decide +kernel) ⟨by decide, by decide⟩) zm_r_isIn rfl hl.1 rfl (Nat.le_of_ble_eq_true rfl) dX9_isWant_13 ⟨by decide, by decide⟩ (fun r_3 H4 lo4 hG4 hS4 => ?_)
  obtain ⟨z_5, hQ4⟩ := hG4
  have hP4 : va_P (dC, dI) vwCl (zW_r_isWant p0 f_p0 p0_wants c_p0_wants b_p0_wants) H4 := hQ4
  clear hQ4 hP hS
  rcases z_5 with ⟨rfl, z_5⟩ | ⟨rfl, z_5⟩
  · exact q_zret hx hb hr hlocks (by decide) hS4 dX9_isWant_16 ⟨(Or.inl ⟨rfl, by first | trivial | omega⟩), hP4, za_r_isWant⟩
  · exact q_zret hx hb hr hlocks (by decide) hS4 dX9_isWant_16 ⟨(Or.inr ⟨rfl, by first | trivial | omega⟩), hP4, za_r_isWant⟩
def zo_r_isWalk : List Cond := [.code yX9_isWalk cX9_isWalk 2 (some .boolean), .fieldLink RX9 27 "BowWalkModel" "walks" "[I", .fieldLink RX9 291 "BowWalkModel" "bank" "I", .methodLink RX9 389 yX9_isIn, .static yX9_isIn, .initialized RX9]
def zw_r_isWalk : List Cond := zo_r_isWalk ++ (zw_r_isIn ++ (wsX90 ++ []))
theorem gz_r_isWalk : zw_r_isWalk.all goodWord = true := p1_ga (by decide +kernel) (p1_ga gz_r_isIn (p1_ga gk_X9 p1_g0))
theorem iz_r_isWalk : ∀ w ∈ zw_r_isWalk, w ∈ lw_tbl := p1_ia (p1_all [1461, 1050, 1080, 1439, 1440, 116] (by decide +kernel)) (p1_ia iz_r_isIn (p1_ia ik_X9 p1_i0))
def zW_r_isWalk (p0 : Nat) (f_p0 : List Value) (p0_walks : Nat) (c_p0_walks : ClassId) (b_p0_walks : Nat → Int32) : va_W := [(p0, .inr (8, f_p0)), (p0_walks, .inl (c_p0_walks, 2, .inl b_p0_walks))]
def zT_r_isWalk (c_p0_walks : ClassId) : List (ClassId × FieldType) := [(c_p0_walks, .int)]
def zA_r_isWalk (p0 : Nat) (p0_walks : Nat) : List Nat := [p0, p0_walks]
theorem za_r_isWalk {p0 : Nat} {f_p0 : List Value} {p0_walks : Nat} {c_p0_walks : ClassId} {b_p0_walks : Nat → Int32} : (zW_r_isWalk p0 f_p0 p0_walks c_p0_walks b_p0_walks).map Prod.fst = (zA_r_isWalk p0 p0_walks) := rfl
def zG_r_isWalk (p0 : Nat) (f_p0 : List Value) (p0_walks : Nat) (c_p0_walks : ClassId) (b_p0_walks : Nat → Int32) (a1 : Int32) (bk : Int32) (r : Int32) (X : va_W → Prop) : Prop := ((r = 1 ∧ (0 ≤ a1.toInt ∧ a1.toInt < (b_p0_walks bk.toNatClampNeg).toInt ∧ a1.toInt ≤ 3)) ∨ (r = 0 ∧ (True))) ∧ X (zW_r_isWalk p0 f_p0 p0_walks c_p0_walks b_p0_walks)
theorem zm_r_isWalk {p0 : Nat} {f_p0 : List Value} {p0_walks : Nat} {c_p0_walks : ClassId} {b_p0_walks : Nat → Int32} {a1 : Int32} {bk : Int32} : ∀ (r : Int32), ∀ X Y : va_W → Prop, (∀ w, X w → Y w) → zG_r_isWalk p0 f_p0 p0_walks c_p0_walks b_p0_walks a1 bk r X → zG_r_isWalk p0 f_p0 p0_walks c_p0_walks b_p0_walks a1 bk r Y := fun r X Y h h1 => by obtain ⟨x0, hx⟩ := h1; exact ⟨x0, h _ hx⟩
set_option maxHeartbeats 4000000 in
set_option maxRecDepth 100000 in
theorem r_isWalk (l : Launch) (dC : Nat → ClassId) (dI : Nat → Nat → Nat) (sz : Nat) (p0 : Nat) (f_p0 : List Value) (p0_walks : Nat) (c_p0_walks : ClassId) (b_p0_walks : Nat → Int32) (a1 : Int32) (bk : Int32) (ho_p0 : OKX9 f_p0) (fr_p0_13 : q_rf f_p0 13 p0_walks) (hr_p0_walks : q_rg 2 (0) 4 b_p0_walks) (pf_bk : q_if f_p0 43 bk) : Met l yX9_isWalk zw_r_isWalk ({ frames := 1, cells := 0, slots := 0, locals := 22 }) (va_Pc [.ref p0, .int a1] (q_pre (dC, dI) (zW_r_isWalk p0 f_p0 p0_walks c_p0_walks b_p0_walks) (zT_r_isWalk c_p0_walks) q_E0 sz)) (q_Qi (dC, dI) (zG_r_isWalk p0 f_p0 p0_walks c_p0_walks b_p0_walks a1 bk) (zA_r_isWalk p0 p0_walks) (va_A (zW_r_isWalk p0 f_p0 p0_walks c_p0_walks b_p0_walks) sz)) 0 0 (va_A (zW_r_isWalk p0 f_p0 p0_walks c_p0_walks b_p0_walks) sz) := by
  refine Met.ofW (cc := cX9_isWalk) (maxL := 2) (ret := (some .boolean)) (by decide) rfl ?_
  intro p e s m args below meth c s₁ B hml hv
  obtain ⟨rfl, hsz, hP, hK, hD0, hE⟩ := hv
  have hx := B.exec
  have hb := B.bytes
  have hr := B.returns
  have hts := atoms_spec (ws := zw_r_isWalk) B.pre
  have hown : s.vm.findClass RX9 = some m.cls := findClass_of_methodNamed B.named
  have hlocks := B.notSynchronized
  subst hsz
  have hD := hD0.self (sz := s.heap.size)
  generalize hAe : va_A (zW_r_isWalk p0 f_p0 p0_walks c_p0_walks b_p0_walks) s.heap.size = A at hD hE ⊢
  have hA : ∀ q : Nat, s.heap.size ≤ q → A q := fun q h => by rw [← hAe]; exact Or.inr h
  have hDa : q_DA A (zA_r_isWalk p0 p0_walks) := q_DA.mk hD za_r_isWalk
  clear hAe hD0 hD
  have hS : va_S A s.heap s.heap [] := va_S.rf
  have m_0 : (.fieldLink RX9 27 "BowWalkModel" "walks" "[I" : Cond) ∈ zw_r_isWalk := List.mem_append_left _ (List.mem_of_getElem? (i := 1) rfl)
  have k_0 := hts _ m_0
  have m_1 : (.fieldLink RX9 291 "BowWalkModel" "bank" "I" : Cond) ∈ zw_r_isWalk := List.mem_append_left _ (List.mem_of_getElem? (i := 2) rfl)
  have k_1 := hts _ m_1
  have m_2 : (.methodLink RX9 389 yX9_isIn : Cond) ∈ zw_r_isWalk := List.mem_append_left _ (List.mem_of_getElem? (i := 3) rfl)
  have k_2 := hts _ m_2
  have m_3 : (.static yX9_isIn : Cond) ∈ zw_r_isWalk := List.mem_append_left _ (List.mem_of_getElem? (i := 4) rfl)
  have k_3 := hts _ m_3
  have m_4 : (.initialized RX9 : Cond) ∈ zw_r_isWalk := List.mem_append_left _ (List.mem_of_getElem? (i := 5) rfl)
  have k_4 := hts _ m_4
  have g_r_isIn : ∀ w ∈ zw_r_isIn, w ∈ zw_r_isWalk := fun w h => List.mem_append_right _ (List.mem_append_left _ h)
  have i_X9 : ∀ w ∈ u_ws RX9 TX9 81, w ∈ zw_r_isWalk := fun w h => List.mem_append_right _ (List.mem_append_right _ (List.mem_append_left _ h))
  have lt_0 : (0 : Int32).toInt = 0 := by decide
  have lt_1 : (1 : Int32).toInt = 1 := by decide
  have hl := lv_entry ([.ref p0, .int a1]) (n := 2) (Nat.le_of_ble_eq_true rfl)
  rw [lg_entry_eq]
  generalize (lg_sl ([.ref p0, .int a1]) ++ List.replicate (2 - (lg_sl ([.ref p0, .int a1])).length) Slot.unset).toArray = ls at hl ⊢
  have hl : lv_has ls 2 [(0, .ref p0), (1, .int a1)] := hl
  have tbk := (OKX9_g43 ho_p0).use pf_bk
  have hwb := hr_p0_walks bk.toNatClampNeg (q_cl (q_in (by omega) (by omega)))
  refine lv_iload_n hx hb dX9_isWalk_0 rfl (lv_at hl 1 rfl) (lv_iconst (v := 0) hx hb dX9_isWalk_1 (by decide) (lv_aload_n hx hb dX9_isWalk_2 rfl (lv_at hl 0 rfl) (qg_X9_13 hx hb hts i_X9 hown hK hP 0 rfl k_0 fr_p0_13 dX9_isWalk_3 (lv_aload_n hx hb dX9_isWalk_6 rfl (lv_at hl 0 rfl) (qg_X9_43 hx hb hts i_X9 hown hK hP 0 rfl k_1 pf_bk dX9_isWalk_7 (q_ild hx hb hK hP 1 0 rfl rfl (q_in (by omega) (by omega)) dX9_isWalk_10 (fun v_1 ev_1 => ?_)))))))
  have uv_1 : v_1.toInt = (b_p0_walks bk.toNatClampNeg).toInt := by rw [ev_1]
  have tv_1 := q_rd' hr_p0_walks (q_in (by omega) (by omega)) ev_1
  refine lv_iconst (v := 1) hx hb dX9_isWalk_11 (by decide) (lv_isub hx hb dX9_isWalk_12 (lv_topi fun v_2 ev_2 => ?_))
  have tv_2 := q_sub ev_2 (by omega) (by omega)
  refine q_cSi (As := [.int a1, .int 0, .int v_2]) (rest := []) q_w0 trivial hK hP hDa za_r_isWalk hS hA [] [] (by decide +kernel) ⟨hx, hb, hml, hown, hts⟩ (r_isIn l dC dI s.heap.size a1 0 v_2) rfl rfl (va_cwS 3 hts (p1_gS m_2 m_3 m_4 g_r_isIn gz_r_isIn) rfl rfl rfl (by decide +kernel) ⟨by decide, by decide⟩) zm_r_isIn rfl hl.1 rfl (Nat.le_of_ble_eq_true rfl) dX9_isWalk_13 ⟨by decide, by decide⟩ (fun r_3 H4 lo4 hG4 hS4 => ?_)
  obtain ⟨z_5, hQ4⟩ := hG4
  have hP4 : va_P (dC, dI) vwCl (zW_r_isWalk p0 f_p0 p0_walks c_p0_walks b_p0_walks) H4 := hQ4
  clear hQ4 hP hS
  rcases z_5 with ⟨rfl, z_5⟩ | ⟨rfl, z_5⟩
  · exact q_zret hx hb hr hlocks (by decide) hS4 dX9_isWalk_16 ⟨(Or.inl ⟨rfl, by first | trivial | omega⟩), hP4, za_r_isWalk⟩
  · exact q_zret hx hb hr hlocks (by decide) hS4 dX9_isWalk_16 ⟨(Or.inr ⟨rfl, by first | trivial | omega⟩), hP4, za_r_isWalk⟩
def zo_r_isLaw : List Cond := [.code yX9_isLaw cX9_isLaw 2 (some .boolean), .fieldLink RX9 30 "BowWalkModel" "laws" "[I", .fieldLink RX9 291 "BowWalkModel" "bank" "I", .methodLink RX9 389 yX9_isIn, .static yX9_isIn, .initialized RX9]
def zw_r_isLaw : List Cond := zo_r_isLaw ++ (zw_r_isIn ++ (wsX90 ++ []))
theorem gz_r_isLaw : zw_r_isLaw.all goodWord = true := p1_ga (by decide +kernel) (p1_ga gz_r_isIn (p1_ga gk_X9 p1_g0))
theorem iz_r_isLaw : ∀ w ∈ zw_r_isLaw, w ∈ lw_tbl := p1_ia (p1_all [1525, 1051, 1080, 1439, 1440, 116] (by decide +kernel)) (p1_ia iz_r_isIn (p1_ia ik_X9 p1_i0))
def zW_r_isLaw (p0 : Nat) (f_p0 : List Value) (p0_laws : Nat) (c_p0_laws : ClassId) (b_p0_laws : Nat → Int32) : va_W := [(p0, .inr (8, f_p0)), (p0_laws, .inl (c_p0_laws, 2, .inl b_p0_laws))]
def zT_r_isLaw (c_p0_laws : ClassId) : List (ClassId × FieldType) := [(c_p0_laws, .int)]
def zA_r_isLaw (p0 : Nat) (p0_laws : Nat) : List Nat := [p0, p0_laws]
theorem za_r_isLaw {p0 : Nat} {f_p0 : List Value} {p0_laws : Nat} {c_p0_laws : ClassId} {b_p0_laws : Nat → Int32} : (zW_r_isLaw p0 f_p0 p0_laws c_p0_laws b_p0_laws).map Prod.fst = (zA_r_isLaw p0 p0_laws) := rfl
def zG_r_isLaw (p0 : Nat) (f_p0 : List Value) (p0_laws : Nat) (c_p0_laws : ClassId) (b_p0_laws : Nat → Int32) (a1 : Int32) (bk : Int32) (r : Int32) (X : va_W → Prop) : Prop := ((r = 1 ∧ (0 ≤ a1.toInt ∧ ((b_p0_laws bk.toNatClampNeg).toInt = 0 ∨ a1.toInt < (b_p0_laws bk.toNatClampNeg).toInt))) ∨ (r = 0 ∧ (True))) ∧ X (zW_r_isLaw p0 f_p0 p0_laws c_p0_laws b_p0_laws)
theorem zm_r_isLaw {p0 : Nat} {f_p0 : List Value} {p0_laws : Nat} {c_p0_laws : ClassId} {b_p0_laws : Nat → Int32} {a1 : Int32} {bk : Int32} : ∀ (r : Int32), ∀ X Y : va_W → Prop, (∀ w, X w → Y w) → zG_r_isLaw p0 f_p0 p0_laws c_p0_laws b_p0_laws a1 bk r X → zG_r_isLaw p0 f_p0 p0_laws c_p0_laws b_p0_laws a1 bk r Y := fun r X Y h h1 => by obtain ⟨x0, hx⟩ := h1; exact ⟨x0, h _ hx⟩
set_option maxHeartbeats 4000000 in
set_option maxRecDepth 100000 in
theorem r_isLaw (l : Launch) (dC : Nat → ClassId) (dI : Nat → Nat → Nat) (sz : Nat) (p0 : Nat) (f_p0 : List Value) (p0_laws : Nat) (c_p0_laws : ClassId) (b_p0_laws : Nat → Int32) (a1 : Int32) (bk : Int32) (ho_p0 : OKX9 f_p0) (fr_p0_14 : q_rf f_p0 14 p0_laws) (hr_p0_laws : q_rg 2 (0) 3 b_p0_laws) (pf_bk : q_if f_p0 43 bk) : Met l yX9_isLaw zw_r_isLaw ({ frames := 1, cells := 0, slots := 0, locals := 22 }) (va_Pc [.ref p0, .int a1] (q_pre (dC, dI) (zW_r_isLaw p0 f_p0 p0_laws c_p0_laws b_p0_laws) (zT_r_isLaw c_p0_laws) q_E0 sz)) (q_Qi (dC, dI) (zG_r_isLaw p0 f_p0 p0_laws c_p0_laws b_p0_laws a1 bk) (zA_r_isLaw p0 p0_laws) (va_A (zW_r_isLaw p0 f_p0 p0_laws c_p0_laws b_p0_laws) sz)) 0 0 (va_A (zW_r_isLaw p0 f_p0 p0_laws c_p0_laws b_p0_laws) sz) := by
  refine Met.ofW (cc := cX9_isLaw) (maxL := 2) (ret := (some .boolean)) (by decide) rfl ?_
  intro p e s m args below meth c s₁ B hml hv
  obtain ⟨rfl, hsz, hP, hK, hD0, hE⟩ := hv
  have hx := B.exec
  have hb := B.bytes
  have hr := B.returns
  have hts := atoms_spec (ws := zw_r_isLaw) B.pre
  have hown : s.vm.findClass RX9 = some m.cls := findClass_of_methodNamed B.named
  have hlocks := B.notSynchronized
  subst hsz
  have hD := hD0.self (sz := s.heap.size)
  generalize hAe : va_A (zW_r_isLaw p0 f_p0 p0_laws c_p0_laws b_p0_laws) s.heap.size = A at hD hE ⊢
  have hA : ∀ q : Nat, s.heap.size ≤ q → A q := fun q h => by rw [← hAe]; exact Or.inr h
  have hDa : q_DA A (zA_r_isLaw p0 p0_laws) := q_DA.mk hD za_r_isLaw
  clear hAe hD0 hD
  have hS : va_S A s.heap s.heap [] := va_S.rf
  have m_0 : (.fieldLink RX9 30 "BowWalkModel" "laws" "[I" : Cond) ∈ zw_r_isLaw := List.mem_append_left _ (List.mem_of_getElem? (i := 1) rfl)
  have k_0 := hts _ m_0
  have m_1 : (.fieldLink RX9 291 "BowWalkModel" "bank" "I" : Cond) ∈ zw_r_isLaw := List.mem_append_left _ (List.mem_of_getElem? (i := 2) rfl)
  have k_1 := hts _ m_1
  have m_2 : (.methodLink RX9 389 yX9_isIn : Cond) ∈ zw_r_isLaw := List.mem_append_left _ (List.mem_of_getElem? (i := 3) rfl)
  have k_2 := hts _ m_2
  have m_3 : (.static yX9_isIn : Cond) ∈ zw_r_isLaw := List.mem_append_left _ (List.mem_of_getElem? (i := 4) rfl)
  have k_3 := hts _ m_3
  have m_4 : (.initialized RX9 : Cond) ∈ zw_r_isLaw := List.mem_append_left _ (List.mem_of_getElem? (i := 5) rfl)
  have k_4 := hts _ m_4
  have g_r_isIn : ∀ w ∈ zw_r_isIn, w ∈ zw_r_isLaw := fun w h => List.mem_append_right _ (List.mem_append_left _ h)
  have i_X9 : ∀ w ∈ u_ws RX9 TX9 81, w ∈ zw_r_isLaw := fun w h => List.mem_append_right _ (List.mem_append_right _ (List.mem_append_left _ h))
  have lt_0 : (0 : Int32).toInt = 0 := by decide
  have lt_1 : (1 : Int32).toInt = 1 := by decide
  have hl := lv_entry ([.ref p0, .int a1]) (n := 2) (Nat.le_of_ble_eq_true rfl)
  rw [lg_entry_eq]
  generalize (lg_sl ([.ref p0, .int a1]) ++ List.replicate (2 - (lg_sl ([.ref p0, .int a1])).length) Slot.unset).toArray = ls at hl ⊢
  have hl : lv_has ls 2 [(0, .ref p0), (1, .int a1)] := hl
  have tbk := (OKX9_g43 ho_p0).use pf_bk
  have hlb := hr_p0_laws bk.toNatClampNeg (q_cl (q_in (by omega) (by omega)))
  refine lv_iload_n hx hb dX9_isLaw_0 rfl (lv_at hl 1 rfl) (lv_iconst (v := 0) hx hb dX9_isLaw_1 (by decide) (lv_aload_n hx hb dX9_isLaw_2 rfl (lv_at hl 0 rfl) (qg_X9_14 hx hb hts i_X9 hown hK hP 0 rfl k_0 fr_p0_14 dX9_isLaw_3 (lv_aload_n hx hb dX9_isLaw_6 rfl (lv_at hl 0 rfl) (qg_X9_43 hx hb hts i_X9 hown hK hP 0 rfl k_1 pf_bk dX9_isLaw_7 (q_ild hx hb hK hP 1 0 rfl rfl (q_in (by omega) (by omega)) dX9_isLaw_10 (fun v_1 ev_1 => ?_)))))))
  have uv_1 : v_1.toInt = (b_p0_laws bk.toNatClampNeg).toInt := by rw [ev_1]
  have tv_1 := q_rd' hr_p0_laws (q_in (by omega) (by omega)) ev_1
  refine lv_if_le (tgt := 28) hx hb dX9_isLaw_11 (by decide) (fun c_2 => ?_) (fun c_2 => ?_)
  · have tc_2 := q_le c_2
    refine lv_iconst (v := 0) hx hb dX9_isLaw_28 (by decide) ?_
    refine q_cSi (As := [.int a1, .int 0, .int 0]) (rest := []) q_w0 trivial hK hP hDa za_r_isLaw hS hA [] [] (by decide +kernel) ⟨hx, hb, hml, hown, hts⟩ (r_isIn l dC dI s.heap.size a1 0 0) rfl rfl (va_cwS 3 hts (p1_gS m_2 m_3 m_4 g_r_isIn gz_r_isIn) rfl rfl rfl (by decide +kernel) ⟨by decide, by decide⟩) zm_r_isIn rfl hl.1 rfl (Nat.le_of_ble_eq_true rfl) dX9_isLaw_29 ⟨by decide, by decide⟩ (fun r_3 H4 lo4 hG4 hS4 => ?_)
    obtain ⟨z_5, hQ4⟩ := hG4
    have hP4 : va_P (dC, dI) vwCl (zW_r_isLaw p0 f_p0 p0_laws c_p0_laws b_p0_laws) H4 := hQ4
    clear hQ4 hP hS
    rcases z_5 with ⟨rfl, z_5⟩ | ⟨rfl, z_5⟩
    · exact q_zret hx hb hr hlocks (by decide) hS4 dX9_isLaw_32 ⟨(Or.inl ⟨rfl, by first | trivial | omega⟩), hP4, za_r_isLaw⟩
    · exact q_zret hx hb hr hlocks (by decide) hS4 dX9_isLaw_32 ⟨(Or.inr ⟨rfl, by first | trivial | omega⟩), hP4, za_r_isLaw⟩
  · have tc_2 := q_gtN c_2
    refine lv_aload_n hx hb dX9_isLaw_14 rfl (lv_at hl 0 rfl) (qg_X9_14 hx hb hts i_X9 hown hK hP 0 rfl k_0 fr_p0_14 dX9_isLaw_15 (lv_aload_n hx hb dX9_isLaw_18 rfl (lv_at hl 0 rfl) (qg_X9_43 hx hb hts i_X9 hown hK hP 0 rfl k_1 pf_bk dX9_isLaw_19 (q_ild hx hb hK hP 1 0 rfl rfl (q_in (by omega) (by omega)) dX9_isLaw_22 (fun v_6 ev_6 => ?_)))))
    have uv_6 : v_6.toInt = (b_p0_laws bk.toNatClampNeg).toInt := by rw [ev_6]
    have tv_6 := q_rd' hr_p0_laws (q_in (by omega) (by omega)) ev_6
    refine lv_iconst (v := 1) hx hb dX9_isLaw_23 (by decide) (lv_isub hx hb dX9_isLaw_24 (lv_topi fun v_7 ev_7 => ?_))
    have tv_7 := q_sub ev_7 (by omega) (by omega)
    refine lv_goto (tgt := 29) hx hb dX9_isLaw_25 (by decide) ?_
    refine q_cSi (As := [.int a1, .int 0, .int v_7]) (rest := []) q_w0 trivial hK hP hDa za_r_isLaw hS hA [] [] (by decide +kernel) ⟨hx, hb, hml, hown, hts⟩ (r_isIn l dC dI s.heap.size a1 0 v_7) rfl rfl (va_cwS 3 hts (p1_gS m_2 m_3 m_4 g_r_isIn gz_r_isIn) rfl rfl rfl (by decide +kernel) ⟨by decide, by decide⟩) zm_r_isIn rfl hl.1 rfl (Nat.le_of_ble_eq_true rfl) dX9_isLaw_29 ⟨by decide, by decide⟩ (fun r_8 H9 lo9 hG9 hS9 => ?_)
    obtain ⟨z_10, hQ9⟩ := hG9
    have hP9 : va_P (dC, dI) vwCl (zW_r_isLaw p0 f_p0 p0_laws c_p0_laws b_p0_laws) H9 := hQ9
    clear hQ9 hP hS
    rcases z_10 with ⟨rfl, z_10⟩ | ⟨rfl, z_10⟩
    · exact q_zret hx hb hr hlocks (by decide) hS9 dX9_isLaw_32 ⟨(Or.inl ⟨rfl, by first | trivial | omega⟩), hP9, za_r_isLaw⟩
    · exact q_zret hx hb hr hlocks (by decide) hS9 dX9_isLaw_32 ⟨(Or.inr ⟨rfl, by first | trivial | omega⟩), hP9, za_r_isLaw⟩
