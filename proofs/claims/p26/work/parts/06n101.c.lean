def zo_r_isAll : List Cond := [.code yX9_isAll cX9_isAll 4 (some .boolean), .methodLink RX9 431 yX9_isKnot, .instanceMethod yX9_isKnot, .selects RX9 yX9_isKnot yX9_isKnot, .initialized RX9, .methodLink RX9 434 yX9_isCord, .instanceMethod yX9_isCord, .selects RX9 yX9_isCord yX9_isCord, .methodLink RX9 455 yX9_isWalk, .instanceMethod yX9_isWalk, .selects RX9 yX9_isWalk yX9_isWalk]
def zw_r_isAll : List Cond := zo_r_isAll ++ (zw_r_isKnot ++ (zw_r_isCord ++ (zw_r_isWalk ++ [])))
theorem gz_r_isAll : zw_r_isAll.all goodWord = true := p1_ga (by decide +kernel) (p1_ga gz_r_isKnot (p1_ga gz_r_isCord (p1_ga gz_r_isWalk p1_g0)))
theorem iz_r_isAll : ∀ w ∈ zw_r_isAll, w ∈ lw_tbl := p1_ia (p1_all [1521, 1435, 1437, 71, 116, 1442, 1444, 72, 1458, 1460, 75] (by decide +kernel)) (p1_ia iz_r_isKnot (p1_ia iz_r_isCord (p1_ia iz_r_isWalk p1_i0)))
def zW_r_isAll (p0 : Nat) (f_p0 : List Value) (p0_cords : Nat) (c_p0_cords : ClassId) (b_p0_cords : Nat → Int32) (p0_knots : Nat) (c_p0_knots : ClassId) (b_p0_knots : Nat → Int32) (p0_walks : Nat) (c_p0_walks : ClassId) (b_p0_walks : Nat → Int32) : va_W := [(p0, .inr (8, f_p0)), (p0_cords, .inl (c_p0_cords, 2, .inl b_p0_cords)), (p0_knots, .inl (c_p0_knots, 2, .inl b_p0_knots)), (p0_walks, .inl (c_p0_walks, 2, .inl b_p0_walks))]
def zT_r_isAll (c_p0_cords : ClassId) (c_p0_knots : ClassId) (c_p0_walks : ClassId) : List (ClassId × FieldType) := [(c_p0_cords, .int), (c_p0_knots, .int), (c_p0_walks, .int)]
def zA_r_isAll (p0 : Nat) (p0_cords : Nat) (p0_knots : Nat) (p0_walks : Nat) : List Nat := [p0, p0_cords, p0_knots, p0_walks]
theorem za_r_isAll {p0 : Nat} {f_p0 : List Value} {p0_cords : Nat} {c_p0_cords : ClassId} {b_p0_cords : Nat → Int32} {p0_knots : Nat} {c_p0_knots : ClassId} {b_p0_knots : Nat → Int32} {p0_walks : Nat} {c_p0_walks : ClassId} {b_p0_walks : Nat → Int32} : (zW_r_isAll p0 f_p0 p0_cords c_p0_cords b_p0_cords p0_knots c_p0_knots b_p0_knots p0_walks c_p0_walks b_p0_walks).map Prod.fst = (zA_r_isAll p0 p0_cords p0_knots p0_walks) := rfl
def zG_r_isAll (p0 : Nat) (f_p0 : List Value) (p0_cords : Nat) (c_p0_cords : ClassId) (b_p0_cords : Nat → Int32) (p0_knots : Nat) (c_p0_knots : ClassId) (b_p0_knots : Nat → Int32) (p0_walks : Nat) (c_p0_walks : ClassId) (b_p0_walks : Nat → Int32) (a1 : Int32) (a2 : Int32) (a3 : Int32) (bk : Int32) (r : Int32) (X : va_W → Prop) : Prop := ((r = 1 ∧ (0 ≤ a1.toInt ∧ a1.toInt ≤ 5 ∧ 0 ≤ a2.toInt ∧ a2.toInt ≤ 3 ∧ 0 ≤ a3.toInt ∧ a3.toInt < (b_p0_walks bk.toNatClampNeg).toInt ∧ a3.toInt ≤ 3)) ∨ (r = 0 ∧ (True))) ∧ X (zW_r_isAll p0 f_p0 p0_cords c_p0_cords b_p0_cords p0_knots c_p0_knots b_p0_knots p0_walks c_p0_walks b_p0_walks)
theorem zm_r_isAll {p0 : Nat} {f_p0 : List Value} {p0_cords : Nat} {c_p0_cords : ClassId} {b_p0_cords : Nat → Int32} {p0_knots : Nat} {c_p0_knots : ClassId} {b_p0_knots : Nat → Int32} {p0_walks : Nat} {c_p0_walks : ClassId} {b_p0_walks : Nat → Int32} {a1 : Int32} {a2 : Int32} {a3 : Int32} {bk : Int32} : ∀ (r : Int32), ∀ X Y : va_W → Prop, (∀ w, X w → Y w) → zG_r_isAll p0 f_p0 p0_cords c_p0_cords b_p0_cords p0_knots c_p0_knots b_p0_knots p0_walks c_p0_walks b_p0_walks a1 a2 a3 bk r X → zG_r_isAll p0 f_p0 p0_cords c_p0_cords b_p0_cords p0_knots c_p0_knots b_p0_knots p0_walks c_p0_walks b_p0_walks a1 a2 a3 bk r Y := fun r X Y h h1 => by obtain ⟨x0, hx⟩ := h1; exact ⟨x0, h _ hx⟩
set_option maxHeartbeats 4000000 in
set_option maxRecDepth 100000 in
theorem r_isAll (l : Launch) (dC : Nat → ClassId) (dI : Nat → Nat → Nat) (sz : Nat) (p0 : Nat) (f_p0 : List Value) (p0_cords : Nat) (c_p0_cords : ClassId) (b_p0_cords : Nat → Int32) (p0_knots : Nat) (c_p0_knots : ClassId) (b_p0_knots : Nat → Int32) (p0_walks : Nat) (c_p0_walks : ClassId) (b_p0_walks : Nat → Int32) (a1 : Int32) (a2 : Int32) (a3 : Int32) (bk : Int32) (ho_p0 : OKX9 f_p0) (fr_p0_11 : q_rf f_p0 11 p0_knots) (fr_p0_12 : q_rf f_p0 12 p0_cords) (fr_p0_13 : q_rf f_p0 13 p0_walks) (hr_p0_cords : q_rg 2 (0) 4 b_p0_cords) (hr_p0_knots : q_rg 2 (0) 6 b_p0_knots) (hr_p0_walks : q_rg 2 (0) 4 b_p0_walks) (pf_bk : q_if f_p0 43 bk) : Met l yX9_isAll zw_r_isAll ({ frames := 2, cells := 0, slots := 0, locals := 43 }) (va_Pc [.ref p0, .int a1, .int a2, .int a3] (q_pre (dC, dI) (zW_r_isAll p0 f_p0 p0_cords c_p0_cords b_p0_cords p0_knots c_p0_knots b_p0_knots p0_walks c_p0_walks b_p0_walks) (zT_r_isAll c_p0_cords c_p0_knots c_p0_walks) q_E0 sz)) (q_Qi (dC, dI) (zG_r_isAll p0 f_p0 p0_cords c_p0_cords b_p0_cords p0_knots c_p0_knots b_p0_knots p0_walks c_p0_walks b_p0_walks a1 a2 a3 bk) (zA_r_isAll p0 p0_cords p0_knots p0_walks) (va_A (zW_r_isAll p0 f_p0 p0_cords c_p0_cords b_p0_cords p0_knots c_p0_knots b_p0_knots p0_walks c_p0_walks b_p0_walks) sz)) 0 0 (va_A (zW_r_isAll p0 f_p0 p0_cords c_p0_cords b_p0_cords p0_knots c_p0_knots b_p0_knots p0_walks c_p0_walks b_p0_walks) sz) := by
  refine Met.ofW (cc := cX9_isAll) (maxL := 4) (ret := (some .boolean)) (by decide) rfl ?_
  intro p e s m args below meth c s₁ B hml hv
  obtain ⟨rfl, hsz, hP, hK, hD0, hE⟩ := hv
  have hx := B.exec
  have hb := B.bytes
  have hr := B.returns
  have hts := atoms_spec (ws := zw_r_isAll) B.pre
  have hown : s.vm.findClass RX9 = some m.cls := findClass_of_methodNamed B.named
  have hlocks := B.notSynchronized
  subst hsz
  have hD := hD0.self (sz := s.heap.size)
  generalize hAe : va_A (zW_r_isAll p0 f_p0 p0_cords c_p0_cords b_p0_cords p0_knots c_p0_knots b_p0_knots p0_walks c_p0_walks b_p0_walks) s.heap.size = A at hD hE ⊢
  have hA : ∀ q : Nat, s.heap.size ≤ q → A q := fun q h => by rw [← hAe]; exact Or.inr h
  have hDa : q_DA A (zA_r_isAll p0 p0_cords p0_knots p0_walks) := q_DA.mk hD za_r_isAll
  clear hAe hD0 hD
  have hS : va_S A s.heap s.heap [] := va_S.rf
  have m_0 : (.methodLink RX9 431 yX9_isKnot : Cond) ∈ zw_r_isAll := List.mem_append_left _ (List.mem_of_getElem? (i := 1) rfl)
  have k_0 := hts _ m_0
  have m_1 : (.instanceMethod yX9_isKnot : Cond) ∈ zw_r_isAll := List.mem_append_left _ (List.mem_of_getElem? (i := 2) rfl)
  have k_1 := hts _ m_1
  have m_2 : (.selects RX9 yX9_isKnot yX9_isKnot : Cond) ∈ zw_r_isAll := List.mem_append_left _ (List.mem_of_getElem? (i := 3) rfl)
  have k_2 := hts _ m_2
  have m_3 : (.initialized RX9 : Cond) ∈ zw_r_isAll := List.mem_append_left _ (List.mem_of_getElem? (i := 4) rfl)
  have k_3 := hts _ m_3
  have m_4 : (.methodLink RX9 434 yX9_isCord : Cond) ∈ zw_r_isAll := List.mem_append_left _ (List.mem_of_getElem? (i := 5) rfl)
  have k_4 := hts _ m_4
  have m_5 : (.instanceMethod yX9_isCord : Cond) ∈ zw_r_isAll := List.mem_append_left _ (List.mem_of_getElem? (i := 6) rfl)
  have k_5 := hts _ m_5
  have m_6 : (.selects RX9 yX9_isCord yX9_isCord : Cond) ∈ zw_r_isAll := List.mem_append_left _ (List.mem_of_getElem? (i := 7) rfl)
  have k_6 := hts _ m_6
  have m_7 : (.methodLink RX9 455 yX9_isWalk : Cond) ∈ zw_r_isAll := List.mem_append_left _ (List.mem_of_getElem? (i := 8) rfl)
  have k_7 := hts _ m_7
  have m_8 : (.instanceMethod yX9_isWalk : Cond) ∈ zw_r_isAll := List.mem_append_left _ (List.mem_of_getElem? (i := 9) rfl)
  have k_8 := hts _ m_8
  have m_9 : (.selects RX9 yX9_isWalk yX9_isWalk : Cond) ∈ zw_r_isAll := List.mem_append_left _ (List.mem_of_getElem? (i := 10) rfl)
  have k_9 := hts _ m_9
  have g_r_isKnot : ∀ w ∈ zw_r_isKnot, w ∈ zw_r_isAll := fun w h => List.mem_append_right _ (List.mem_append_left _ h)
  have g_r_isCord : ∀ w ∈ zw_r_isCord, w ∈ zw_r_isAll := fun w h => List.mem_append_right _ (List.mem_append_right _ (List.mem_append_left _ h))
  have g_r_isWalk : ∀ w ∈ zw_r_isWalk, w ∈ zw_r_isAll := fun w h => List.mem_append_right _ (List.mem_append_right _ (List.mem_append_right _ (List.mem_append_left _ h)))
  have lt_0 : (0 : Int32).toInt = 0 := by decide
  have lt_1 : (1 : Int32).toInt = 1 := by decide
  have hl := lv_entry ([.ref p0, .int a1, .int a2, .int a3]) (n := 4) (Nat.le_of_ble_eq_true rfl)
  rw [lg_entry_eq]
  generalize (lg_sl ([.ref p0, .int a1, .int a2, .int a3]) ++ List.replicate (4 - (lg_sl ([.ref p0, .int a1, .int a2, .int a3])).length) Slot.unset).toArray = ls at hl ⊢
  have hl : lv_has ls 4 [(0, .ref p0), (1, .int a1), (2, .int a2), (3, .int a3)] := hl
  have tbk := (OKX9_g43 ho_p0).use pf_bk
  have hwb := hr_p0_walks bk.toNatClampNeg (q_cl (q_in (by omega) (by omega)))
  refine lv_aload_n hx hb dX9_isAll_0 rfl (lv_at hl 0 rfl) (lv_iload_n hx hb dX9_isAll_1 rfl (lv_at hl 1 rfl) ?_)
  refine q_cVi (As := [.int a1]) (rest := []) q_w0 trivial hK hP hDa za_r_isAll hS hA [0, 2] [1] (by decide +kernel) ⟨hx, hb, hml, hown, hts⟩ (r_isKnot l dC dI s.heap.size p0 f_p0 p0_knots c_p0_knots b_p0_knots a1 bk ho_p0 fr_p0_11 hr_p0_knots pf_bk) rfl rfl (cwV 1 hts (p1_gV m_0 m_1 m_2 m_3 g_r_isKnot gz_r_isKnot) rfl rfl rfl (by decide +kernel) ⟨by decide, by decide⟩) (va_recv hK hP (ci := 8) (q0 := 0) rfl rfl) zm_r_isKnot rfl hl.1 rfl (Nat.le_of_ble_eq_true rfl) dX9_isAll_2 ⟨by decide, by decide⟩ (fun r_1 H2 lo2 hG2 hS2 => ?_)
  obtain ⟨z_3, hQ2⟩ := hG2
  have hP2 : va_P (dC, dI) vwCl (zW_r_isAll p0 f_p0 p0_cords c_p0_cords b_p0_cords p0_knots c_p0_knots b_p0_knots p0_walks c_p0_walks b_p0_walks) H2 := hQ2
  clear hQ2 hP hS
  rcases z_3 with ⟨rfl, z_3⟩ | ⟨rfl, z_3⟩
  · refine lv_if_eq (tgt := 28) hx hb dX9_isAll_5 (by decide) (fun c_4 => absurd c_4 (by decide)) (fun c_4 => ?_)
    refine lv_aload_n hx hb dX9_isAll_8 rfl (lv_at hl 0 rfl) (lv_iload_n hx hb dX9_isAll_9 rfl (lv_at hl 2 rfl) ?_)
    refine q_cVi (As := [.int a2]) (rest := []) q_w0 trivial hK hP2 hDa za_r_isAll hS2 hA [0, 1] [0] (by decide +kernel) ⟨hx, hb, hml, hown, hts⟩ (r_isCord l dC dI H2.size p0 f_p0 p0_cords c_p0_cords b_p0_cords a2 bk ho_p0 fr_p0_12 hr_p0_cords pf_bk) rfl rfl (cwV 1 hts (p1_gV m_4 m_5 m_6 m_3 g_r_isCord gz_r_isCord) rfl rfl rfl (by decide +kernel) ⟨by decide, by decide⟩) (va_recv hK hP2 (ci := 8) (q0 := 0) rfl rfl) zm_r_isCord rfl hl.1 rfl (Nat.le_of_ble_eq_true rfl) dX9_isAll_10 ⟨by decide, by decide⟩ (fun r_5 H6 lo6 hG6 hS6 => ?_)
    obtain ⟨z_7, hQ6⟩ := hG6
    have hP6 : va_P (dC, dI) vwCl (zW_r_isAll p0 f_p0 p0_cords c_p0_cords b_p0_cords p0_knots c_p0_knots b_p0_knots p0_walks c_p0_walks b_p0_walks) H6 := hQ6
    clear hQ6 hP2 hS2
    rcases z_7 with ⟨rfl, z_7⟩ | ⟨rfl, z_7⟩
    · refine lv_if_eq (tgt := 28) hx hb dX9_isAll_13 (by decide) (fun c_8 => absurd c_8 (by decide)) (fun c_8 => ?_)
      refine lv_aload_n hx hb dX9_isAll_16 rfl (lv_at hl 0 rfl) (lv_iload_n hx hb dX9_isAll_17 rfl (lv_at hl 3 rfl) ?_)
      refine q_cVi (As := [.int a3]) (rest := []) q_w0 trivial hK hP6 hDa za_r_isAll hS6 hA [0, 3] [2] (by decide +kernel) ⟨hx, hb, hml, hown, hts⟩ (r_isWalk l dC dI H6.size p0 f_p0 p0_walks c_p0_walks b_p0_walks a3 bk ho_p0 fr_p0_13 hr_p0_walks pf_bk) rfl rfl (cwV 1 hts (p1_gV m_7 m_8 m_9 m_3 g_r_isWalk gz_r_isWalk) rfl rfl rfl (by decide +kernel) ⟨by decide, by decide⟩) (va_recv hK hP6 (ci := 8) (q0 := 0) rfl rfl) zm_r_isWalk rfl hl.1 rfl (Nat.le_of_ble_eq_true rfl) dX9_isAll_18 ⟨by decide, by decide⟩ (fun r_9 H10 lo10 hG10 hS10 => ?_)
      obtain ⟨z_11, hQ10⟩ := hG10
      have hP10 : va_P (dC, dI) vwCl (zW_r_isAll p0 f_p0 p0_cords c_p0_cords b_p0_cords p0_knots c_p0_knots b_p0_knots p0_walks c_p0_walks b_p0_walks) H10 := hQ10
      clear hQ10 hP6 hS6
      rcases z_11 with ⟨rfl, z_11⟩ | ⟨rfl, z_11⟩
      · refine lv_if_eq (tgt := 28) hx hb dX9_isAll_21 (by decide) (fun c_12 => absurd c_12 (by decide)) (fun c_12 => ?_)
        refine lv_iconst (v := 1) hx hb dX9_isAll_24 (by decide) (lv_goto (tgt := 29) hx hb dX9_isAll_25 (by decide) ?_)
        exact q_zret hx hb hr hlocks (by decide) hS10 dX9_isAll_29 ⟨(Or.inl ⟨rfl, by first | trivial | omega⟩), hP10, za_r_isAll⟩
      · refine lv_if_eq (tgt := 28) hx hb dX9_isAll_21 (by decide) (fun c_13 => ?_) (fun c_13 => absurd c_13 (by decide))
        refine lv_iconst (v := 0) hx hb dX9_isAll_28 (by decide) ?_
        exact q_zret hx hb hr hlocks (by decide) hS10 dX9_isAll_29 ⟨(Or.inr ⟨rfl, by first | trivial | omega⟩), hP10, za_r_isAll⟩
    · refine lv_if_eq (tgt := 28) hx hb dX9_isAll_13 (by decide) (fun c_14 => ?_) (fun c_14 => absurd c_14 (by decide))
      refine lv_iconst (v := 0) hx hb dX9_isAll_28 (by decide) ?_
      exact q_zret hx hb hr hlocks (by decide) hS6 dX9_isAll_29 ⟨(Or.inr ⟨rfl, by first | trivial | omega⟩), hP6, za_r_isAll⟩
  · refine lv_if_eq (tgt := 28) hx hb dX9_isAll_5 (by decide) (fun c_15 => ?_) (fun c_15 => absurd c_15 (by decide))
    refine lv_iconst (v := 0) hx hb dX9_isAll_28 (by decide) ?_
    exact q_zret hx hb hr hlocks (by decide) hS2 dX9_isAll_29 ⟨(Or.inr ⟨rfl, by first | trivial | omega⟩), hP2, za_r_isAll⟩
def zo_r_lawMany : List Cond := [.code yX9_lawMany cX9_lawMany 1 (some .int), .fieldLink RX9 30 "BowWalkModel" "laws" "[I", .fieldLink RX9 291 "BowWalkModel" "bank" "I"]
def zw_r_lawMany : List Cond := zo_r_lawMany ++ (wsX90 ++ [])
theorem gz_r_lawMany : zw_r_lawMany.all goodWord = true := p1_ga (by decide +kernel) (p1_ga gk_X9 p1_g0)
theorem iz_r_lawMany : ∀ w ∈ zw_r_lawMany, w ∈ lw_tbl := p1_ia (p1_all [1651, 1051, 1080] (by decide +kernel)) (p1_ia ik_X9 p1_i0)
def zW_r_lawMany (p0 : Nat) (f_p0 : List Value) (p0_laws : Nat) (c_p0_laws : ClassId) (b_p0_laws : Nat → Int32) : va_W := [(p0, .inr (8, f_p0)), (p0_laws, .inl (c_p0_laws, 2, .inl b_p0_laws))]
def zT_r_lawMany (c_p0_laws : ClassId) : List (ClassId × FieldType) := [(c_p0_laws, .int)]
def zA_r_lawMany (p0 : Nat) (p0_laws : Nat) : List Nat := [p0, p0_laws]
theorem za_r_lawMany {p0 : Nat} {f_p0 : List Value} {p0_laws : Nat} {c_p0_laws : ClassId} {b_p0_laws : Nat → Int32} : (zW_r_lawMany p0 f_p0 p0_laws c_p0_laws b_p0_laws).map Prod.fst = (zA_r_lawMany p0 p0_laws) := rfl
def zG_r_lawMany (p0 : Nat) (f_p0 : List Value) (p0_laws : Nat) (c_p0_laws : ClassId) (b_p0_laws : Nat → Int32) (bk : Int32) (r : Int32) (X : va_W → Prop) : Prop := (1 ≤ r.toInt ∧ r.toInt ≤ 3 ∧ ((b_p0_laws bk.toNatClampNeg).toInt = 0 ∨ r.toInt = (b_p0_laws bk.toNatClampNeg).toInt)) ∧ X (zW_r_lawMany p0 f_p0 p0_laws c_p0_laws b_p0_laws)
theorem zm_r_lawMany {p0 : Nat} {f_p0 : List Value} {p0_laws : Nat} {c_p0_laws : ClassId} {b_p0_laws : Nat → Int32} {bk : Int32} : ∀ (r : Int32), ∀ X Y : va_W → Prop, (∀ w, X w → Y w) → zG_r_lawMany p0 f_p0 p0_laws c_p0_laws b_p0_laws bk r X → zG_r_lawMany p0 f_p0 p0_laws c_p0_laws b_p0_laws bk r Y := fun r X Y h h1 => by obtain ⟨x0, hx⟩ := h1; exact ⟨x0, h _ hx⟩
set_option maxHeartbeats 4000000 in
set_option maxRecDepth 100000 in
theorem r_lawMany (l : Launch) (dC : Nat → ClassId) (dI : Nat → Nat → Nat) (sz : Nat) (p0 : Nat) (f_p0 : List Value) (p0_laws : Nat) (c_p0_laws : ClassId) (b_p0_laws : Nat → Int32) (bk : Int32) (ho_p0 : OKX9 f_p0) (fr_p0_14 : q_rf f_p0 14 p0_laws) (hr_p0_laws : q_rg 2 (0) 3 b_p0_laws) (pf_bk : q_if f_p0 43 bk) : Met l yX9_lawMany zw_r_lawMany ({ frames := 0, cells := 0, slots := 0, locals := 0 }) (va_Pc [.ref p0] (q_pre (dC, dI) (zW_r_lawMany p0 f_p0 p0_laws c_p0_laws b_p0_laws) (zT_r_lawMany c_p0_laws) q_E0 sz)) (q_Qi (dC, dI) (zG_r_lawMany p0 f_p0 p0_laws c_p0_laws b_p0_laws bk) (zA_r_lawMany p0 p0_laws) (va_A (zW_r_lawMany p0 f_p0 p0_laws c_p0_laws b_p0_laws) sz)) 0 0 (va_A (zW_r_lawMany p0 f_p0 p0_laws c_p0_laws b_p0_laws) sz) := by
  refine Met.ofW (cc := cX9_lawMany) (maxL := 1) (ret := (some .int)) (by decide) rfl ?_
  intro p e s m args below meth c s₁ B hml hv
  obtain ⟨rfl, hsz, hP, hK, hD0, hE⟩ := hv
  have hx := B.exec
  have hb := B.bytes
  have hr := B.returns
  have hts := atoms_spec (ws := zw_r_lawMany) B.pre
  have hown : s.vm.findClass RX9 = some m.cls := findClass_of_methodNamed B.named
  have hlocks := B.notSynchronized
  subst hsz
  have hD := hD0.self (sz := s.heap.size)
  generalize hAe : va_A (zW_r_lawMany p0 f_p0 p0_laws c_p0_laws b_p0_laws) s.heap.size = A at hD hE ⊢
  have hA : ∀ q : Nat, s.heap.size ≤ q → A q := fun q h => by rw [← hAe]; exact Or.inr h
  have hDa : q_DA A (zA_r_lawMany p0 p0_laws) := q_DA.mk hD za_r_lawMany
  clear hAe hD0 hD
  have hS : va_S A s.heap s.heap [] := va_S.rf
  have m_0 : (.fieldLink RX9 30 "BowWalkModel" "laws" "[I" : Cond) ∈ zw_r_lawMany := List.mem_append_left _ (List.mem_of_getElem? (i := 1) rfl)
  have k_0 := hts _ m_0
  have m_1 : (.fieldLink RX9 291 "BowWalkModel" "bank" "I" : Cond) ∈ zw_r_lawMany := List.mem_append_left _ (List.mem_of_getElem? (i := 2) rfl)
  have k_1 := hts _ m_1
  have i_X9 : ∀ w ∈ u_ws RX9 TX9 81, w ∈ zw_r_lawMany := fun w h => List.mem_append_right _ (List.mem_append_left _ h)
  have lt_0 : (0 : Int32).toInt = 0 := by decide
  have lt_1 : (1 : Int32).toInt = 1 := by decide
  have hl := lv_entry ([.ref p0]) (n := 1) (Nat.le_of_ble_eq_true rfl)
  rw [lg_entry_eq]
  generalize (lg_sl ([.ref p0]) ++ List.replicate (1 - (lg_sl ([.ref p0])).length) Slot.unset).toArray = ls at hl ⊢
  have hl : lv_has ls 1 [(0, .ref p0)] := hl
  have tbk := (OKX9_g43 ho_p0).use pf_bk
  have hlb := hr_p0_laws bk.toNatClampNeg (q_cl (q_in (by omega) (by omega)))
  refine lv_aload_n hx hb dX9_lawMany_0 rfl (lv_at hl 0 rfl) (qg_X9_14 hx hb hts i_X9 hown hK hP 0 rfl k_0 fr_p0_14 dX9_lawMany_1 (lv_aload_n hx hb dX9_lawMany_4 rfl (lv_at hl 0 rfl) (qg_X9_43 hx hb hts i_X9 hown hK hP 0 rfl k_1 pf_bk dX9_lawMany_5 (q_ild hx hb hK hP 1 0 rfl rfl (q_in (by omega) (by omega)) dX9_lawMany_8 (fun v_1 ev_1 => ?_)))))
  have uv_1 : v_1.toInt = (b_p0_laws bk.toNatClampNeg).toInt := by rw [ev_1]
  have tv_1 := q_rd' hr_p0_laws (q_in (by omega) (by omega)) ev_1
  refine lv_if_le (tgt := 24) hx hb dX9_lawMany_9 (by decide) (fun c_2 => ?_) (fun c_2 => ?_)
  · have tc_2 := q_le c_2
    refine lv_iconst (v := 1) hx hb dX9_lawMany_24 (by decide) ?_
    exact q_iret hx hb hr hlocks hS dX9_lawMany_25 ⟨(by omega), hP, za_r_lawMany⟩
  · have tc_2 := q_gtN c_2
    refine lv_aload_n hx hb dX9_lawMany_12 rfl (lv_at hl 0 rfl) (qg_X9_14 hx hb hts i_X9 hown hK hP 0 rfl k_0 fr_p0_14 dX9_lawMany_13 (lv_aload_n hx hb dX9_lawMany_16 rfl (lv_at hl 0 rfl) (qg_X9_43 hx hb hts i_X9 hown hK hP 0 rfl k_1 pf_bk dX9_lawMany_17 (q_ild hx hb hK hP 1 0 rfl rfl (q_in (by omega) (by omega)) dX9_lawMany_20 (fun v_3 ev_3 => ?_)))))
    have uv_3 : v_3.toInt = (b_p0_laws bk.toNatClampNeg).toInt := by rw [ev_3]
    have tv_3 := q_rd' hr_p0_laws (q_in (by omega) (by omega)) ev_3
    refine lv_goto (tgt := 25) hx hb dX9_lawMany_21 (by decide) ?_
    exact q_iret hx hb hr hlocks hS dX9_lawMany_25 ⟨(by omega), hP, za_r_lawMany⟩
def zo_r_sideOf : List Cond := [.code yX9_sideOf cX9_sideOf 2 (some .int), .fieldLink RX9 393 "BowWalkModel" "bSides" "I"]
def zw_r_sideOf : List Cond := zo_r_sideOf ++ (wsX90 ++ [])
theorem gz_r_sideOf : zw_r_sideOf.all goodWord = true := p1_ga (by decide +kernel) (p1_ga gk_X9 p1_g0)
theorem iz_r_sideOf : ∀ w ∈ zw_r_sideOf, w ∈ lw_tbl := p1_ia (p1_all [1484, 1088] (by decide +kernel)) (p1_ia ik_X9 p1_i0)
def zW_r_sideOf (p0 : Nat) (f_p0 : List Value) : va_W := [(p0, .inr (8, f_p0))]
def zT_r_sideOf : List (ClassId × FieldType) := []
def zA_r_sideOf (p0 : Nat) : List Nat := [p0]
theorem za_r_sideOf {p0 : Nat} {f_p0 : List Value} : (zW_r_sideOf p0 f_p0).map Prod.fst = (zA_r_sideOf p0) := rfl
def zG_r_sideOf (p0 : Nat) (f_p0 : List Value) (a1 : Int32) (r : Int32) (X : va_W → Prop) : Prop := ((0) ≤ r.toInt ∧ r.toInt ≤ 1) ∧ X (zW_r_sideOf p0 f_p0)
theorem zm_r_sideOf {p0 : Nat} {f_p0 : List Value} {a1 : Int32} : ∀ (r : Int32), ∀ X Y : va_W → Prop, (∀ w, X w → Y w) → zG_r_sideOf p0 f_p0 a1 r X → zG_r_sideOf p0 f_p0 a1 r Y := fun r X Y h h1 => by obtain ⟨x0, hx⟩ := h1; exact ⟨x0, h _ hx⟩
set_option maxHeartbeats 4000000 in
set_option maxRecDepth 100000 in
theorem r_sideOf (l : Launch) (dC : Nat → ClassId) (dI : Nat → Nat → Nat) (sz : Nat) (p0 : Nat) (f_p0 : List Value) (a1 : Int32) (ho_p0 : OKX9 f_p0) : Met l yX9_sideOf zw_r_sideOf ({ frames := 0, cells := 0, slots := 0, locals := 0 }) (va_Pc [.ref p0, .int a1] (q_pre (dC, dI) (zW_r_sideOf p0 f_p0) (zT_r_sideOf) q_E0 sz)) (q_Qi (dC, dI) (zG_r_sideOf p0 f_p0 a1) (zA_r_sideOf p0) (va_A (zW_r_sideOf p0 f_p0) sz)) 0 0 (va_A (zW_r_sideOf p0 f_p0) sz) := by
  refine Met.ofW (cc := cX9_sideOf) (maxL := 2) (ret := (some .int)) (by decide) rfl ?_
  intro p e s m args below meth c s₁ B hml hv
  obtain ⟨rfl, hsz, hP, hK, hD0, hE⟩ := hv
  have hx := B.exec
  have hb := B.bytes
  have hr := B.returns
  have hts := atoms_spec (ws := zw_r_sideOf) B.pre
  have hown : s.vm.findClass RX9 = some m.cls := findClass_of_methodNamed B.named
  have hlocks := B.notSynchronized
  subst hsz
  have hD := hD0.self (sz := s.heap.size)
  generalize hAe : va_A (zW_r_sideOf p0 f_p0) s.heap.size = A at hD hE ⊢
  have hA : ∀ q : Nat, s.heap.size ≤ q → A q := fun q h => by rw [← hAe]; exact Or.inr h
  have hDa : q_DA A (zA_r_sideOf p0) := q_DA.mk hD za_r_sideOf
  clear hAe hD0 hD
  have hS : va_S A s.heap s.heap [] := va_S.rf
  have m_0 : (.fieldLink RX9 393 "BowWalkModel" "bSides" "I" : Cond) ∈ zw_r_sideOf := List.mem_append_left _ (List.mem_of_getElem? (i := 1) rfl)
  have k_0 := hts _ m_0
  have i_X9 : ∀ w ∈ u_ws RX9 TX9 81, w ∈ zw_r_sideOf := fun w h => List.mem_append_right _ (List.mem_append_left _ h)
  have lt_1 : (1 : Int32).toInt = 1 := by decide
  have hl := lv_entry ([.ref p0, .int a1]) (n := 2) (Nat.le_of_ble_eq_true rfl)
  rw [lg_entry_eq]
  generalize (lg_sl ([.ref p0, .int a1]) ++ List.replicate (2 - (lg_sl ([.ref p0, .int a1])).length) Slot.unset).toArray = ls at hl ⊢
  have hl : lv_has ls 2 [(0, .ref p0), (1, .int a1)] := hl
  refine lv_aload_n hx hb dX9_sideOf_0 rfl (lv_at hl 0 rfl) ?_
  obtain ⟨v_1, fv_1⟩ := OKX9_g51 ho_p0
  refine qg_X9_51 hx hb hts i_X9 hown hK hP 0 rfl k_0 fv_1 dX9_sideOf_1 (lv_iload_n hx hb dX9_sideOf_4 rfl (lv_at hl 1 rfl) (lv_ishr hx hb dX9_sideOf_5 (lv_topi fun v_2 ev_2 => lv_iconst (v := 1) hx hb dX9_sideOf_6 (by decide) (lv_iand hx hb dX9_sideOf_7 (lv_topi fun v_3 ev_3 => ?_)))))
  have tv_3 := q_and (k := 1) ev_3 (by decide) (by decide)
  exact q_iret hx hb hr hlocks hS dX9_sideOf_8 ⟨(by omega), hP, za_r_sideOf⟩
def zo_r_two : List Cond := [.code yX9_two cX9_two 3 (some .int)]
def zw_r_two : List Cond := zo_r_two ++ []
theorem gz_r_two : zw_r_two.all goodWord = true := p1_ga (by decide +kernel) p1_g0
theorem iz_r_two : ∀ w ∈ zw_r_two, w ∈ lw_tbl := p1_ia (p1_all [1495] (by decide +kernel)) p1_i0
def zW_r_two : va_W := []
def zT_r_two : List (ClassId × FieldType) := []
def zA_r_two : List Nat := []
theorem za_r_two : (zW_r_two).map Prod.fst = zA_r_two := rfl
def zG_r_two (a0 : Int32) (a1 : Int32) (a2 : Int32) (r : Int32) (X : va_W → Prop) : Prop := X (zW_r_two)
theorem zm_r_two {a0 : Int32} {a1 : Int32} {a2 : Int32} : ∀ (r : Int32), ∀ X Y : va_W → Prop, (∀ w, X w → Y w) → zG_r_two a0 a1 a2 r X → zG_r_two a0 a1 a2 r Y := fun r X Y h h1 => h _ h1
set_option maxHeartbeats 4000000 in
set_option maxRecDepth 100000 in
theorem r_two (l : Launch) (dC : Nat → ClassId) (dI : Nat → Nat → Nat) (sz : Nat) (a0 : Int32) (a1 : Int32) (a2 : Int32) : Met l yX9_two zw_r_two ({ frames := 0, cells := 0, slots := 0, locals := 0 }) (va_Pc [.int a0, .int a1, .int a2] (q_pre (dC, dI) (zW_r_two) (zT_r_two) q_E0 sz)) (q_Qi (dC, dI) (zG_r_two a0 a1 a2) zA_r_two (va_A (zW_r_two) sz)) 0 0 (va_A (zW_r_two) sz) := by
  refine Met.ofW (cc := cX9_two) (maxL := 3) (ret := (some .int)) (by decide) rfl ?_
  intro p e s m args below meth c s₁ B hml hv
  obtain ⟨rfl, hsz, hP, hK, hD0, hE⟩ := hv
  have hx := B.exec
  have hb := B.bytes
  have hr := B.returns
  have hts := atoms_spec (ws := zw_r_two) B.pre
  have hown : s.vm.findClass RX9 = some m.cls := findClass_of_methodNamed B.named
  have hlocks := B.notSynchronized
  subst hsz
  have hD := hD0.self (sz := s.heap.size)
  generalize hAe : va_A (zW_r_two) s.heap.size = A at hD hE ⊢
  have hA : ∀ q : Nat, s.heap.size ≤ q → A q := fun q h => by rw [← hAe]; exact Or.inr h
  have hDa : q_DA A zA_r_two := q_DA.mk hD za_r_two
  clear hAe hD0 hD
  have hS : va_S A s.heap s.heap [] := va_S.rf
  have lt_0 : (0 : Int32).toInt = 0 := by decide
  have lt_1 : (1 : Int32).toInt = 1 := by decide
  have lt_38 : (38 : Int32).toInt = 38 := by decide
  have lt_39 : (39 : Int32).toInt = 39 := by decide
  have lt_40 : (40 : Int32).toInt = 40 := by decide
  have lt_41 : (41 : Int32).toInt = 41 := by decide
  have lt_42 : (42 : Int32).toInt = 42 := by decide
  have lt_43 : (43 : Int32).toInt = 43 := by decide
  have lt_44 : (44 : Int32).toInt = 44 := by decide
  have lt_45 : (45 : Int32).toInt = 45 := by decide
  have lt_46 : (46 : Int32).toInt = 46 := by decide
  have lt_47 : (47 : Int32).toInt = 47 := by decide
  have lt_48 : (48 : Int32).toInt = 48 := by decide
  have lt_49 : (49 : Int32).toInt = 49 := by decide
  have lt_50 : (50 : Int32).toInt = 50 := by decide
  have lt_51 : (51 : Int32).toInt = 51 := by decide
  have lt_52 : (52 : Int32).toInt = 52 := by decide
  have lt_53 : (53 : Int32).toInt = 53 := by decide
  have lt_54 : (54 : Int32).toInt = 54 := by decide
  have lt_55 : (55 : Int32).toInt = 55 := by decide
  have lt_56 : (56 : Int32).toInt = 56 := by decide
  have lt_57 : (57 : Int32).toInt = 57 := by decide
  have lt_58 : (58 : Int32).toInt = 58 := by decide
  have lt_59 : (59 : Int32).toInt = 59 := by decide
  have lt_60 : (60 : Int32).toInt = 60 := by decide
  have lt_61 : (61 : Int32).toInt = 61 := by decide
  have lt_62 : (62 : Int32).toInt = 62 := by decide
  have hl := lv_entry ([.int a0, .int a1, .int a2]) (n := 3) (Nat.le_of_ble_eq_true rfl)
  rw [lg_entry_eq]
  generalize (lg_sl ([.int a0, .int a1, .int a2]) ++ List.replicate (3 - (lg_sl ([.int a0, .int a1, .int a2])).length) Slot.unset).toArray = ls at hl ⊢
  have hl : lv_has ls 3 [(0, .int a0), (1, .int a1), (2, .int a2)] := hl
  refine lv_iload_n hx hb dX9_two_0 rfl (lv_at hl 0 rfl) ?_
  by_cases hk_1 : a0 = 38
  · refine lv_tableIn (tgt := 173) (off := 172) hx hb dX9_two_1 (by rw [hk_1]; decide) (by rw [hk_1]; decide) (by rw [hk_1]; decide) (by decide) ?_
    have thk_1 := q_eq hk_1
    refine lv_iload_n hx hb dX9_two_173 rfl (lv_at hl 1 rfl) ?_
    refine lv_if_eq (tgt := 185) hx hb dX9_two_174 (by decide) (fun c_2 => ?_) (fun c_2 => ?_)
    · have tc_2 := q_eq c_2
      refine lv_iconst (v := 0) hx hb dX9_two_185 (by decide) ?_
      exact q_iret hx hb hr hlocks hS dX9_two_186 ⟨hP, za_r_two⟩
    · have tc_2 := q_neN c_2
      refine lv_iload_n hx hb dX9_two_177 rfl (lv_at hl 2 rfl) ?_
      refine lv_if_eq (tgt := 185) hx hb dX9_two_178 (by decide) (fun c_3 => ?_) (fun c_3 => ?_)
      · have tc_3 := q_eq c_3
        refine lv_iconst (v := 0) hx hb dX9_two_185 (by decide) ?_
        exact q_iret hx hb hr hlocks hS dX9_two_186 ⟨hP, za_r_two⟩
      · have tc_3 := q_neN c_3
        refine lv_iconst (v := 1) hx hb dX9_two_181 (by decide) (lv_goto (tgt := 186) hx hb dX9_two_182 (by decide) ?_)
        exact q_iret hx hb hr hlocks hS dX9_two_186 ⟨hP, za_r_two⟩
  by_cases hk_4 : a0 = 39
  · refine lv_tableIn (tgt := 187) (off := 186) hx hb dX9_two_1 (by rw [hk_4]; decide) (by rw [hk_4]; decide) (by rw [hk_4]; decide) (by decide) ?_
    have thk_4 := q_eq hk_4
    refine lv_iload_n hx hb dX9_two_187 rfl (lv_at hl 1 rfl) ?_
    refine lv_if_ne (tgt := 195) hx hb dX9_two_188 (by decide) (fun c_5 => ?_) (fun c_5 => ?_)
    · have tc_5 := q_ne c_5
      refine lv_iconst (v := 1) hx hb dX9_two_195 (by decide) (lv_goto (tgt := 200) hx hb dX9_two_196 (by decide) ?_)
      exact q_iret hx hb hr hlocks hS dX9_two_200 ⟨hP, za_r_two⟩
    · have tc_5 := q_eqN c_5
      refine lv_iload_n hx hb dX9_two_191 rfl (lv_at hl 2 rfl) ?_
      refine lv_if_eq (tgt := 199) hx hb dX9_two_192 (by decide) (fun c_6 => ?_) (fun c_6 => ?_)
      · have tc_6 := q_eq c_6
        refine lv_iconst (v := 0) hx hb dX9_two_199 (by decide) ?_
        exact q_iret hx hb hr hlocks hS dX9_two_200 ⟨hP, za_r_two⟩
      · have tc_6 := q_neN c_6
        refine lv_iconst (v := 1) hx hb dX9_two_195 (by decide) (lv_goto (tgt := 200) hx hb dX9_two_196 (by decide) ?_)
        exact q_iret hx hb hr hlocks hS dX9_two_200 ⟨hP, za_r_two⟩
  by_cases hk_7 : a0 = 40
  · refine lv_tableIn (tgt := 187) (off := 186) hx hb dX9_two_1 (by rw [hk_7]; decide) (by rw [hk_7]; decide) (by rw [hk_7]; decide) (by decide) ?_
    have thk_7 := q_eq hk_7
    refine lv_iload_n hx hb dX9_two_187 rfl (lv_at hl 1 rfl) ?_
    refine lv_if_ne (tgt := 195) hx hb dX9_two_188 (by decide) (fun c_8 => ?_) (fun c_8 => ?_)
    · have tc_8 := q_ne c_8
      refine lv_iconst (v := 1) hx hb dX9_two_195 (by decide) (lv_goto (tgt := 200) hx hb dX9_two_196 (by decide) ?_)
      exact q_iret hx hb hr hlocks hS dX9_two_200 ⟨hP, za_r_two⟩
    · have tc_8 := q_eqN c_8
      refine lv_iload_n hx hb dX9_two_191 rfl (lv_at hl 2 rfl) ?_
      refine lv_if_eq (tgt := 199) hx hb dX9_two_192 (by decide) (fun c_9 => ?_) (fun c_9 => ?_)
      · have tc_9 := q_eq c_9
        refine lv_iconst (v := 0) hx hb dX9_two_199 (by decide) ?_
        exact q_iret hx hb hr hlocks hS dX9_two_200 ⟨hP, za_r_two⟩
      · have tc_9 := q_neN c_9
        refine lv_iconst (v := 1) hx hb dX9_two_195 (by decide) (lv_goto (tgt := 200) hx hb dX9_two_196 (by decide) ?_)
        exact q_iret hx hb hr hlocks hS dX9_two_200 ⟨hP, za_r_two⟩
  by_cases hk_10 : a0 = 41
  · refine lv_tableIn (tgt := 187) (off := 186) hx hb dX9_two_1 (by rw [hk_10]; decide) (by rw [hk_10]; decide) (by rw [hk_10]; decide) (by decide) ?_
    have thk_10 := q_eq hk_10
    refine lv_iload_n hx hb dX9_two_187 rfl (lv_at hl 1 rfl) ?_
    refine lv_if_ne (tgt := 195) hx hb dX9_two_188 (by decide) (fun c_11 => ?_) (fun c_11 => ?_)
    · have tc_11 := q_ne c_11
      refine lv_iconst (v := 1) hx hb dX9_two_195 (by decide) (lv_goto (tgt := 200) hx hb dX9_two_196 (by decide) ?_)
      exact q_iret hx hb hr hlocks hS dX9_two_200 ⟨hP, za_r_two⟩
    · have tc_11 := q_eqN c_11
      refine lv_iload_n hx hb dX9_two_191 rfl (lv_at hl 2 rfl) ?_
      refine lv_if_eq (tgt := 199) hx hb dX9_two_192 (by decide) (fun c_12 => ?_) (fun c_12 => ?_)
      · have tc_12 := q_eq c_12
        refine lv_iconst (v := 0) hx hb dX9_two_199 (by decide) ?_
        exact q_iret hx hb hr hlocks hS dX9_two_200 ⟨hP, za_r_two⟩
      · have tc_12 := q_neN c_12
        refine lv_iconst (v := 1) hx hb dX9_two_195 (by decide) (lv_goto (tgt := 200) hx hb dX9_two_196 (by decide) ?_)
        exact q_iret hx hb hr hlocks hS dX9_two_200 ⟨hP, za_r_two⟩
  by_cases hk_13 : a0 = 42
  · refine lv_tableIn (tgt := 124) (off := 123) hx hb dX9_two_1 (by rw [hk_13]; decide) (by rw [hk_13]; decide) (by rw [hk_13]; decide) (by decide) ?_
    have thk_13 := q_eq hk_13
    refine lv_iload_n hx hb dX9_two_124 rfl (lv_at hl 1 rfl) (lv_iload_n hx hb dX9_two_125 rfl (lv_at hl 2 rfl) (lv_imul hx hb dX9_two_126 (lv_topi fun v_14 ev_14 => ?_)))
    exact q_iret hx hb hr hlocks hS dX9_two_127 ⟨hP, za_r_two⟩
  by_cases hk_15 : a0 = 43
  · refine lv_tableIn (tgt := 116) (off := 115) hx hb dX9_two_1 (by rw [hk_15]; decide) (by rw [hk_15]; decide) (by rw [hk_15]; decide) (by decide) ?_
    have thk_15 := q_eq hk_15
    refine lv_iload_n hx hb dX9_two_116 rfl (lv_at hl 1 rfl) (lv_iload_n hx hb dX9_two_117 rfl (lv_at hl 2 rfl) (lv_iadd hx hb dX9_two_118 (lv_topi fun v_16 ev_16 => ?_)))
    exact q_iret hx hb hr hlocks hS dX9_two_119 ⟨hP, za_r_two⟩
  by_cases hk_17 : a0 = 44
  · refine lv_tableIn (tgt := 187) (off := 186) hx hb dX9_two_1 (by rw [hk_17]; decide) (by rw [hk_17]; decide) (by rw [hk_17]; decide) (by decide) ?_
    have thk_17 := q_eq hk_17
    refine lv_iload_n hx hb dX9_two_187 rfl (lv_at hl 1 rfl) ?_
    refine lv_if_ne (tgt := 195) hx hb dX9_two_188 (by decide) (fun c_18 => ?_) (fun c_18 => ?_)
    · have tc_18 := q_ne c_18
      refine lv_iconst (v := 1) hx hb dX9_two_195 (by decide) (lv_goto (tgt := 200) hx hb dX9_two_196 (by decide) ?_)
      exact q_iret hx hb hr hlocks hS dX9_two_200 ⟨hP, za_r_two⟩
    · have tc_18 := q_eqN c_18
      refine lv_iload_n hx hb dX9_two_191 rfl (lv_at hl 2 rfl) ?_
      refine lv_if_eq (tgt := 199) hx hb dX9_two_192 (by decide) (fun c_19 => ?_) (fun c_19 => ?_)
      · have tc_19 := q_eq c_19
        refine lv_iconst (v := 0) hx hb dX9_two_199 (by decide) ?_
        exact q_iret hx hb hr hlocks hS dX9_two_200 ⟨hP, za_r_two⟩
      · have tc_19 := q_neN c_19
        refine lv_iconst (v := 1) hx hb dX9_two_195 (by decide) (lv_goto (tgt := 200) hx hb dX9_two_196 (by decide) ?_)
        exact q_iret hx hb hr hlocks hS dX9_two_200 ⟨hP, za_r_two⟩
  by_cases hk_20 : a0 = 45
  · refine lv_tableIn (tgt := 120) (off := 119) hx hb dX9_two_1 (by rw [hk_20]; decide) (by rw [hk_20]; decide) (by rw [hk_20]; decide) (by decide) ?_
    have thk_20 := q_eq hk_20
    refine lv_iload_n hx hb dX9_two_120 rfl (lv_at hl 1 rfl) (lv_iload_n hx hb dX9_two_121 rfl (lv_at hl 2 rfl) (lv_isub hx hb dX9_two_122 (lv_topi fun v_21 ev_21 => ?_)))
    exact q_iret hx hb hr hlocks hS dX9_two_123 ⟨hP, za_r_two⟩
  by_cases hk_22 : a0 = 46
  · refine lv_tableIn (tgt := 187) (off := 186) hx hb dX9_two_1 (by rw [hk_22]; decide) (by rw [hk_22]; decide) (by rw [hk_22]; decide) (by decide) ?_
    have thk_22 := q_eq hk_22
    refine lv_iload_n hx hb dX9_two_187 rfl (lv_at hl 1 rfl) ?_
    refine lv_if_ne (tgt := 195) hx hb dX9_two_188 (by decide) (fun c_23 => ?_) (fun c_23 => ?_)
    · have tc_23 := q_ne c_23
      refine lv_iconst (v := 1) hx hb dX9_two_195 (by decide) (lv_goto (tgt := 200) hx hb dX9_two_196 (by decide) ?_)
      exact q_iret hx hb hr hlocks hS dX9_two_200 ⟨hP, za_r_two⟩
    · have tc_23 := q_eqN c_23
      refine lv_iload_n hx hb dX9_two_191 rfl (lv_at hl 2 rfl) ?_
      refine lv_if_eq (tgt := 199) hx hb dX9_two_192 (by decide) (fun c_24 => ?_) (fun c_24 => ?_)
      · have tc_24 := q_eq c_24
        refine lv_iconst (v := 0) hx hb dX9_two_199 (by decide) ?_
        exact q_iret hx hb hr hlocks hS dX9_two_200 ⟨hP, za_r_two⟩
      · have tc_24 := q_neN c_24
        refine lv_iconst (v := 1) hx hb dX9_two_195 (by decide) (lv_goto (tgt := 200) hx hb dX9_two_196 (by decide) ?_)
        exact q_iret hx hb hr hlocks hS dX9_two_200 ⟨hP, za_r_two⟩
  by_cases hk_25 : a0 = 47
  · refine lv_tableIn (tgt := 128) (off := 127) hx hb dX9_two_1 (by rw [hk_25]; decide) (by rw [hk_25]; decide) (by rw [hk_25]; decide) (by decide) ?_
    have thk_25 := q_eq hk_25
    refine lv_iload_n hx hb dX9_two_128 rfl (lv_at hl 2 rfl) ?_
    refine lv_if_ne (tgt := 136) hx hb dX9_two_129 (by decide) (fun c_26 => ?_) (fun c_26 => ?_)
    · have tc_26 := q_ne c_26
      refine lv_iload_n hx hb dX9_two_136 rfl (lv_at hl 1 rfl) (lv_iload_n hx hb dX9_two_137 rfl (lv_at hl 2 rfl) (lv_idiv hx hb dX9_two_138 (q_n0 (by omega)) (lv_topi fun v_27 ev_27 => ?_)))
      exact q_iret hx hb hr hlocks hS dX9_two_139 ⟨hP, za_r_two⟩
    · have tc_26 := q_eqN c_26
      refine lv_iconst (v := 0) hx hb dX9_two_132 (by decide) (lv_goto (tgt := 139) hx hb dX9_two_133 (by decide) ?_)
      exact q_iret hx hb hr hlocks hS dX9_two_139 ⟨hP, za_r_two⟩
  by_cases hk_28 : a0 = 48
  · refine lv_tableIn (tgt := 187) (off := 186) hx hb dX9_two_1 (by rw [hk_28]; decide) (by rw [hk_28]; decide) (by rw [hk_28]; decide) (by decide) ?_
    have thk_28 := q_eq hk_28
    refine lv_iload_n hx hb dX9_two_187 rfl (lv_at hl 1 rfl) ?_
    refine lv_if_ne (tgt := 195) hx hb dX9_two_188 (by decide) (fun c_29 => ?_) (fun c_29 => ?_)
    · have tc_29 := q_ne c_29
      refine lv_iconst (v := 1) hx hb dX9_two_195 (by decide) (lv_goto (tgt := 200) hx hb dX9_two_196 (by decide) ?_)
      exact q_iret hx hb hr hlocks hS dX9_two_200 ⟨hP, za_r_two⟩
    · have tc_29 := q_eqN c_29
      refine lv_iload_n hx hb dX9_two_191 rfl (lv_at hl 2 rfl) ?_
      refine lv_if_eq (tgt := 199) hx hb dX9_two_192 (by decide) (fun c_30 => ?_) (fun c_30 => ?_)
      · have tc_30 := q_eq c_30
        refine lv_iconst (v := 0) hx hb dX9_two_199 (by decide) ?_
        exact q_iret hx hb hr hlocks hS dX9_two_200 ⟨hP, za_r_two⟩
      · have tc_30 := q_neN c_30
        refine lv_iconst (v := 1) hx hb dX9_two_195 (by decide) (lv_goto (tgt := 200) hx hb dX9_two_196 (by decide) ?_)
        exact q_iret hx hb hr hlocks hS dX9_two_200 ⟨hP, za_r_two⟩
  by_cases hk_31 : a0 = 49
  · refine lv_tableIn (tgt := 187) (off := 186) hx hb dX9_two_1 (by rw [hk_31]; decide) (by rw [hk_31]; decide) (by rw [hk_31]; decide) (by decide) ?_
    have thk_31 := q_eq hk_31
    refine lv_iload_n hx hb dX9_two_187 rfl (lv_at hl 1 rfl) ?_
    refine lv_if_ne (tgt := 195) hx hb dX9_two_188 (by decide) (fun c_32 => ?_) (fun c_32 => ?_)
    · have tc_32 := q_ne c_32
      refine lv_iconst (v := 1) hx hb dX9_two_195 (by decide) (lv_goto (tgt := 200) hx hb dX9_two_196 (by decide) ?_)
      exact q_iret hx hb hr hlocks hS dX9_two_200 ⟨hP, za_r_two⟩
    · have tc_32 := q_eqN c_32
      refine lv_iload_n hx hb dX9_two_191 rfl (lv_at hl 2 rfl) ?_
      refine lv_if_eq (tgt := 199) hx hb dX9_two_192 (by decide) (fun c_33 => ?_) (fun c_33 => ?_)
      · have tc_33 := q_eq c_33
        refine lv_iconst (v := 0) hx hb dX9_two_199 (by decide) ?_
        exact q_iret hx hb hr hlocks hS dX9_two_200 ⟨hP, za_r_two⟩
      · have tc_33 := q_neN c_33
        refine lv_iconst (v := 1) hx hb dX9_two_195 (by decide) (lv_goto (tgt := 200) hx hb dX9_two_196 (by decide) ?_)
        exact q_iret hx hb hr hlocks hS dX9_two_200 ⟨hP, za_r_two⟩
  by_cases hk_34 : a0 = 50
  · refine lv_tableIn (tgt := 187) (off := 186) hx hb dX9_two_1 (by rw [hk_34]; decide) (by rw [hk_34]; decide) (by rw [hk_34]; decide) (by decide) ?_
    have thk_34 := q_eq hk_34
    refine lv_iload_n hx hb dX9_two_187 rfl (lv_at hl 1 rfl) ?_
    refine lv_if_ne (tgt := 195) hx hb dX9_two_188 (by decide) (fun c_35 => ?_) (fun c_35 => ?_)
    · have tc_35 := q_ne c_35
      refine lv_iconst (v := 1) hx hb dX9_two_195 (by decide) (lv_goto (tgt := 200) hx hb dX9_two_196 (by decide) ?_)
      exact q_iret hx hb hr hlocks hS dX9_two_200 ⟨hP, za_r_two⟩
    · have tc_35 := q_eqN c_35
      refine lv_iload_n hx hb dX9_two_191 rfl (lv_at hl 2 rfl) ?_
      refine lv_if_eq (tgt := 199) hx hb dX9_two_192 (by decide) (fun c_36 => ?_) (fun c_36 => ?_)
      · have tc_36 := q_eq c_36
        refine lv_iconst (v := 0) hx hb dX9_two_199 (by decide) ?_
        exact q_iret hx hb hr hlocks hS dX9_two_200 ⟨hP, za_r_two⟩
      · have tc_36 := q_neN c_36
        refine lv_iconst (v := 1) hx hb dX9_two_195 (by decide) (lv_goto (tgt := 200) hx hb dX9_two_196 (by decide) ?_)
        exact q_iret hx hb hr hlocks hS dX9_two_200 ⟨hP, za_r_two⟩
  by_cases hk_37 : a0 = 51
  · refine lv_tableIn (tgt := 187) (off := 186) hx hb dX9_two_1 (by rw [hk_37]; decide) (by rw [hk_37]; decide) (by rw [hk_37]; decide) (by decide) ?_
    have thk_37 := q_eq hk_37
    refine lv_iload_n hx hb dX9_two_187 rfl (lv_at hl 1 rfl) ?_
    refine lv_if_ne (tgt := 195) hx hb dX9_two_188 (by decide) (fun c_38 => ?_) (fun c_38 => ?_)
    · have tc_38 := q_ne c_38
      refine lv_iconst (v := 1) hx hb dX9_two_195 (by decide) (lv_goto (tgt := 200) hx hb dX9_two_196 (by decide) ?_)
      exact q_iret hx hb hr hlocks hS dX9_two_200 ⟨hP, za_r_two⟩
    · have tc_38 := q_eqN c_38
      refine lv_iload_n hx hb dX9_two_191 rfl (lv_at hl 2 rfl) ?_
      refine lv_if_eq (tgt := 199) hx hb dX9_two_192 (by decide) (fun c_39 => ?_) (fun c_39 => ?_)
      · have tc_39 := q_eq c_39
        refine lv_iconst (v := 0) hx hb dX9_two_199 (by decide) ?_
        exact q_iret hx hb hr hlocks hS dX9_two_200 ⟨hP, za_r_two⟩
      · have tc_39 := q_neN c_39
        refine lv_iconst (v := 1) hx hb dX9_two_195 (by decide) (lv_goto (tgt := 200) hx hb dX9_two_196 (by decide) ?_)
        exact q_iret hx hb hr hlocks hS dX9_two_200 ⟨hP, za_r_two⟩
  by_cases hk_40 : a0 = 52
  · refine lv_tableIn (tgt := 187) (off := 186) hx hb dX9_two_1 (by rw [hk_40]; decide) (by rw [hk_40]; decide) (by rw [hk_40]; decide) (by decide) ?_
    have thk_40 := q_eq hk_40
    refine lv_iload_n hx hb dX9_two_187 rfl (lv_at hl 1 rfl) ?_
    refine lv_if_ne (tgt := 195) hx hb dX9_two_188 (by decide) (fun c_41 => ?_) (fun c_41 => ?_)
    · have tc_41 := q_ne c_41
      refine lv_iconst (v := 1) hx hb dX9_two_195 (by decide) (lv_goto (tgt := 200) hx hb dX9_two_196 (by decide) ?_)
      exact q_iret hx hb hr hlocks hS dX9_two_200 ⟨hP, za_r_two⟩
    · have tc_41 := q_eqN c_41
      refine lv_iload_n hx hb dX9_two_191 rfl (lv_at hl 2 rfl) ?_
      refine lv_if_eq (tgt := 199) hx hb dX9_two_192 (by decide) (fun c_42 => ?_) (fun c_42 => ?_)
      · have tc_42 := q_eq c_42
        refine lv_iconst (v := 0) hx hb dX9_two_199 (by decide) ?_
        exact q_iret hx hb hr hlocks hS dX9_two_200 ⟨hP, za_r_two⟩
      · have tc_42 := q_neN c_42
        refine lv_iconst (v := 1) hx hb dX9_two_195 (by decide) (lv_goto (tgt := 200) hx hb dX9_two_196 (by decide) ?_)
        exact q_iret hx hb hr hlocks hS dX9_two_200 ⟨hP, za_r_two⟩
  by_cases hk_43 : a0 = 53
  · refine lv_tableIn (tgt := 187) (off := 186) hx hb dX9_two_1 (by rw [hk_43]; decide) (by rw [hk_43]; decide) (by rw [hk_43]; decide) (by decide) ?_
    have thk_43 := q_eq hk_43
    refine lv_iload_n hx hb dX9_two_187 rfl (lv_at hl 1 rfl) ?_
    refine lv_if_ne (tgt := 195) hx hb dX9_two_188 (by decide) (fun c_44 => ?_) (fun c_44 => ?_)
    · have tc_44 := q_ne c_44
      refine lv_iconst (v := 1) hx hb dX9_two_195 (by decide) (lv_goto (tgt := 200) hx hb dX9_two_196 (by decide) ?_)
      exact q_iret hx hb hr hlocks hS dX9_two_200 ⟨hP, za_r_two⟩
    · have tc_44 := q_eqN c_44
      refine lv_iload_n hx hb dX9_two_191 rfl (lv_at hl 2 rfl) ?_
      refine lv_if_eq (tgt := 199) hx hb dX9_two_192 (by decide) (fun c_45 => ?_) (fun c_45 => ?_)
      · have tc_45 := q_eq c_45
        refine lv_iconst (v := 0) hx hb dX9_two_199 (by decide) ?_
        exact q_iret hx hb hr hlocks hS dX9_two_200 ⟨hP, za_r_two⟩
      · have tc_45 := q_neN c_45
        refine lv_iconst (v := 1) hx hb dX9_two_195 (by decide) (lv_goto (tgt := 200) hx hb dX9_two_196 (by decide) ?_)
        exact q_iret hx hb hr hlocks hS dX9_two_200 ⟨hP, za_r_two⟩
  by_cases hk_46 : a0 = 54
  · refine lv_tableIn (tgt := 187) (off := 186) hx hb dX9_two_1 (by rw [hk_46]; decide) (by rw [hk_46]; decide) (by rw [hk_46]; decide) (by decide) ?_
    have thk_46 := q_eq hk_46
    refine lv_iload_n hx hb dX9_two_187 rfl (lv_at hl 1 rfl) ?_
    refine lv_if_ne (tgt := 195) hx hb dX9_two_188 (by decide) (fun c_47 => ?_) (fun c_47 => ?_)
    · have tc_47 := q_ne c_47
      refine lv_iconst (v := 1) hx hb dX9_two_195 (by decide) (lv_goto (tgt := 200) hx hb dX9_two_196 (by decide) ?_)
      exact q_iret hx hb hr hlocks hS dX9_two_200 ⟨hP, za_r_two⟩
    · have tc_47 := q_eqN c_47
      refine lv_iload_n hx hb dX9_two_191 rfl (lv_at hl 2 rfl) ?_
      refine lv_if_eq (tgt := 199) hx hb dX9_two_192 (by decide) (fun c_48 => ?_) (fun c_48 => ?_)
      · have tc_48 := q_eq c_48
        refine lv_iconst (v := 0) hx hb dX9_two_199 (by decide) ?_
        exact q_iret hx hb hr hlocks hS dX9_two_200 ⟨hP, za_r_two⟩
      · have tc_48 := q_neN c_48
        refine lv_iconst (v := 1) hx hb dX9_two_195 (by decide) (lv_goto (tgt := 200) hx hb dX9_two_196 (by decide) ?_)
        exact q_iret hx hb hr hlocks hS dX9_two_200 ⟨hP, za_r_two⟩
  by_cases hk_49 : a0 = 55
  · refine lv_tableIn (tgt := 187) (off := 186) hx hb dX9_two_1 (by rw [hk_49]; decide) (by rw [hk_49]; decide) (by rw [hk_49]; decide) (by decide) ?_
    have thk_49 := q_eq hk_49
    refine lv_iload_n hx hb dX9_two_187 rfl (lv_at hl 1 rfl) ?_
    refine lv_if_ne (tgt := 195) hx hb dX9_two_188 (by decide) (fun c_50 => ?_) (fun c_50 => ?_)
    · have tc_50 := q_ne c_50
      refine lv_iconst (v := 1) hx hb dX9_two_195 (by decide) (lv_goto (tgt := 200) hx hb dX9_two_196 (by decide) ?_)
      exact q_iret hx hb hr hlocks hS dX9_two_200 ⟨hP, za_r_two⟩
    · have tc_50 := q_eqN c_50
      refine lv_iload_n hx hb dX9_two_191 rfl (lv_at hl 2 rfl) ?_
      refine lv_if_eq (tgt := 199) hx hb dX9_two_192 (by decide) (fun c_51 => ?_) (fun c_51 => ?_)
      · have tc_51 := q_eq c_51
        refine lv_iconst (v := 0) hx hb dX9_two_199 (by decide) ?_
        exact q_iret hx hb hr hlocks hS dX9_two_200 ⟨hP, za_r_two⟩
      · have tc_51 := q_neN c_51
        refine lv_iconst (v := 1) hx hb dX9_two_195 (by decide) (lv_goto (tgt := 200) hx hb dX9_two_196 (by decide) ?_)
        exact q_iret hx hb hr hlocks hS dX9_two_200 ⟨hP, za_r_two⟩
  by_cases hk_52 : a0 = 56
  · refine lv_tableIn (tgt := 187) (off := 186) hx hb dX9_two_1 (by rw [hk_52]; decide) (by rw [hk_52]; decide) (by rw [hk_52]; decide) (by decide) ?_
    have thk_52 := q_eq hk_52
    refine lv_iload_n hx hb dX9_two_187 rfl (lv_at hl 1 rfl) ?_
    refine lv_if_ne (tgt := 195) hx hb dX9_two_188 (by decide) (fun c_53 => ?_) (fun c_53 => ?_)
    · have tc_53 := q_ne c_53
      refine lv_iconst (v := 1) hx hb dX9_two_195 (by decide) (lv_goto (tgt := 200) hx hb dX9_two_196 (by decide) ?_)
      exact q_iret hx hb hr hlocks hS dX9_two_200 ⟨hP, za_r_two⟩
    · have tc_53 := q_eqN c_53
      refine lv_iload_n hx hb dX9_two_191 rfl (lv_at hl 2 rfl) ?_
      refine lv_if_eq (tgt := 199) hx hb dX9_two_192 (by decide) (fun c_54 => ?_) (fun c_54 => ?_)
      · have tc_54 := q_eq c_54
        refine lv_iconst (v := 0) hx hb dX9_two_199 (by decide) ?_
        exact q_iret hx hb hr hlocks hS dX9_two_200 ⟨hP, za_r_two⟩
      · have tc_54 := q_neN c_54
        refine lv_iconst (v := 1) hx hb dX9_two_195 (by decide) (lv_goto (tgt := 200) hx hb dX9_two_196 (by decide) ?_)
        exact q_iret hx hb hr hlocks hS dX9_two_200 ⟨hP, za_r_two⟩
  by_cases hk_55 : a0 = 57
  · refine lv_tableIn (tgt := 187) (off := 186) hx hb dX9_two_1 (by rw [hk_55]; decide) (by rw [hk_55]; decide) (by rw [hk_55]; decide) (by decide) ?_
    have thk_55 := q_eq hk_55
    refine lv_iload_n hx hb dX9_two_187 rfl (lv_at hl 1 rfl) ?_
    refine lv_if_ne (tgt := 195) hx hb dX9_two_188 (by decide) (fun c_56 => ?_) (fun c_56 => ?_)
    · have tc_56 := q_ne c_56
      refine lv_iconst (v := 1) hx hb dX9_two_195 (by decide) (lv_goto (tgt := 200) hx hb dX9_two_196 (by decide) ?_)
      exact q_iret hx hb hr hlocks hS dX9_two_200 ⟨hP, za_r_two⟩
    · have tc_56 := q_eqN c_56
      refine lv_iload_n hx hb dX9_two_191 rfl (lv_at hl 2 rfl) ?_
      refine lv_if_eq (tgt := 199) hx hb dX9_two_192 (by decide) (fun c_57 => ?_) (fun c_57 => ?_)
      · have tc_57 := q_eq c_57
        refine lv_iconst (v := 0) hx hb dX9_two_199 (by decide) ?_
        exact q_iret hx hb hr hlocks hS dX9_two_200 ⟨hP, za_r_two⟩
      · have tc_57 := q_neN c_57
        refine lv_iconst (v := 1) hx hb dX9_two_195 (by decide) (lv_goto (tgt := 200) hx hb dX9_two_196 (by decide) ?_)
        exact q_iret hx hb hr hlocks hS dX9_two_200 ⟨hP, za_r_two⟩
  by_cases hk_58 : a0 = 58
  · refine lv_tableIn (tgt := 187) (off := 186) hx hb dX9_two_1 (by rw [hk_58]; decide) (by rw [hk_58]; decide) (by rw [hk_58]; decide) (by decide) ?_
    have thk_58 := q_eq hk_58
    refine lv_iload_n hx hb dX9_two_187 rfl (lv_at hl 1 rfl) ?_
    refine lv_if_ne (tgt := 195) hx hb dX9_two_188 (by decide) (fun c_59 => ?_) (fun c_59 => ?_)
    · have tc_59 := q_ne c_59
      refine lv_iconst (v := 1) hx hb dX9_two_195 (by decide) (lv_goto (tgt := 200) hx hb dX9_two_196 (by decide) ?_)
      exact q_iret hx hb hr hlocks hS dX9_two_200 ⟨hP, za_r_two⟩
    · have tc_59 := q_eqN c_59
      refine lv_iload_n hx hb dX9_two_191 rfl (lv_at hl 2 rfl) ?_
      refine lv_if_eq (tgt := 199) hx hb dX9_two_192 (by decide) (fun c_60 => ?_) (fun c_60 => ?_)
      · have tc_60 := q_eq c_60
        refine lv_iconst (v := 0) hx hb dX9_two_199 (by decide) ?_
        exact q_iret hx hb hr hlocks hS dX9_two_200 ⟨hP, za_r_two⟩
      · have tc_60 := q_neN c_60
        refine lv_iconst (v := 1) hx hb dX9_two_195 (by decide) (lv_goto (tgt := 200) hx hb dX9_two_196 (by decide) ?_)
        exact q_iret hx hb hr hlocks hS dX9_two_200 ⟨hP, za_r_two⟩
  by_cases hk_61 : a0 = 59
  · refine lv_tableIn (tgt := 187) (off := 186) hx hb dX9_two_1 (by rw [hk_61]; decide) (by rw [hk_61]; decide) (by rw [hk_61]; decide) (by decide) ?_
    have thk_61 := q_eq hk_61
    refine lv_iload_n hx hb dX9_two_187 rfl (lv_at hl 1 rfl) ?_
    refine lv_if_ne (tgt := 195) hx hb dX9_two_188 (by decide) (fun c_62 => ?_) (fun c_62 => ?_)
    · have tc_62 := q_ne c_62
      refine lv_iconst (v := 1) hx hb dX9_two_195 (by decide) (lv_goto (tgt := 200) hx hb dX9_two_196 (by decide) ?_)
      exact q_iret hx hb hr hlocks hS dX9_two_200 ⟨hP, za_r_two⟩
    · have tc_62 := q_eqN c_62
      refine lv_iload_n hx hb dX9_two_191 rfl (lv_at hl 2 rfl) ?_
      refine lv_if_eq (tgt := 199) hx hb dX9_two_192 (by decide) (fun c_63 => ?_) (fun c_63 => ?_)
      · have tc_63 := q_eq c_63
        refine lv_iconst (v := 0) hx hb dX9_two_199 (by decide) ?_
        exact q_iret hx hb hr hlocks hS dX9_two_200 ⟨hP, za_r_two⟩
      · have tc_63 := q_neN c_63
        refine lv_iconst (v := 1) hx hb dX9_two_195 (by decide) (lv_goto (tgt := 200) hx hb dX9_two_196 (by decide) ?_)
        exact q_iret hx hb hr hlocks hS dX9_two_200 ⟨hP, za_r_two⟩
  by_cases hk_64 : a0 = 60
  · refine lv_tableIn (tgt := 140) (off := 139) hx hb dX9_two_1 (by rw [hk_64]; decide) (by rw [hk_64]; decide) (by rw [hk_64]; decide) (by decide) ?_
    have thk_64 := q_eq hk_64
    refine lv_iload_n hx hb dX9_two_140 rfl (lv_at hl 1 rfl) (lv_iload_n hx hb dX9_two_141 rfl (lv_at hl 2 rfl) ?_)
    refine lv_icmp_ge (tgt := 149) hx hb dX9_two_142 (by decide) (fun c_65 => ?_) (fun c_65 => ?_)
    · have tc_65 := q_ge c_65
      refine lv_iconst (v := 0) hx hb dX9_two_149 (by decide) ?_
      exact q_iret hx hb hr hlocks hS dX9_two_150 ⟨hP, za_r_two⟩
    · have tc_65 := q_ltN c_65
      refine lv_iconst (v := 1) hx hb dX9_two_145 (by decide) (lv_goto (tgt := 150) hx hb dX9_two_146 (by decide) ?_)
      exact q_iret hx hb hr hlocks hS dX9_two_150 ⟨hP, za_r_two⟩
  by_cases hk_66 : a0 = 61
  · refine lv_tableIn (tgt := 162) (off := 161) hx hb dX9_two_1 (by rw [hk_66]; decide) (by rw [hk_66]; decide) (by rw [hk_66]; decide) (by decide) ?_
    have thk_66 := q_eq hk_66
    refine lv_iload_n hx hb dX9_two_162 rfl (lv_at hl 1 rfl) (lv_iload_n hx hb dX9_two_163 rfl (lv_at hl 2 rfl) ?_)
    refine lv_icmp_ne (tgt := 171) hx hb dX9_two_164 (by decide) (fun c_67 => ?_) (fun c_67 => ?_)
    · have tc_67 := q_ne c_67
      refine lv_iconst (v := 0) hx hb dX9_two_171 (by decide) ?_
      exact q_iret hx hb hr hlocks hS dX9_two_172 ⟨hP, za_r_two⟩
    · have tc_67 := q_eqN c_67
      refine lv_iconst (v := 1) hx hb dX9_two_167 (by decide) (lv_goto (tgt := 172) hx hb dX9_two_168 (by decide) ?_)
      exact q_iret hx hb hr hlocks hS dX9_two_172 ⟨hP, za_r_two⟩
  by_cases hk_68 : a0 = 62
  · refine lv_tableIn (tgt := 151) (off := 150) hx hb dX9_two_1 (by rw [hk_68]; decide) (by rw [hk_68]; decide) (by rw [hk_68]; decide) (by decide) ?_
    have thk_68 := q_eq hk_68
    refine lv_iload_n hx hb dX9_two_151 rfl (lv_at hl 1 rfl) (lv_iload_n hx hb dX9_two_152 rfl (lv_at hl 2 rfl) ?_)
    refine lv_icmp_le (tgt := 160) hx hb dX9_two_153 (by decide) (fun c_69 => ?_) (fun c_69 => ?_)
    · have tc_69 := q_le c_69
      refine lv_iconst (v := 0) hx hb dX9_two_160 (by decide) ?_
      exact q_iret hx hb hr hlocks hS dX9_two_161 ⟨hP, za_r_two⟩
    · have tc_69 := q_gtN c_69
      refine lv_iconst (v := 1) hx hb dX9_two_156 (by decide) (lv_goto (tgt := 161) hx hb dX9_two_157 (by decide) ?_)
      exact q_iret hx hb hr hlocks hS dX9_two_161 ⟨hP, za_r_two⟩
  have thk_1 := q_ne hk_1
  have thk_4 := q_ne hk_4
  have thk_7 := q_ne hk_7
  have thk_10 := q_ne hk_10
  have thk_13 := q_ne hk_13
  have thk_15 := q_ne hk_15
  have thk_17 := q_ne hk_17
  have thk_20 := q_ne hk_20
  have thk_22 := q_ne hk_22
  have thk_25 := q_ne hk_25
  have thk_28 := q_ne hk_28
  have thk_31 := q_ne hk_31
  have thk_34 := q_ne hk_34
  have thk_37 := q_ne hk_37
  have thk_40 := q_ne hk_40
  have thk_43 := q_ne hk_43
  have thk_46 := q_ne hk_46
  have thk_49 := q_ne hk_49
  have thk_52 := q_ne hk_52
  have thk_55 := q_ne hk_55
  have thk_58 := q_ne hk_58
  have thk_61 := q_ne hk_61
  have thk_64 := q_ne hk_64
  have thk_66 := q_ne hk_66
  have thk_68 := q_ne hk_68
  refine lv_tableOut (tgt := 187) hx hb dX9_two_1 (by omega) (by decide) ?_
  refine lv_iload_n hx hb dX9_two_187 rfl (lv_at hl 1 rfl) ?_
  refine lv_if_ne (tgt := 195) hx hb dX9_two_188 (by decide) (fun c_70 => ?_) (fun c_70 => ?_)
  · have tc_70 := q_ne c_70
    refine lv_iconst (v := 1) hx hb dX9_two_195 (by decide) (lv_goto (tgt := 200) hx hb dX9_two_196 (by decide) ?_)
    exact q_iret hx hb hr hlocks hS dX9_two_200 ⟨hP, za_r_two⟩
  · have tc_70 := q_eqN c_70
    refine lv_iload_n hx hb dX9_two_191 rfl (lv_at hl 2 rfl) ?_
    refine lv_if_eq (tgt := 199) hx hb dX9_two_192 (by decide) (fun c_71 => ?_) (fun c_71 => ?_)
    · have tc_71 := q_eq c_71
      refine lv_iconst (v := 0) hx hb dX9_two_199 (by decide) ?_
      exact q_iret hx hb hr hlocks hS dX9_two_200 ⟨hP, za_r_two⟩
    · have tc_71 := q_neN c_71
      refine lv_iconst (v := 1) hx hb dX9_two_195 (by decide) (lv_goto (tgt := 200) hx hb dX9_two_196 (by decide) ?_)
      exact q_iret hx hb hr hlocks hS dX9_two_200 ⟨hP, za_r_two⟩
def zo_r_amount : List Cond := [.code yX9_amount cX9_amount 4 (some .int), .fieldLink RX9 119 "BowWalkModel" "bTight" "[I", .methodLink RX9 367 yX9_sideOf, .instanceMethod yX9_sideOf, .selects RX9 yX9_sideOf yX9_sideOf, .initialized RX9, .fieldLink RX9 370 "BowWalkModel" "bSmooth" "I", .fieldLink RX9 373 "BowWalkModel" "bWeight" "I", .fieldLink RX9 122 "BowWalkModel" "bLong" "[I", .fieldLink RX9 376 "BowWalkModel" "nowStrike" "I", .fieldLink RX9 379 "BowWalkModel" "nowSwing" "I"]
def zw_r_amount : List Cond := zo_r_amount ++ (zw_r_sideOf ++ (wsX90 ++ []))
theorem gz_r_amount : zw_r_amount.all goodWord = true := p1_ga (by decide +kernel) (p1_ga gz_r_sideOf (p1_ga gk_X9 p1_g0))
theorem iz_r_amount : ∀ w ∈ zw_r_amount, w ∈ lw_tbl := p1_ia (p1_all [1492, 1086, 1481, 1483, 80, 116, 1091, 1092, 1087, 1093, 1094] (by decide +kernel)) (p1_ia iz_r_sideOf (p1_ia ik_X9 p1_i0))
def zW_r_amount (p0 : Nat) (f_p0 : List Value) (p0_bLong : Nat) (c_p0_bLong : ClassId) (b_p0_bLong : Nat → Int32) (p0_bTight : Nat) (c_p0_bTight : ClassId) (b_p0_bTight : Nat → Int32) : va_W := [(p0, .inr (8, f_p0)), (p0_bLong, .inl (c_p0_bLong, 2, .inl b_p0_bLong)), (p0_bTight, .inl (c_p0_bTight, 12, .inl b_p0_bTight))]
def zT_r_amount (c_p0_bLong : ClassId) (c_p0_bTight : ClassId) : List (ClassId × FieldType) := [(c_p0_bLong, .int), (c_p0_bTight, .int)]
def zA_r_amount (p0 : Nat) (p0_bLong : Nat) (p0_bTight : Nat) : List Nat := [p0, p0_bLong, p0_bTight]
theorem za_r_amount {p0 : Nat} {f_p0 : List Value} {p0_bLong : Nat} {c_p0_bLong : ClassId} {b_p0_bLong : Nat → Int32} {p0_bTight : Nat} {c_p0_bTight : ClassId} {b_p0_bTight : Nat → Int32} : (zW_r_amount p0 f_p0 p0_bLong c_p0_bLong b_p0_bLong p0_bTight c_p0_bTight b_p0_bTight).map Prod.fst = (zA_r_amount p0 p0_bLong p0_bTight) := rfl
def zG_r_amount (p0 : Nat) (f_p0 : List Value) (p0_bLong : Nat) (c_p0_bLong : ClassId) (b_p0_bLong : Nat → Int32) (p0_bTight : Nat) (c_p0_bTight : ClassId) (b_p0_bTight : Nat → Int32) (a1 : Int32) (a2 : Int32) (a3 : Int32) (r : Int32) (X : va_W → Prop) : Prop := X (zW_r_amount p0 f_p0 p0_bLong c_p0_bLong b_p0_bLong p0_bTight c_p0_bTight b_p0_bTight)
theorem zm_r_amount {p0 : Nat} {f_p0 : List Value} {p0_bLong : Nat} {c_p0_bLong : ClassId} {b_p0_bLong : Nat → Int32} {p0_bTight : Nat} {c_p0_bTight : ClassId} {b_p0_bTight : Nat → Int32} {a1 : Int32} {a2 : Int32} {a3 : Int32} : ∀ (r : Int32), ∀ X Y : va_W → Prop, (∀ w, X w → Y w) → zG_r_amount p0 f_p0 p0_bLong c_p0_bLong b_p0_bLong p0_bTight c_p0_bTight b_p0_bTight a1 a2 a3 r X → zG_r_amount p0 f_p0 p0_bLong c_p0_bLong b_p0_bLong p0_bTight c_p0_bTight b_p0_bTight a1 a2 a3 r Y := fun r X Y h h1 => h _ h1
set_option maxHeartbeats 4000000 in
set_option maxRecDepth 100000 in
theorem r_amount (l : Launch) (dC : Nat → ClassId) (dI : Nat → Nat → Nat) (sz : Nat) (p0 : Nat) (f_p0 : List Value) (p0_bLong : Nat) (c_p0_bLong : ClassId) (b_p0_bLong : Nat → Int32) (p0_bTight : Nat) (c_p0_bTight : ClassId) (b_p0_bTight : Nat → Int32) (a1 : Int32) (a2 : Int32) (a3 : Int32) (ho_p0 : OKX9 f_p0) (fr_p0_49 : q_rf f_p0 49 p0_bTight) (fr_p0_50 : q_rf f_p0 50 p0_bLong) (ta3 : (0) ≤ a3.toInt ∧ a3.toInt ≤ 11) : Met l yX9_amount zw_r_amount ({ frames := 1, cells := 0, slots := 0, locals := 21 }) (va_Pc [.ref p0, .int a1, .int a2, .int a3] (q_pre (dC, dI) (zW_r_amount p0 f_p0 p0_bLong c_p0_bLong b_p0_bLong p0_bTight c_p0_bTight b_p0_bTight) (zT_r_amount c_p0_bLong c_p0_bTight) q_E0 sz)) (q_Qi (dC, dI) (zG_r_amount p0 f_p0 p0_bLong c_p0_bLong b_p0_bLong p0_bTight c_p0_bTight b_p0_bTight a1 a2 a3) (zA_r_amount p0 p0_bLong p0_bTight) (va_A (zW_r_amount p0 f_p0 p0_bLong c_p0_bLong b_p0_bLong p0_bTight c_p0_bTight b_p0_bTight) sz)) 0 0 (va_A (zW_r_amount p0 f_p0 p0_bLong c_p0_bLong b_p0_bLong p0_bTight c_p0_bTight b_p0_bTight) sz) := by
  refine Met.ofW (cc := cX9_amount) (maxL := 4) (ret := (some .int)) (by decide) rfl ?_
  intro p e s m args below meth c s₁ B hml hv
  obtain ⟨rfl, hsz, hP, hK, hD0, hE⟩ := hv
  have hx := B.exec
  have hb := B.bytes
  have hr := B.returns
  have hts := atoms_spec (ws := zw_r_amount) B.pre
  have hown : s.vm.findClass RX9 = some m.cls := findClass_of_methodNamed B.named
  have hlocks := B.notSynchronized
  subst hsz
  have hD := hD0.self (sz := s.heap.size)
  generalize hAe : va_A (zW_r_amount p0 f_p0 p0_bLong c_p0_bLong b_p0_bLong p0_bTight c_p0_bTight b_p0_bTight) s.heap.size = A at hD hE ⊢
  have hA : ∀ q : Nat, s.heap.size ≤ q → A q := fun q h => by rw [← hAe]; exact Or.inr h
  have hDa : q_DA A (zA_r_amount p0 p0_bLong p0_bTight) := q_DA.mk hD za_r_amount
  clear hAe hD0 hD
  have hS : va_S A s.heap s.heap [] := va_S.rf
  have m_0 : (.fieldLink RX9 119 "BowWalkModel" "bTight" "[I" : Cond) ∈ zw_r_amount := List.mem_append_left _ (List.mem_of_getElem? (i := 1) rfl)
  have k_0 := hts _ m_0
  have m_1 : (.methodLink RX9 367 yX9_sideOf : Cond) ∈ zw_r_amount := List.mem_append_left _ (List.mem_of_getElem? (i := 2) rfl)
  have k_1 := hts _ m_1
  have m_2 : (.instanceMethod yX9_sideOf : Cond) ∈ zw_r_amount := List.mem_append_left _ (List.mem_of_getElem? (i := 3) rfl)
  have k_2 := hts _ m_2
  have m_3 : (.selects RX9 yX9_sideOf yX9_sideOf : Cond) ∈ zw_r_amount := List.mem_append_left _ (List.mem_of_getElem? (i := 4) rfl)
  have k_3 := hts _ m_3
  have m_4 : (.initialized RX9 : Cond) ∈ zw_r_amount := List.mem_append_left _ (List.mem_of_getElem? (i := 5) rfl)
  have k_4 := hts _ m_4
  have m_5 : (.fieldLink RX9 370 "BowWalkModel" "bSmooth" "I" : Cond) ∈ zw_r_amount := List.mem_append_left _ (List.mem_of_getElem? (i := 6) rfl)
  have k_5 := hts _ m_5
  have m_6 : (.fieldLink RX9 373 "BowWalkModel" "bWeight" "I" : Cond) ∈ zw_r_amount := List.mem_append_left _ (List.mem_of_getElem? (i := 7) rfl)
  have k_6 := hts _ m_6
  have m_7 : (.fieldLink RX9 122 "BowWalkModel" "bLong" "[I" : Cond) ∈ zw_r_amount := List.mem_append_left _ (List.mem_of_getElem? (i := 8) rfl)
  have k_7 := hts _ m_7
  have m_8 : (.fieldLink RX9 376 "BowWalkModel" "nowStrike" "I" : Cond) ∈ zw_r_amount := List.mem_append_left _ (List.mem_of_getElem? (i := 9) rfl)
  have k_8 := hts _ m_8
  have m_9 : (.fieldLink RX9 379 "BowWalkModel" "nowSwing" "I" : Cond) ∈ zw_r_amount := List.mem_append_left _ (List.mem_of_getElem? (i := 10) rfl)
  have k_9 := hts _ m_9
  have g_r_sideOf : ∀ w ∈ zw_r_sideOf, w ∈ zw_r_amount := fun w h => List.mem_append_right _ (List.mem_append_left _ h)
  have i_X9 : ∀ w ∈ u_ws RX9 TX9 81, w ∈ zw_r_amount := fun w h => List.mem_append_right _ (List.mem_append_right _ (List.mem_append_left _ h))
  have lt_0 : (0 : Int32).toInt = 0 := by decide
  have lt_1 : (1 : Int32).toInt = 1 := by decide
  have lt_97 : (97 : Int32).toInt = 97 := by decide
  have lt_98 : (98 : Int32).toInt = 98 := by decide
  have lt_99 : (99 : Int32).toInt = 99 := by decide
  have lt_100 : (100 : Int32).toInt = 100 := by decide
  have lt_101 : (101 : Int32).toInt = 101 := by decide
  have lt_102 : (102 : Int32).toInt = 102 := by decide
  have lt_103 : (103 : Int32).toInt = 103 := by decide
  have lt_104 : (104 : Int32).toInt = 104 := by decide
  have lt_105 : (105 : Int32).toInt = 105 := by decide
  have lt_106 : (106 : Int32).toInt = 106 := by decide
  have lt_107 : (107 : Int32).toInt = 107 := by decide
  have lt_108 : (108 : Int32).toInt = 108 := by decide
  have lt_109 : (109 : Int32).toInt = 109 := by decide
  have lt_110 : (110 : Int32).toInt = 110 := by decide
  have hl := lv_entry ([.ref p0, .int a1, .int a2, .int a3]) (n := 4) (Nat.le_of_ble_eq_true rfl)
  rw [lg_entry_eq]
  generalize (lg_sl ([.ref p0, .int a1, .int a2, .int a3]) ++ List.replicate (4 - (lg_sl ([.ref p0, .int a1, .int a2, .int a3])).length) Slot.unset).toArray = ls at hl ⊢
  have hl : lv_has ls 4 [(0, .ref p0), (1, .int a1), (2, .int a2), (3, .int a3)] := hl
  refine lv_iload_n hx hb dX9_amount_0 rfl (lv_at hl 1 rfl) ?_
  by_cases hk_1 : a1 = 97
  · refine lv_tableIn (tgt := 74) (off := 73) hx hb dX9_amount_1 (by rw [hk_1]; decide) (by rw [hk_1]; decide) (by rw [hk_1]; decide) (by decide) ?_
    have thk_1 := q_eq hk_1
    refine lv_aload_n hx hb dX9_amount_74 rfl (lv_at hl 0 rfl) (qg_X9_49 hx hb hts i_X9 hown hK hP 0 rfl k_0 fr_p0_49 dX9_amount_75 (lv_iload_n hx hb dX9_amount_78 rfl (lv_at hl 3 rfl) (q_ild hx hb hK hP 2 1 rfl rfl (q_in (by omega) (by omega)) dX9_amount_79 (fun v_2 ev_2 => ?_))))
    exact q_iret hx hb hr hlocks hS dX9_amount_80 ⟨hP, za_r_amount⟩
  by_cases hk_3 : a1 = 98
  · refine lv_tableIn (tgt := 81) (off := 80) hx hb dX9_amount_1 (by rw [hk_3]; decide) (by rw [hk_3]; decide) (by rw [hk_3]; decide) (by decide) ?_
    have thk_3 := q_eq hk_3
    refine lv_iload_n hx hb dX9_amount_81 rfl (lv_at hl 3 rfl) ?_
    refine lv_if_le (tgt := 104) hx hb dX9_amount_82 (by decide) (fun c_4 => ?_) (fun c_4 => ?_)
    · have tc_4 := q_le c_4
      refine lv_iconst (v := 0) hx hb dX9_amount_104 (by decide) ?_
      exact q_iret hx hb hr hlocks hS dX9_amount_105 ⟨hP, za_r_amount⟩
    · have tc_4 := q_gtN c_4
      refine lv_aload_n hx hb dX9_amount_85 rfl (lv_at hl 0 rfl) (lv_iload_n hx hb dX9_amount_86 rfl (lv_at hl 3 rfl) ?_)
      refine q_cVi (As := [.int a3]) (rest := []) q_w0 trivial hK hP hDa za_r_amount hS hA [0] [] (by decide +kernel) ⟨hx, hb, hml, hown, hts⟩ (r_sideOf l dC dI s.heap.size p0 f_p0 a3 ho_p0) rfl rfl (cwV 1 hts (p1_gV m_1 m_2 m_3 m_4 g_r_sideOf gz_r_sideOf) rfl rfl rfl (by decide +kernel) ⟨by decide, by decide⟩) (va_recv hK hP (ci := 8) (q0 := 0) rfl rfl) zm_r_sideOf rfl hl.1 rfl (Nat.le_of_ble_eq_true rfl) dX9_amount_87 ⟨by decide, by decide⟩ (fun r_5 H6 lo6 hG6 hS6 => ?_)
      obtain ⟨z_7, hQ6⟩ := hG6
      have hP6 : va_P (dC, dI) vwCl (zW_r_amount p0 f_p0 p0_bLong c_p0_bLong b_p0_bLong p0_bTight c_p0_bTight b_p0_bTight) H6 := hQ6
      clear hQ6 hP hS
      refine lv_aload_n hx hb dX9_amount_90 rfl (lv_at hl 0 rfl) (lv_iload_n hx hb dX9_amount_91 rfl (lv_at hl 3 rfl) (lv_iconst (v := 1) hx hb dX9_amount_92 (by decide) (lv_isub hx hb dX9_amount_93 (lv_topi fun v_8 ev_8 => ?_))))
      have tv_8 := q_sub ev_8 (by omega) (by omega)
      refine q_cVi (As := [.int v_8]) (rest := [.int r_5]) q_w0 trivial hK hP6 hDa za_r_amount hS6 hA [0] [] (by decide +kernel) ⟨hx, hb, hml, hown, hts⟩ (r_sideOf l dC dI H6.size p0 f_p0 v_8 ho_p0) rfl rfl (cwV 1 hts (p1_gV m_1 m_2 m_3 m_4 g_r_sideOf gz_r_sideOf) rfl rfl rfl (by decide +kernel) ⟨by decide, by decide⟩) (va_recv hK hP6 (ci := 8) (q0 := 0) rfl rfl) zm_r_sideOf rfl hl.1 rfl (Nat.le_of_ble_eq_true rfl) dX9_amount_94 ⟨by decide, by decide⟩ (fun r_9 H10 lo10 hG10 hS10 => ?_)
      obtain ⟨z_11, hQ10⟩ := hG10
      have hP10 : va_P (dC, dI) vwCl (zW_r_amount p0 f_p0 p0_bLong c_p0_bLong b_p0_bLong p0_bTight c_p0_bTight b_p0_bTight) H10 := hQ10
      clear hQ10 hP6 hS6
      refine lv_icmp_ne (tgt := 104) hx hb dX9_amount_97 (by decide) (fun c_12 => ?_) (fun c_12 => ?_)
      · have tc_12 := q_ne c_12
        refine lv_iconst (v := 0) hx hb dX9_amount_104 (by decide) ?_
        exact q_iret hx hb hr hlocks hS10 dX9_amount_105 ⟨hP10, za_r_amount⟩
      · have tc_12 := q_eqN c_12
        refine lv_iconst (v := 1) hx hb dX9_amount_100 (by decide) (lv_goto (tgt := 105) hx hb dX9_amount_101 (by decide) ?_)
        exact q_iret hx hb hr hlocks hS10 dX9_amount_105 ⟨hP10, za_r_amount⟩
  by_cases hk_13 : a1 = 99
  · refine lv_tableIn (tgt := 106) (off := 105) hx hb dX9_amount_1 (by rw [hk_13]; decide) (by rw [hk_13]; decide) (by rw [hk_13]; decide) (by decide) ?_
    have thk_13 := q_eq hk_13
    refine lv_iload_n hx hb dX9_amount_106 rfl (lv_at hl 3 rfl) ?_
    exact q_iret hx hb hr hlocks hS dX9_amount_107 ⟨hP, za_r_amount⟩
  by_cases hk_14 : a1 = 100
  · refine lv_tableIn (tgt := 108) (off := 107) hx hb dX9_amount_1 (by rw [hk_14]; decide) (by rw [hk_14]; decide) (by rw [hk_14]; decide) (by decide) ?_
    have thk_14 := q_eq hk_14
    refine lv_aload_n hx hb dX9_amount_108 rfl (lv_at hl 0 rfl) ?_
    obtain ⟨v_15, fv_15⟩ := OKX9_g54 ho_p0
    refine qg_X9_54 hx hb hts i_X9 hown hK hP 0 rfl k_5 fv_15 dX9_amount_109 ?_
    exact q_iret hx hb hr hlocks hS dX9_amount_112 ⟨hP, za_r_amount⟩
  by_cases hk_16 : a1 = 101
  · refine lv_tableIn (tgt := 113) (off := 112) hx hb dX9_amount_1 (by rw [hk_16]; decide) (by rw [hk_16]; decide) (by rw [hk_16]; decide) (by decide) ?_
    have thk_16 := q_eq hk_16
    refine lv_aload_n hx hb dX9_amount_113 rfl (lv_at hl 0 rfl) ?_
    obtain ⟨v_17, fv_17⟩ := OKX9_g55 ho_p0
    refine qg_X9_55 hx hb hts i_X9 hown hK hP 0 rfl k_6 fv_17 dX9_amount_114 ?_
    exact q_iret hx hb hr hlocks hS dX9_amount_117 ⟨hP, za_r_amount⟩
  by_cases hk_18 : a1 = 102
  · refine lv_tableIn (tgt := 118) (off := 117) hx hb dX9_amount_1 (by rw [hk_18]; decide) (by rw [hk_18]; decide) (by rw [hk_18]; decide) (by decide) ?_
    have thk_18 := q_eq hk_18
    refine lv_aload_n hx hb dX9_amount_118 rfl (lv_at hl 0 rfl) (qg_X9_50 hx hb hts i_X9 hown hK hP 0 rfl k_7 fr_p0_50 dX9_amount_119 (lv_aload_n hx hb dX9_amount_122 rfl (lv_at hl 0 rfl) (lv_iload_n hx hb dX9_amount_123 rfl (lv_at hl 3 rfl) ?_)))
    refine q_cVi (As := [.int a3]) (rest := [.ref p0_bLong]) q_w0 trivial hK hP hDa za_r_amount hS hA [0] [] (by decide +kernel) ⟨hx, hb, hml, hown, hts⟩ (r_sideOf l dC dI s.heap.size p0 f_p0 a3 ho_p0) rfl rfl (cwV 1 hts (p1_gV m_1 m_2 m_3 m_4 g_r_sideOf gz_r_sideOf) rfl rfl rfl (by decide +kernel) ⟨by decide, by decide⟩) (va_recv hK hP (ci := 8) (q0 := 0) rfl rfl) zm_r_sideOf rfl hl.1 rfl (Nat.le_of_ble_eq_true rfl) dX9_amount_124 ⟨by decide, by decide⟩ (fun r_19 H20 lo20 hG20 hS20 => ?_)
    obtain ⟨z_21, hQ20⟩ := hG20
    have hP20 : va_P (dC, dI) vwCl (zW_r_amount p0 f_p0 p0_bLong c_p0_bLong b_p0_bLong p0_bTight c_p0_bTight b_p0_bTight) H20 := hQ20
    clear hQ20 hP hS
    refine q_ild hx hb hK hP20 1 0 rfl rfl (q_in (by omega) (by omega)) dX9_amount_127 (fun v_22 ev_22 => ?_)
    exact q_iret hx hb hr hlocks hS20 dX9_amount_128 ⟨hP20, za_r_amount⟩
  by_cases hk_23 : a1 = 103
  · refine lv_tableIn (tgt := 129) (off := 128) hx hb dX9_amount_1 (by rw [hk_23]; decide) (by rw [hk_23]; decide) (by rw [hk_23]; decide) (by decide) ?_
    have thk_23 := q_eq hk_23
    refine lv_aload_n hx hb dX9_amount_129 rfl (lv_at hl 0 rfl) ?_
    obtain ⟨v_24, fv_24⟩ := OKX9_g56 ho_p0
    refine qg_X9_56 hx hb hts i_X9 hown hK hP 0 rfl k_8 fv_24 dX9_amount_130 ?_
    exact q_iret hx hb hr hlocks hS dX9_amount_133 ⟨hP, za_r_amount⟩
  by_cases hk_25 : a1 = 104
  · refine lv_tableIn (tgt := 134) (off := 133) hx hb dX9_amount_1 (by rw [hk_25]; decide) (by rw [hk_25]; decide) (by rw [hk_25]; decide) (by decide) ?_
    have thk_25 := q_eq hk_25
    refine lv_aload_n hx hb dX9_amount_134 rfl (lv_at hl 0 rfl) ?_
    obtain ⟨v_26, fv_26⟩ := OKX9_g57 ho_p0
    refine qg_X9_57 hx hb hts i_X9 hown hK hP 0 rfl k_9 fv_26 dX9_amount_135 ?_
    exact q_iret hx hb hr hlocks hS dX9_amount_138 ⟨hP, za_r_amount⟩
  by_cases hk_27 : a1 = 105
  · refine lv_tableIn (tgt := 134) (off := 133) hx hb dX9_amount_1 (by rw [hk_27]; decide) (by rw [hk_27]; decide) (by rw [hk_27]; decide) (by decide) ?_
    have thk_27 := q_eq hk_27
    refine lv_aload_n hx hb dX9_amount_134 rfl (lv_at hl 0 rfl) ?_
    obtain ⟨v_28, fv_28⟩ := OKX9_g57 ho_p0
    refine qg_X9_57 hx hb hts i_X9 hown hK hP 0 rfl k_9 fv_28 dX9_amount_135 ?_
    exact q_iret hx hb hr hlocks hS dX9_amount_138 ⟨hP, za_r_amount⟩
  by_cases hk_29 : a1 = 106
  · refine lv_tableIn (tgt := 134) (off := 133) hx hb dX9_amount_1 (by rw [hk_29]; decide) (by rw [hk_29]; decide) (by rw [hk_29]; decide) (by decide) ?_
    have thk_29 := q_eq hk_29
    refine lv_aload_n hx hb dX9_amount_134 rfl (lv_at hl 0 rfl) ?_
    obtain ⟨v_30, fv_30⟩ := OKX9_g57 ho_p0
    refine qg_X9_57 hx hb hts i_X9 hown hK hP 0 rfl k_9 fv_30 dX9_amount_135 ?_
    exact q_iret hx hb hr hlocks hS dX9_amount_138 ⟨hP, za_r_amount⟩
  by_cases hk_31 : a1 = 107
  · refine lv_tableIn (tgt := 134) (off := 133) hx hb dX9_amount_1 (by rw [hk_31]; decide) (by rw [hk_31]; decide) (by rw [hk_31]; decide) (by decide) ?_
    have thk_31 := q_eq hk_31
    refine lv_aload_n hx hb dX9_amount_134 rfl (lv_at hl 0 rfl) ?_
    obtain ⟨v_32, fv_32⟩ := OKX9_g57 ho_p0
    refine qg_X9_57 hx hb hts i_X9 hown hK hP 0 rfl k_9 fv_32 dX9_amount_135 ?_
    exact q_iret hx hb hr hlocks hS dX9_amount_138 ⟨hP, za_r_amount⟩
  by_cases hk_33 : a1 = 108
  · refine lv_tableIn (tgt := 134) (off := 133) hx hb dX9_amount_1 (by rw [hk_33]; decide) (by rw [hk_33]; decide) (by rw [hk_33]; decide) (by decide) ?_
    have thk_33 := q_eq hk_33
    refine lv_aload_n hx hb dX9_amount_134 rfl (lv_at hl 0 rfl) ?_
    obtain ⟨v_34, fv_34⟩ := OKX9_g57 ho_p0
    refine qg_X9_57 hx hb hts i_X9 hown hK hP 0 rfl k_9 fv_34 dX9_amount_135 ?_
    exact q_iret hx hb hr hlocks hS dX9_amount_138 ⟨hP, za_r_amount⟩
  by_cases hk_35 : a1 = 109
  · refine lv_tableIn (tgt := 134) (off := 133) hx hb dX9_amount_1 (by rw [hk_35]; decide) (by rw [hk_35]; decide) (by rw [hk_35]; decide) (by decide) ?_
    have thk_35 := q_eq hk_35
    refine lv_aload_n hx hb dX9_amount_134 rfl (lv_at hl 0 rfl) ?_
    obtain ⟨v_36, fv_36⟩ := OKX9_g57 ho_p0
    refine qg_X9_57 hx hb hts i_X9 hown hK hP 0 rfl k_9 fv_36 dX9_amount_135 ?_
    exact q_iret hx hb hr hlocks hS dX9_amount_138 ⟨hP, za_r_amount⟩
  by_cases hk_37 : a1 = 110
  · refine lv_tableIn (tgt := 72) (off := 71) hx hb dX9_amount_1 (by rw [hk_37]; decide) (by rw [hk_37]; decide) (by rw [hk_37]; decide) (by decide) ?_
    have thk_37 := q_eq hk_37
    refine lv_iload_n hx hb dX9_amount_72 rfl (lv_at hl 2 rfl) ?_
    exact q_iret hx hb hr hlocks hS dX9_amount_73 ⟨hP, za_r_amount⟩
  have thk_1 := q_ne hk_1
  have thk_3 := q_ne hk_3
  have thk_13 := q_ne hk_13
  have thk_14 := q_ne hk_14
  have thk_16 := q_ne hk_16
  have thk_18 := q_ne hk_18
  have thk_23 := q_ne hk_23
  have thk_25 := q_ne hk_25
  have thk_27 := q_ne hk_27
  have thk_29 := q_ne hk_29
  have thk_31 := q_ne hk_31
  have thk_33 := q_ne hk_33
  have thk_35 := q_ne hk_35
  have thk_37 := q_ne hk_37
  refine lv_tableOut (tgt := 134) hx hb dX9_amount_1 (by omega) (by decide) ?_
  refine lv_aload_n hx hb dX9_amount_134 rfl (lv_at hl 0 rfl) ?_
  obtain ⟨v_38, fv_38⟩ := OKX9_g57 ho_p0
  refine qg_X9_57 hx hb hts i_X9 hown hK hP 0 rfl k_9 fv_38 dX9_amount_135 ?_
  exact q_iret hx hb hr hlocks hS dX9_amount_138 ⟨hP, za_r_amount⟩
def zo_r_comes : List Cond := [.code yX9_comes cX9_comes 6 (some .int), .fieldLink RX9 98 "BowWalkModel" "rFrom" "[I", .fieldLink RX9 101 "BowWalkModel" "rTo" "[I", .fieldLink RX9 116 "BowWalkModel" "pile" "[I", .fieldLink RX9 104 "BowWalkModel" "code" "[I", .methodLink RX9 233 yX9_isLetter, .static yX9_isLetter, .initialized RX9, .fieldLink RX9 107 "BowWalkModel" "codeNumber" "[I", .methodLink RX9 382 yX9_amount, .instanceMethod yX9_amount, .selects RX9 yX9_amount yX9_amount, .methodLink RX9 386 yX9_two, .static yX9_two]
def zw_r_comes : List Cond := zo_r_comes ++ (zw_r_isLetter ++ (zw_r_amount ++ (zw_r_two ++ (wsX90 ++ []))))
theorem gz_r_comes : zw_r_comes.all goodWord = true := p1_ga (by decide +kernel) (p1_ga gz_r_isLetter (p1_ga gz_r_amount (p1_ga gz_r_two (p1_ga gk_X9 p1_g0))))
theorem iz_r_comes : ∀ w ∈ zw_r_comes, w ∈ lw_tbl := p1_ia (p1_all [1488, 1073, 1074, 1079, 1075, 1293, 1294, 116, 1076, 1489, 1491, 82, 1493, 1494] (by decide +kernel)) (p1_ia iz_r_isLetter (p1_ia iz_r_amount (p1_ia iz_r_two (p1_ia ik_X9 p1_i0))))
def zW_r_comes (p0 : Nat) (f_p0 : List Value) (p0_bLong : Nat) (c_p0_bLong : ClassId) (b_p0_bLong : Nat → Int32) (p0_bTight : Nat) (c_p0_bTight : ClassId) (b_p0_bTight : Nat → Int32) (p0_code : Nat) (c_p0_code : ClassId) (b_p0_code : Nat → Int32) (p0_codeNumber : Nat) (c_p0_codeNumber : ClassId) (b_p0_codeNumber : Nat → Int32) (p0_laws : Nat) (c_p0_laws : ClassId) (b_p0_laws : Nat → Int32) (p0_pile : Nat) (c_p0_pile : ClassId) (b_p0_pile : Nat → Int32) (p0_rFrom : Nat) (c_p0_rFrom : ClassId) (b_p0_rFrom : Nat → Int32) (p0_rTo : Nat) (c_p0_rTo : ClassId) (b_p0_rTo : Nat → Int32) : va_W := [(p0, .inr (8, f_p0)), (p0_bLong, .inl (c_p0_bLong, 2, .inl b_p0_bLong)), (p0_bTight, .inl (c_p0_bTight, 12, .inl b_p0_bTight)), (p0_code, .inl (c_p0_code, 1800, .inl b_p0_code)), (p0_codeNumber, .inl (c_p0_codeNumber, 1800, .inl b_p0_codeNumber)), (p0_laws, .inl (c_p0_laws, 2, .inl b_p0_laws)), (p0_pile, .inl (c_p0_pile, 90, .inl b_p0_pile)), (p0_rFrom, .inl (c_p0_rFrom, 12, .inl b_p0_rFrom)), (p0_rTo, .inl (c_p0_rTo, 12, .inl b_p0_rTo))]
def zT_r_comes (c_p0_bLong : ClassId) (c_p0_bTight : ClassId) (c_p0_code : ClassId) (c_p0_codeNumber : ClassId) (c_p0_laws : ClassId) (c_p0_pile : ClassId) (c_p0_rFrom : ClassId) (c_p0_rTo : ClassId) : List (ClassId × FieldType) := [(c_p0_bLong, .int), (c_p0_bTight, .int), (c_p0_code, .int), (c_p0_codeNumber, .int), (c_p0_laws, .int), (c_p0_pile, .int), (c_p0_rFrom, .int), (c_p0_rTo, .int)]
def zA_r_comes (p0 : Nat) (p0_bLong : Nat) (p0_bTight : Nat) (p0_code : Nat) (p0_codeNumber : Nat) (p0_laws : Nat) (p0_pile : Nat) (p0_rFrom : Nat) (p0_rTo : Nat) : List Nat := [p0, p0_bLong, p0_bTight, p0_code, p0_codeNumber, p0_laws, p0_pile, p0_rFrom, p0_rTo]
theorem za_r_comes {p0 : Nat} {f_p0 : List Value} {p0_bLong : Nat} {c_p0_bLong : ClassId} {b_p0_bLong : Nat → Int32} {p0_bTight : Nat} {c_p0_bTight : ClassId} {b_p0_bTight : Nat → Int32} {p0_code : Nat} {c_p0_code : ClassId} {b_p0_code : Nat → Int32} {p0_codeNumber : Nat} {c_p0_codeNumber : ClassId} {b_p0_codeNumber : Nat → Int32} {p0_laws : Nat} {c_p0_laws : ClassId} {b_p0_laws : Nat → Int32} {p0_pile : Nat} {c_p0_pile : ClassId} {b_p0_pile : Nat → Int32} {p0_rFrom : Nat} {c_p0_rFrom : ClassId} {b_p0_rFrom : Nat → Int32} {p0_rTo : Nat} {c_p0_rTo : ClassId} {b_p0_rTo : Nat → Int32} : (zW_r_comes p0 f_p0 p0_bLong c_p0_bLong b_p0_bLong p0_bTight c_p0_bTight b_p0_bTight p0_code c_p0_code b_p0_code p0_codeNumber c_p0_codeNumber b_p0_codeNumber p0_laws c_p0_laws b_p0_laws p0_pile c_p0_pile b_p0_pile p0_rFrom c_p0_rFrom b_p0_rFrom p0_rTo c_p0_rTo b_p0_rTo).map Prod.fst = (zA_r_comes p0 p0_bLong p0_bTight p0_code p0_codeNumber p0_laws p0_pile p0_rFrom p0_rTo) := rfl
def zG_r_comes (p0 : Nat) (f_p0 : List Value) (p0_bLong : Nat) (c_p0_bLong : ClassId) (b_p0_bLong : Nat → Int32) (p0_bTight : Nat) (c_p0_bTight : ClassId) (b_p0_bTight : Nat → Int32) (p0_code : Nat) (c_p0_code : ClassId) (b_p0_code : Nat → Int32) (p0_codeNumber : Nat) (c_p0_codeNumber : ClassId) (b_p0_codeNumber : Nat → Int32) (p0_laws : Nat) (c_p0_laws : ClassId) (b_p0_laws : Nat → Int32) (p0_pile : Nat) (c_p0_pile : ClassId) (b_p0_pile : Nat → Int32) (p0_rFrom : Nat) (c_p0_rFrom : ClassId) (b_p0_rFrom : Nat → Int32) (p0_rTo : Nat) (c_p0_rTo : ClassId) (b_p0_rTo : Nat → Int32) (a1 : Int32) (a2 : Int32) (bk : Int32) (r : Int32) (X : va_W → Prop) : Prop := ∃ (y_p0_pile : Nat → Int32), X (zW_r_comes p0 f_p0 p0_bLong c_p0_bLong b_p0_bLong p0_bTight c_p0_bTight b_p0_bTight p0_code c_p0_code b_p0_code p0_codeNumber c_p0_codeNumber b_p0_codeNumber p0_laws c_p0_laws b_p0_laws p0_pile c_p0_pile y_p0_pile p0_rFrom c_p0_rFrom b_p0_rFrom p0_rTo c_p0_rTo b_p0_rTo)
theorem zm_r_comes {p0 : Nat} {f_p0 : List Value} {p0_bLong : Nat} {c_p0_bLong : ClassId} {b_p0_bLong : Nat → Int32} {p0_bTight : Nat} {c_p0_bTight : ClassId} {b_p0_bTight : Nat → Int32} {p0_code : Nat} {c_p0_code : ClassId} {b_p0_code : Nat → Int32} {p0_codeNumber : Nat} {c_p0_codeNumber : ClassId} {b_p0_codeNumber : Nat → Int32} {p0_laws : Nat} {c_p0_laws : ClassId} {b_p0_laws : Nat → Int32} {p0_pile : Nat} {c_p0_pile : ClassId} {b_p0_pile : Nat → Int32} {p0_rFrom : Nat} {c_p0_rFrom : ClassId} {b_p0_rFrom : Nat → Int32} {p0_rTo : Nat} {c_p0_rTo : ClassId} {b_p0_rTo : Nat → Int32} {a1 : Int32} {a2 : Int32} {bk : Int32} : ∀ (r : Int32), ∀ X Y : va_W → Prop, (∀ w, X w → Y w) → zG_r_comes p0 f_p0 p0_bLong c_p0_bLong b_p0_bLong p0_bTight c_p0_bTight b_p0_bTight p0_code c_p0_code b_p0_code p0_codeNumber c_p0_codeNumber b_p0_codeNumber p0_laws c_p0_laws b_p0_laws p0_pile c_p0_pile b_p0_pile p0_rFrom c_p0_rFrom b_p0_rFrom p0_rTo c_p0_rTo b_p0_rTo a1 a2 bk r X → zG_r_comes p0 f_p0 p0_bLong c_p0_bLong b_p0_bLong p0_bTight c_p0_bTight b_p0_bTight p0_code c_p0_code b_p0_code p0_codeNumber c_p0_codeNumber b_p0_codeNumber p0_laws c_p0_laws b_p0_laws p0_pile c_p0_pile b_p0_pile p0_rFrom c_p0_rFrom b_p0_rFrom p0_rTo c_p0_rTo b_p0_rTo a1 a2 bk r Y := fun r X Y h h1 => by obtain ⟨x0, hx⟩ := h1; exact ⟨x0, h _ hx⟩
set_option maxHeartbeats 4000000 in
set_option maxRecDepth 100000 in
theorem r_comes (l : Launch) (dC : Nat → ClassId) (dI : Nat → Nat → Nat) (sz : Nat) (p0 : Nat) (f_p0 : List Value) (p0_bLong : Nat) (c_p0_bLong : ClassId) (b_p0_bLong : Nat → Int32) (p0_bTight : Nat) (c_p0_bTight : ClassId) (b_p0_bTight : Nat → Int32) (p0_code : Nat) (c_p0_code : ClassId) (b_p0_code : Nat → Int32) (p0_codeNumber : Nat) (c_p0_codeNumber : ClassId) (b_p0_codeNumber : Nat → Int32) (p0_laws : Nat) (c_p0_laws : ClassId) (b_p0_laws : Nat → Int32) (p0_pile : Nat) (c_p0_pile : ClassId) (b_p0_pile : Nat → Int32) (p0_rFrom : Nat) (c_p0_rFrom : ClassId) (b_p0_rFrom : Nat → Int32) (p0_rTo : Nat) (c_p0_rTo : ClassId) (b_p0_rTo : Nat → Int32) (a1 : Int32) (a2 : Int32) (bk : Int32) (ho_p0 : OKX9 f_p0) (fr_p0_14 : q_rf f_p0 14 p0_laws) (fr_p0_36 : q_rf f_p0 36 p0_rFrom) (fr_p0_37 : q_rf f_p0 37 p0_rTo) (fr_p0_38 : q_rf f_p0 38 p0_code) (fr_p0_39 : q_rf f_p0 39 p0_codeNumber) (fr_p0_42 : q_rf f_p0 42 p0_pile) (fr_p0_49 : q_rf f_p0 49 p0_bTight) (fr_p0_50 : q_rf f_p0 50 p0_bLong) (hr_p0_laws : q_rg 2 (0) 3 b_p0_laws) (hr_p0_rFrom : q_rg 12 (0) 1800 b_p0_rFrom) (hr_p0_rTo : q_rg 12 (0) 1800 b_p0_rTo) (pf_bk : q_if f_p0 43 bk) (ta1 : (0) ≤ a1.toInt ∧ a1.toInt ≤ 11) (ta2 : (0) ≤ a2.toInt ∧ a2.toInt ≤ 11) (hLB : q_LB bk b_p0_laws b_p0_rFrom b_p0_rTo b_p0_code) (hg : q_good a1.toNatClampNeg b_p0_rFrom b_p0_rTo b_p0_code) : Met l yX9_comes zw_r_comes ({ frames := 2, cells := 0, slots := 0, locals := 44 }) (va_Pc [.ref p0, .int a1, .int a2] (q_pre (dC, dI) (zW_r_comes p0 f_p0 p0_bLong c_p0_bLong b_p0_bLong p0_bTight c_p0_bTight b_p0_bTight p0_code c_p0_code b_p0_code p0_codeNumber c_p0_codeNumber b_p0_codeNumber p0_laws c_p0_laws b_p0_laws p0_pile c_p0_pile b_p0_pile p0_rFrom c_p0_rFrom b_p0_rFrom p0_rTo c_p0_rTo b_p0_rTo) (zT_r_comes c_p0_bLong c_p0_bTight c_p0_code c_p0_codeNumber c_p0_laws c_p0_pile c_p0_rFrom c_p0_rTo) q_E0 sz)) (q_Qi (dC, dI) (zG_r_comes p0 f_p0 p0_bLong c_p0_bLong b_p0_bLong p0_bTight c_p0_bTight b_p0_bTight p0_code c_p0_code b_p0_code p0_codeNumber c_p0_codeNumber b_p0_codeNumber p0_laws c_p0_laws b_p0_laws p0_pile c_p0_pile b_p0_pile p0_rFrom c_p0_rFrom b_p0_rFrom p0_rTo c_p0_rTo b_p0_rTo a1 a2 bk) (zA_r_comes p0 p0_bLong p0_bTight p0_code p0_codeNumber p0_laws p0_pile p0_rFrom p0_rTo) (va_A (zW_r_comes p0 f_p0 p0_bLong c_p0_bLong b_p0_bLong p0_bTight c_p0_bTight b_p0_bTight p0_code c_p0_code b_p0_code p0_codeNumber c_p0_codeNumber b_p0_codeNumber p0_laws c_p0_laws b_p0_laws p0_pile c_p0_pile b_p0_pile p0_rFrom c_p0_rFrom b_p0_rFrom p0_rTo c_p0_rTo b_p0_rTo) sz)) 0 0 (va_A (zW_r_comes p0 f_p0 p0_bLong c_p0_bLong b_p0_bLong p0_bTight c_p0_bTight b_p0_bTight p0_code c_p0_code b_p0_code p0_codeNumber c_p0_codeNumber b_p0_codeNumber p0_laws c_p0_laws b_p0_laws p0_pile c_p0_pile b_p0_pile p0_rFrom c_p0_rFrom b_p0_rFrom p0_rTo c_p0_rTo b_p0_rTo) sz) := by
  refine Met.ofW (cc := cX9_comes) (maxL := 6) (ret := (some .int)) (by decide) rfl ?_
  intro p e s m args below meth c s₁ B hml hv
  obtain ⟨rfl, hsz, hP, hK, hD0, hE⟩ := hv
  have hx := B.exec
  have hb := B.bytes
  have hr := B.returns
  have hts := atoms_spec (ws := zw_r_comes) B.pre
  have hown : s.vm.findClass RX9 = some m.cls := findClass_of_methodNamed B.named
  have hlocks := B.notSynchronized
  subst hsz
  have hD := hD0.self (sz := s.heap.size)
  generalize hAe : va_A (zW_r_comes p0 f_p0 p0_bLong c_p0_bLong b_p0_bLong p0_bTight c_p0_bTight b_p0_bTight p0_code c_p0_code b_p0_code p0_codeNumber c_p0_codeNumber b_p0_codeNumber p0_laws c_p0_laws b_p0_laws p0_pile c_p0_pile b_p0_pile p0_rFrom c_p0_rFrom b_p0_rFrom p0_rTo c_p0_rTo b_p0_rTo) s.heap.size = A at hD hE ⊢
  have hA : ∀ q : Nat, s.heap.size ≤ q → A q := fun q h => by rw [← hAe]; exact Or.inr h
  have hDa : q_DA A (zA_r_comes p0 p0_bLong p0_bTight p0_code p0_codeNumber p0_laws p0_pile p0_rFrom p0_rTo) := q_DA.mk hD za_r_comes
  clear hAe hD0 hD
  have hS : va_S A s.heap s.heap [] := va_S.rf
  have m_0 : (.fieldLink RX9 98 "BowWalkModel" "rFrom" "[I" : Cond) ∈ zw_r_comes := List.mem_append_left _ (List.mem_of_getElem? (i := 1) rfl)
  have k_0 := hts _ m_0
  have m_1 : (.fieldLink RX9 101 "BowWalkModel" "rTo" "[I" : Cond) ∈ zw_r_comes := List.mem_append_left _ (List.mem_of_getElem? (i := 2) rfl)
  have k_1 := hts _ m_1
  have m_2 : (.fieldLink RX9 116 "BowWalkModel" "pile" "[I" : Cond) ∈ zw_r_comes := List.mem_append_left _ (List.mem_of_getElem? (i := 3) rfl)
  have k_2 := hts _ m_2
  have m_3 : (.fieldLink RX9 104 "BowWalkModel" "code" "[I" : Cond) ∈ zw_r_comes := List.mem_append_left _ (List.mem_of_getElem? (i := 4) rfl)
  have k_3 := hts _ m_3
  have m_4 : (.methodLink RX9 233 yX9_isLetter : Cond) ∈ zw_r_comes := List.mem_append_left _ (List.mem_of_getElem? (i := 5) rfl)
  have k_4 := hts _ m_4
  have m_5 : (.static yX9_isLetter : Cond) ∈ zw_r_comes := List.mem_append_left _ (List.mem_of_getElem? (i := 6) rfl)
  have k_5 := hts _ m_5
  have m_6 : (.initialized RX9 : Cond) ∈ zw_r_comes := List.mem_append_left _ (List.mem_of_getElem? (i := 7) rfl)
  have k_6 := hts _ m_6
  have m_7 : (.fieldLink RX9 107 "BowWalkModel" "codeNumber" "[I" : Cond) ∈ zw_r_comes := List.mem_append_left _ (List.mem_of_getElem? (i := 8) rfl)
  have k_7 := hts _ m_7
  have m_8 : (.methodLink RX9 382 yX9_amount : Cond) ∈ zw_r_comes := List.mem_append_left _ (List.mem_of_getElem? (i := 9) rfl)
  have k_8 := hts _ m_8
  have m_9 : (.instanceMethod yX9_amount : Cond) ∈ zw_r_comes := List.mem_append_left _ (List.mem_of_getElem? (i := 10) rfl)
  have k_9 := hts _ m_9
  have m_10 : (.selects RX9 yX9_amount yX9_amount : Cond) ∈ zw_r_comes := List.mem_append_left _ (List.mem_of_getElem? (i := 11) rfl)
  have k_10 := hts _ m_10
  have m_11 : (.methodLink RX9 386 yX9_two : Cond) ∈ zw_r_comes := List.mem_append_left _ (List.mem_of_getElem? (i := 12) rfl)
  have k_11 := hts _ m_11
  have m_12 : (.static yX9_two : Cond) ∈ zw_r_comes := List.mem_append_left _ (List.mem_of_getElem? (i := 13) rfl)
  have k_12 := hts _ m_12
  have g_r_isLetter : ∀ w ∈ zw_r_isLetter, w ∈ zw_r_comes := fun w h => List.mem_append_right _ (List.mem_append_left _ h)
  have g_r_amount : ∀ w ∈ zw_r_amount, w ∈ zw_r_comes := fun w h => List.mem_append_right _ (List.mem_append_right _ (List.mem_append_left _ h))
  have g_r_two : ∀ w ∈ zw_r_two, w ∈ zw_r_comes := fun w h => List.mem_append_right _ (List.mem_append_right _ (List.mem_append_right _ (List.mem_append_left _ h)))
  have i_X9 : ∀ w ∈ u_ws RX9 TX9 81, w ∈ zw_r_comes := fun w h => List.mem_append_right _ (List.mem_append_right _ (List.mem_append_right _ (List.mem_append_right _ (List.mem_append_left _ h))))
  have lt_m1 : ((-1) : Int32).toInt = -1 := by decide
  have lt_0 : (0 : Int32).toInt = 0 := by decide
  have lt_1 : (1 : Int32).toInt = 1 := by decide
  have lt_126 : (126 : Int32).toInt = 126 := by decide
  have hl := lv_entry ([.ref p0, .int a1, .int a2]) (n := 6) (Nat.le_of_ble_eq_true rfl)
  rw [lg_entry_eq]
  generalize (lg_sl ([.ref p0, .int a1, .int a2]) ++ List.replicate (6 - (lg_sl ([.ref p0, .int a1, .int a2])).length) Slot.unset).toArray = ls at hl ⊢
  have hl : lv_has ls 6 [(0, .ref p0), (1, .int a1), (2, .int a2)] := hl
  have tbk := (OKX9_g43 ho_p0).use pf_bk
  have hlb := hr_p0_laws bk.toNatClampNeg (q_cl (q_in (by omega) (by omega)))
  refine lv_iconst (v := 0) hx hb dX9_comes_0 (by decide) (lv_istore_n (lv' := [(3, .int 0), (0, .ref p0), (1, .int a1), (2, .int a2)]) hx hb dX9_comes_1 rfl hl (by decide) rfl (fun ls hl => ?_))
  refine lv_aload_n hx hb dX9_comes_2 rfl (lv_at hl 1 rfl) (qg_X9_36 hx hb hts i_X9 hown hK hP 0 rfl k_0 fr_p0_36 dX9_comes_3 (lv_iload_n hx hb dX9_comes_6 rfl (lv_at hl 2 rfl) (q_ild hx hb hK hP 7 6 rfl rfl (q_in (by omega) (by omega)) dX9_comes_7 (fun v_1 ev_1 => ?_))))
  have uv_1 : v_1.toInt = (b_p0_rFrom a1.toNatClampNeg).toInt := by rw [ev_1]
  have tv_1 := q_rd' hr_p0_rFrom (q_in (by omega) (by omega)) ev_1
  refine lv_istore (lv' := [(4, .int v_1), (3, .int 0), (0, .ref p0), (1, .int a1), (2, .int a2)]) hx hb dX9_comes_8 hl (by decide) rfl (fun ls hl => ?_)
  have key10 : ∀ (fu10 : Nat) (nn : Int32) (kk : Int32) (bz_p0_pile : Nat → Int32) (H : Heap) (locs : List Loc) (ls : Array Slot) (hfu10 : 1800 - kk.toInt ≤ (fu10 : Int)) (tnn : (0) ≤ nn.toInt ∧ nn.toInt ≤ 89) (tkk : (0) ≤ kk.toInt ∧ kk.toInt ≤ 1800) (hq10_0 : (b_p0_rFrom a1.toNatClampNeg).toInt ≤ kk.toInt) (hq10_1 : q_run b_p0_code (b_p0_rFrom a1.toNatClampNeg).toInt.toNat (kk.toInt - (b_p0_rFrom a1.toNatClampNeg).toInt).toNat = some nn.toInt.toNat), va_P (dC, dI) vwCl (zW_r_comes p0 f_p0 p0_bLong c_p0_bLong b_p0_bLong p0_bTight c_p0_bTight b_p0_bTight p0_code c_p0_code b_p0_code p0_codeNumber c_p0_codeNumber b_p0_codeNumber p0_laws c_p0_laws b_p0_laws p0_pile c_p0_pile bz_p0_pile p0_rFrom c_p0_rFrom b_p0_rFrom p0_rTo c_p0_rTo b_p0_rTo) H → va_S A s.heap H locs → lv_has ls 6 [(4, .int kk), (3, .int nn), (0, .ref p0), (1, .int a1), (2, .int a2)] → W p l e (headSpec zw_r_comes { frames := 2, cells := 0, slots := 0, locals := 44 }).room s m ([.ref p0, .int a1, .int a2] : List Value).toArray below meth c H locs 0 0 (MQ below (q_Qi (dC, dI) (zG_r_comes p0 f_p0 p0_bLong c_p0_bLong b_p0_bLong p0_bTight c_p0_bTight b_p0_bTight p0_code c_p0_code b_p0_code p0_codeNumber c_p0_codeNumber b_p0_codeNumber p0_laws c_p0_laws b_p0_laws p0_pile c_p0_pile b_p0_pile p0_rFrom c_p0_rFrom b_p0_rFrom p0_rTo c_p0_rTo b_p0_rTo a1 a2 bk) (zA_r_comes p0 p0_bLong p0_bTight p0_code p0_codeNumber p0_laws p0_pile p0_rFrom p0_rTo) A) ([.ref p0, .int a1, .int a2] : List Value).toArray s 0 0 A) (F0 m 10 ls []) := by
    intro fu10
    induction fu10 using Nat.strongRecOn with
    | ind fu10 ih10 =>
      intro nn kk bz_p0_pile H2 lo2 ls hfu10 tnn tkk hq10_0 hq10_1 hP2 hS2 hl
      refine lv_iload hx hb dX9_comes_10 (lv_at hl 0 rfl) (lv_aload_n hx hb dX9_comes_12 rfl (lv_at hl 2 rfl) (qg_X9_37 hx hb hts i_X9 hown hK hP2 0 rfl k_1 fr_p0_37 dX9_comes_13 (lv_iload_n hx hb dX9_comes_16 rfl (lv_at hl 3 rfl) (q_ild hx hb hK hP2 8 7 rfl rfl (q_in (by omega) (by omega)) dX9_comes_17 (fun v_3 ev_3 => ?_)))))
      have uv_3 : v_3.toInt = (b_p0_rTo a1.toNatClampNeg).toInt := by rw [ev_3]
      have tv_3 := q_rd' hr_p0_rTo (q_in (by omega) (by omega)) ev_3
      refine lv_icmp_ge (tgt := 134) hx hb dX9_comes_18 (by decide) (fun c_4 => ?_) (fun c_4 => ?_)
      · have tc_4 := q_ge c_4
        refine lv_aload_n hx hb dX9_comes_134 rfl (lv_at hl 2 rfl) (qg_X9_42 hx hb hts i_X9 hown hK hP2 0 rfl k_2 fr_p0_42 dX9_comes_135 (lv_iconst (v := 0) hx hb dX9_comes_138 (by decide) (q_ild hx hb hK hP2 6 5 rfl rfl (p1_in (i := 0) (n := 90) (by decide)) dX9_comes_139 (fun v_5 ev_5 => ?_))))
        exact q_iret hx hb hr hlocks hS2 dX9_comes_140 ⟨bz_p0_pile, hP2, za_r_comes⟩
      · have tc_4 := q_ltN c_4
        refine lv_aload_n hx hb dX9_comes_21 rfl (lv_at hl 2 rfl) (qg_X9_38 hx hb hts i_X9 hown hK hP2 0 rfl k_3 fr_p0_38 dX9_comes_22 (lv_iload hx hb dX9_comes_25 (lv_at hl 0 rfl) (q_ild hx hb hK hP2 3 2 rfl rfl (q_in (by omega) (by omega)) dX9_comes_27 (fun v_6 ev_6 => ?_))))
        obtain ⟨d9, hq9, hn9⟩ := hg.go hq10_1 (i := kk) (by omega) (by omega) ev_6
        refine lv_istore (lv' := [(5, .int v_6), (4, .int kk), (3, .int nn), (0, .ref p0), (1, .int a1), (2, .int a2)]) hx hb dX9_comes_28 hl (by decide) rfl (fun ls hl => ?_)
        refine lv_iload hx hb dX9_comes_30 (lv_at hl 0 rfl) (lv_bipush (v := 126) hx hb dX9_comes_32 (by decide) ?_)
        refine lv_icmp_ne (tgt := 64) hx hb dX9_comes_34 (by decide) (fun c_7 => ?_) (fun c_7 => ?_)
        · have tc_7 := q_ne c_7
          refine lv_iload hx hb dX9_comes_64 (lv_at hl 0 rfl) ?_
          refine q_cSi (As := [.int v_6]) (rest := []) q_w0 trivial hK hP2 hDa za_r_comes hS2 hA [] [] (by decide +kernel) ⟨hx, hb, hml, hown, hts⟩ (r_isLetter l dC dI H2.size v_6) rfl rfl (va_cwS 1 hts (p1_gS m_4 m_5 m_6 g_r_isLetter gz_r_isLetter) rfl rfl rfl (by decide +kernel) ⟨by decide, by decide⟩) zm_r_isLetter rfl hl.1 rfl (Nat.le_of_ble_eq_true rfl) dX9_comes_66 ⟨by decide, by decide⟩ (fun r_8 H9 lo9 hG9 hS9 => ?_)
          obtain ⟨z_10, hQ9⟩ := hG9
          have hP9 : va_P (dC, dI) vwCl (zW_r_comes p0 f_p0 p0_bLong c_p0_bLong b_p0_bLong p0_bTight c_p0_bTight b_p0_bTight p0_code c_p0_code b_p0_code p0_codeNumber c_p0_codeNumber b_p0_codeNumber p0_laws c_p0_laws b_p0_laws p0_pile c_p0_pile bz_p0_pile p0_rFrom c_p0_rFrom b_p0_rFrom p0_rTo c_p0_rTo b_p0_rTo) H9 := hQ9
          clear hQ9 hP2 hS2
          rcases z_10 with ⟨rfl, z_10⟩ | ⟨rfl, z_10⟩
          · refine lv_if_eq (tgt := 98) hx hb dX9_comes_69 (by decide) (fun c_11 => absurd c_11 (by decide)) (fun c_11 => ?_)
            have h9 := q_stp_l hq9 (by omega) (by omega)
            refine lv_aload_n hx hb dX9_comes_72 rfl (lv_at hl 3 rfl) (qg_X9_42 hx hb hts i_X9 hown hK hP9 0 rfl k_2 fr_p0_42 dX9_comes_73 (lv_iload_n hx hb dX9_comes_76 rfl (lv_at hl 2 rfl) (lv_aload_n hx hb dX9_comes_77 rfl (lv_at hl 3 rfl) (lv_iload hx hb dX9_comes_78 (lv_at hl 0 rfl) (lv_aload_n hx hb dX9_comes_80 rfl (lv_at hl 3 rfl) (qg_X9_39 hx hb hts i_X9 hown hK hP9 0 rfl k_7 fr_p0_39 dX9_comes_81 (lv_iload hx hb dX9_comes_84 (lv_at hl 1 rfl) ?_)))))))
            refine q_ild hx hb hK hP9 4 3 rfl rfl (q_in (by omega) (by omega)) dX9_comes_86 (fun v_12 ev_12 => ?_)
            refine lv_iload_n hx hb dX9_comes_87 rfl (lv_at hl 5 rfl) ?_
            refine q_cVi (As := [.int v_6, .int v_12, .int a2]) (rest := [.int nn, .ref p0_pile]) q_w0 trivial hK hP9 hDa za_r_comes hS9 hA [0, 1, 2] [0, 1] (by decide +kernel) ⟨hx, hb, hml, hown, hts⟩ (r_amount l dC dI H9.size p0 f_p0 p0_bLong c_p0_bLong b_p0_bLong p0_bTight c_p0_bTight b_p0_bTight v_6 v_12 a2 ho_p0 fr_p0_49 fr_p0_50 ((by omega))) rfl rfl (cwV 3 hts (p1_gV m_8 m_9 m_10 m_6 g_r_amount gz_r_amount) rfl rfl rfl (by decide +kernel) ⟨by decide, by decide⟩) (va_recv hK hP9 (ci := 8) (q0 := 0) rfl rfl) zm_r_amount rfl hl.1 rfl (Nat.le_of_ble_eq_true rfl) dX9_comes_88 ⟨by decide, by decide⟩ (fun r_13 H14 lo14 hG14 hS14 => ?_)
            have hQ14 := hG14
            have hP14 : va_P (dC, dI) vwCl (zW_r_comes p0 f_p0 p0_bLong c_p0_bLong b_p0_bLong p0_bTight c_p0_bTight b_p0_bTight p0_code c_p0_code b_p0_code p0_codeNumber c_p0_codeNumber b_p0_codeNumber p0_laws c_p0_laws b_p0_laws p0_pile c_p0_pile bz_p0_pile p0_rFrom c_p0_rFrom b_p0_rFrom p0_rTo c_p0_rTo b_p0_rTo) H14 := hQ14
            clear hQ14 hP9 hS9
            refine q_ist hx hb hK hP14 hDa za_r_comes hS14 6 5 rfl rfl (q_in (by omega) (by omega)) dX9_comes_91 (fun H15 lo15 g15 eg15 (hP15 : va_P (dC, dI) vwCl (zW_r_comes p0 f_p0 p0_bLong c_p0_bLong b_p0_bLong p0_bTight c_p0_bTight b_p0_bTight p0_code c_p0_code b_p0_code p0_codeNumber c_p0_codeNumber b_p0_codeNumber p0_laws c_p0_laws b_p0_laws p0_pile c_p0_pile g15 p0_rFrom c_p0_rFrom b_p0_rFrom p0_rTo c_p0_rTo b_p0_rTo) H15) hS15 => ?_)
            clear hP14 hS14
            obtain ⟨v_16, ev_16⟩ : ∃ y : Int32, y = nn + 1 := ⟨_, rfl⟩
            have tv_16 := q_add ev_16 (by omega) (by omega)
            refine lv_iinc (v := v_16) (lv' := [(3, .int v_16), (5, .int v_6), (4, .int kk), (0, .ref p0), (1, .int a1), (2, .int a2)]) hx hb dX9_comes_92 hl (k := 2) rfl (by rw [ev_16]; rfl) (by decide) rfl (fun ls hl => ?_)
            refine lv_goto (tgt := 128) hx hb dX9_comes_95 (by decide) ?_
            obtain ⟨v_17, ev_17⟩ : ∃ y : Int32, y = kk + 1 := ⟨_, rfl⟩
            have tv_17 := q_add ev_17 (by omega) (by omega)
            refine lv_iinc (v := v_17) (lv' := [(4, .int v_17), (3, .int v_16), (5, .int v_6), (0, .ref p0), (1, .int a1), (2, .int a2)]) hx hb dX9_comes_128 hl (k := 2) rfl (by rw [ev_17]; rfl) (by decide) rfl (fun ls hl => ?_)
            refine lv_goto (tgt := 10) hx hb dX9_comes_131 (by decide) ?_
            exact ih10 (fu10 - 1) (by omega) v_16 v_17 g15 _ _ _ (by omega) (by omega) (by omega) (by omega) (by rw [show (v_17.toInt - (b_p0_rFrom a1.toNatClampNeg).toInt).toNat = (kk.toInt - (b_p0_rFrom a1.toNatClampNeg).toInt).toNat + 1 by omega, hn9]; exact congrArg some (by omega)) hP15 hS15 (lv_sub hl [0, 1, 3, 4, 5] rfl)
          · refine lv_if_eq (tgt := 98) hx hb dX9_comes_69 (by decide) (fun c_18 => ?_) (fun c_18 => absurd c_18 (by decide))
            have h9 := q_stp_o hq9 (by omega) (by omega)
            obtain ⟨v_19, ev_19⟩ : ∃ y : Int32, y = nn + (-1) := ⟨_, rfl⟩
            have tv_19 := q_add ev_19 (by omega) (by omega)
            refine lv_iinc (v := v_19) (lv' := [(3, .int v_19), (5, .int v_6), (4, .int kk), (0, .ref p0), (1, .int a1), (2, .int a2)]) hx hb dX9_comes_98 hl (k := 2) rfl (by rw [ev_19]; rfl) (by decide) rfl (fun ls hl => ?_)
            refine lv_aload_n hx hb dX9_comes_101 rfl (lv_at hl 3 rfl) (qg_X9_42 hx hb hts i_X9 hown hK hP9 0 rfl k_2 fr_p0_42 dX9_comes_102 (lv_iload_n hx hb dX9_comes_105 rfl (lv_at hl 0 rfl) (lv_iconst (v := 1) hx hb dX9_comes_106 (by decide) (lv_isub hx hb dX9_comes_107 (lv_topi fun v_20 ev_20 => ?_)))))
            have tv_20 := q_sub ev_20 (by omega) (by omega)
            refine lv_iload hx hb dX9_comes_108 (lv_at hl 1 rfl) (lv_aload_n hx hb dX9_comes_110 rfl (lv_at hl 3 rfl) (qg_X9_42 hx hb hts i_X9 hown hK hP9 0 rfl k_2 fr_p0_42 dX9_comes_111 (lv_iload_n hx hb dX9_comes_114 rfl (lv_at hl 0 rfl) (lv_iconst (v := 1) hx hb dX9_comes_115 (by decide) (lv_isub hx hb dX9_comes_116 (lv_topi fun v_21 ev_21 => ?_))))))
            have tv_21 := q_sub ev_21 (by omega) (by omega)
            refine q_ild hx hb hK hP9 6 5 rfl rfl (q_in (by omega) (by omega)) dX9_comes_117 (fun v_22 ev_22 => ?_)
            refine lv_aload_n hx hb dX9_comes_118 rfl (lv_at hl 3 rfl) (qg_X9_42 hx hb hts i_X9 hown hK hP9 0 rfl k_2 fr_p0_42 dX9_comes_119 (lv_iload_n hx hb dX9_comes_122 rfl (lv_at hl 0 rfl) (q_ild hx hb hK hP9 6 5 rfl rfl (q_in (by omega) (by omega)) dX9_comes_123 (fun v_23 ev_23 => ?_))))
            refine q_cSi (As := [.int v_6, .int v_22, .int v_23]) (rest := [.int v_20, .ref p0_pile]) q_w0 trivial hK hP9 hDa za_r_comes hS9 hA [] [] (by decide +kernel) ⟨hx, hb, hml, hown, hts⟩ (r_two l dC dI H9.size v_6 v_22 v_23) rfl rfl (va_cwS 3 hts (p1_gS m_11 m_12 m_6 g_r_two gz_r_two) rfl rfl rfl (by decide +kernel) ⟨by decide, by decide⟩) zm_r_two rfl hl.1 rfl (Nat.le_of_ble_eq_true rfl) dX9_comes_124 ⟨by decide, by decide⟩ (fun r_24 H25 lo25 hG25 hS25 => ?_)
            have hQ25 := hG25
            have hP25 : va_P (dC, dI) vwCl (zW_r_comes p0 f_p0 p0_bLong c_p0_bLong b_p0_bLong p0_bTight c_p0_bTight b_p0_bTight p0_code c_p0_code b_p0_code p0_codeNumber c_p0_codeNumber b_p0_codeNumber p0_laws c_p0_laws b_p0_laws p0_pile c_p0_pile bz_p0_pile p0_rFrom c_p0_rFrom b_p0_rFrom p0_rTo c_p0_rTo b_p0_rTo) H25 := hQ25
            clear hQ25 hP9 hS9
            refine q_ist hx hb hK hP25 hDa za_r_comes hS25 6 5 rfl rfl (q_in (by omega) (by omega)) dX9_comes_127 (fun H26 lo26 g26 eg26 (hP26 : va_P (dC, dI) vwCl (zW_r_comes p0 f_p0 p0_bLong c_p0_bLong b_p0_bLong p0_bTight c_p0_bTight b_p0_bTight p0_code c_p0_code b_p0_code p0_codeNumber c_p0_codeNumber b_p0_codeNumber p0_laws c_p0_laws b_p0_laws p0_pile c_p0_pile g26 p0_rFrom c_p0_rFrom b_p0_rFrom p0_rTo c_p0_rTo b_p0_rTo) H26) hS26 => ?_)
            clear hP25 hS25
            obtain ⟨v_27, ev_27⟩ : ∃ y : Int32, y = kk + 1 := ⟨_, rfl⟩
            have tv_27 := q_add ev_27 (by omega) (by omega)
            refine lv_iinc (v := v_27) (lv' := [(4, .int v_27), (3, .int v_19), (5, .int v_6), (0, .ref p0), (1, .int a1), (2, .int a2)]) hx hb dX9_comes_128 hl (k := 2) rfl (by rw [ev_27]; rfl) (by decide) rfl (fun ls hl => ?_)
            refine lv_goto (tgt := 10) hx hb dX9_comes_131 (by decide) ?_
            exact ih10 (fu10 - 1) (by omega) v_19 v_27 g26 _ _ _ (by omega) (by omega) (by omega) (by omega) (by rw [show (v_27.toInt - (b_p0_rFrom a1.toNatClampNeg).toInt).toNat = (kk.toInt - (b_p0_rFrom a1.toNatClampNeg).toInt).toNat + 1 by omega, hn9]; exact congrArg some (by omega)) hP26 hS26 (lv_sub hl [0, 1, 3, 4, 5] rfl)
        · have tc_7 := q_eqN c_7
          have h9 := q_stp_n hq9 (by omega)
          refine lv_aload_n hx hb dX9_comes_37 rfl (lv_at hl 3 rfl) (qg_X9_42 hx hb hts i_X9 hown hK hP2 0 rfl k_2 fr_p0_42 dX9_comes_38 (lv_iload_n hx hb dX9_comes_41 rfl (lv_at hl 2 rfl) (lv_iconst (v := 1) hx hb dX9_comes_42 (by decide) (lv_isub hx hb dX9_comes_43 (lv_topi fun v_28 ev_28 => ?_)))))
          have tv_28 := q_sub ev_28 (by omega) (by omega)
          refine lv_aload_n hx hb dX9_comes_44 rfl (lv_at hl 3 rfl) (qg_X9_42 hx hb hts i_X9 hown hK hP2 0 rfl k_2 fr_p0_42 dX9_comes_45 (lv_iload_n hx hb dX9_comes_48 rfl (lv_at hl 2 rfl) (lv_iconst (v := 1) hx hb dX9_comes_49 (by decide) (lv_isub hx hb dX9_comes_50 (lv_topi fun v_29 ev_29 => ?_)))))
          have tv_29 := q_sub ev_29 (by omega) (by omega)
          refine q_ild hx hb hK hP2 6 5 rfl rfl (q_in (by omega) (by omega)) dX9_comes_51 (fun v_30 ev_30 => ?_)
          refine lv_if_ne (tgt := 59) hx hb dX9_comes_52 (by decide) (fun c_31 => ?_) (fun c_31 => ?_)
          · have tc_31 := q_ne c_31
            refine lv_iconst (v := 0) hx hb dX9_comes_59 (by decide) (q_ist hx hb hK hP2 hDa za_r_comes hS2 6 5 rfl rfl (q_in (by omega) (by omega)) dX9_comes_60 (fun H32 lo32 g32 eg32 (hP32 : va_P (dC, dI) vwCl (zW_r_comes p0 f_p0 p0_bLong c_p0_bLong b_p0_bLong p0_bTight c_p0_bTight b_p0_bTight p0_code c_p0_code b_p0_code p0_codeNumber c_p0_codeNumber b_p0_codeNumber p0_laws c_p0_laws b_p0_laws p0_pile c_p0_pile g32 p0_rFrom c_p0_rFrom b_p0_rFrom p0_rTo c_p0_rTo b_p0_rTo) H32) hS32 => ?_))
            clear hP2 hS2
            refine lv_goto (tgt := 128) hx hb dX9_comes_61 (by decide) ?_
            obtain ⟨v_33, ev_33⟩ : ∃ y : Int32, y = kk + 1 := ⟨_, rfl⟩
            have tv_33 := q_add ev_33 (by omega) (by omega)
            refine lv_iinc (v := v_33) (lv' := [(4, .int v_33), (5, .int v_6), (3, .int nn), (0, .ref p0), (1, .int a1), (2, .int a2)]) hx hb dX9_comes_128 hl (k := 1) rfl (by rw [ev_33]; rfl) (by decide) rfl (fun ls hl => ?_)
            refine lv_goto (tgt := 10) hx hb dX9_comes_131 (by decide) ?_
            exact ih10 (fu10 - 1) (by omega) nn v_33 g32 _ _ _ (by omega) (by omega) (by omega) (by omega) (by rw [show (v_33.toInt - (b_p0_rFrom a1.toNatClampNeg).toInt).toNat = (kk.toInt - (b_p0_rFrom a1.toNatClampNeg).toInt).toNat + 1 by omega, hn9]; exact congrArg some (by omega)) hP32 hS32 (lv_sub hl [0, 2, 3, 4, 5] rfl)
          · have tc_31 := q_eqN c_31
            refine lv_iconst (v := 1) hx hb dX9_comes_55 (by decide) (lv_goto (tgt := 60) hx hb dX9_comes_56 (by decide) (q_ist hx hb hK hP2 hDa za_r_comes hS2 6 5 rfl rfl (q_in (by omega) (by omega)) dX9_comes_60 (fun H34 lo34 g34 eg34 (hP34 : va_P (dC, dI) vwCl (zW_r_comes p0 f_p0 p0_bLong c_p0_bLong b_p0_bLong p0_bTight c_p0_bTight b_p0_bTight p0_code c_p0_code b_p0_code p0_codeNumber c_p0_codeNumber b_p0_codeNumber p0_laws c_p0_laws b_p0_laws p0_pile c_p0_pile g34 p0_rFrom c_p0_rFrom b_p0_rFrom p0_rTo c_p0_rTo b_p0_rTo) H34) hS34 => ?_)))
            clear hP2 hS2
            refine lv_goto (tgt := 128) hx hb dX9_comes_61 (by decide) ?_
            obtain ⟨v_35, ev_35⟩ : ∃ y : Int32, y = kk + 1 := ⟨_, rfl⟩
            have tv_35 := q_add ev_35 (by omega) (by omega)
            refine lv_iinc (v := v_35) (lv' := [(4, .int v_35), (5, .int v_6), (3, .int nn), (0, .ref p0), (1, .int a1), (2, .int a2)]) hx hb dX9_comes_128 hl (k := 1) rfl (by rw [ev_35]; rfl) (by decide) rfl (fun ls hl => ?_)
            refine lv_goto (tgt := 10) hx hb dX9_comes_131 (by decide) ?_
            exact ih10 (fu10 - 1) (by omega) nn v_35 g34 _ _ _ (by omega) (by omega) (by omega) (by omega) (by rw [show (v_35.toInt - (b_p0_rFrom a1.toNatClampNeg).toInt).toNat = (kk.toInt - (b_p0_rFrom a1.toNatClampNeg).toInt).toNat + 1 by omega, hn9]; exact congrArg some (by omega)) hP34 hS34 (lv_sub hl [0, 2, 3, 4, 5] rfl)
  exact key10 1800 0 v_1 b_p0_pile _ _ _ (by omega) (by omega) (by omega) (by omega) (by rw [show (v_1.toInt - (b_p0_rFrom a1.toNatClampNeg).toInt).toNat = 0 by omega]; rfl) hP hS (lv_sub hl [0, 1, 2, 3, 4] rfl)
def zo_r_rub : List Cond := [.code yX9_rub cX9_rub 3 (some .int), .fieldLink RX9 30 "BowWalkModel" "laws" "[I", .fieldLink RX9 291 "BowWalkModel" "bank" "I", .methodLink RX9 406 yX9_comes, .instanceMethod yX9_comes, .selects RX9 yX9_comes yX9_comes, .initialized RX9, .fieldLink RX9 119 "BowWalkModel" "bTight" "[I", .fieldLink RX9 376 "BowWalkModel" "nowStrike" "I", .fieldLink RX9 370 "BowWalkModel" "bSmooth" "I"]
def zw_r_rub : List Cond := zo_r_rub ++ (zw_r_comes ++ (wsX90 ++ []))
theorem gz_r_rub : zw_r_rub.all goodWord = true := p1_ga (by decide +kernel) (p1_ga gz_r_comes (p1_ga gk_X9 p1_g0))
theorem iz_r_rub : ∀ w ∈ zw_r_rub, w ∈ lw_tbl := p1_ia (p1_all [1499, 1051, 1080, 1485, 1487, 81, 116, 1086, 1093, 1091] (by decide +kernel)) (p1_ia iz_r_comes (p1_ia ik_X9 p1_i0))
def zW_r_rub (p0 : Nat) (f_p0 : List Value) (p0_bLong : Nat) (c_p0_bLong : ClassId) (b_p0_bLong : Nat → Int32) (p0_bTight : Nat) (c_p0_bTight : ClassId) (b_p0_bTight : Nat → Int32) (p0_code : Nat) (c_p0_code : ClassId) (b_p0_code : Nat → Int32) (p0_codeNumber : Nat) (c_p0_codeNumber : ClassId) (b_p0_codeNumber : Nat → Int32) (p0_laws : Nat) (c_p0_laws : ClassId) (b_p0_laws : Nat → Int32) (p0_pile : Nat) (c_p0_pile : ClassId) (b_p0_pile : Nat → Int32) (p0_rFrom : Nat) (c_p0_rFrom : ClassId) (b_p0_rFrom : Nat → Int32) (p0_rTo : Nat) (c_p0_rTo : ClassId) (b_p0_rTo : Nat → Int32) : va_W := [(p0, .inr (8, f_p0)), (p0_bLong, .inl (c_p0_bLong, 2, .inl b_p0_bLong)), (p0_bTight, .inl (c_p0_bTight, 12, .inl b_p0_bTight)), (p0_code, .inl (c_p0_code, 1800, .inl b_p0_code)), (p0_codeNumber, .inl (c_p0_codeNumber, 1800, .inl b_p0_codeNumber)), (p0_laws, .inl (c_p0_laws, 2, .inl b_p0_laws)), (p0_pile, .inl (c_p0_pile, 90, .inl b_p0_pile)), (p0_rFrom, .inl (c_p0_rFrom, 12, .inl b_p0_rFrom)), (p0_rTo, .inl (c_p0_rTo, 12, .inl b_p0_rTo))]
def zT_r_rub (c_p0_bLong : ClassId) (c_p0_bTight : ClassId) (c_p0_code : ClassId) (c_p0_codeNumber : ClassId) (c_p0_laws : ClassId) (c_p0_pile : ClassId) (c_p0_rFrom : ClassId) (c_p0_rTo : ClassId) : List (ClassId × FieldType) := [(c_p0_bLong, .int), (c_p0_bTight, .int), (c_p0_code, .int), (c_p0_codeNumber, .int), (c_p0_laws, .int), (c_p0_pile, .int), (c_p0_rFrom, .int), (c_p0_rTo, .int)]
def zA_r_rub (p0 : Nat) (p0_bLong : Nat) (p0_bTight : Nat) (p0_code : Nat) (p0_codeNumber : Nat) (p0_laws : Nat) (p0_pile : Nat) (p0_rFrom : Nat) (p0_rTo : Nat) : List Nat := [p0, p0_bLong, p0_bTight, p0_code, p0_codeNumber, p0_laws, p0_pile, p0_rFrom, p0_rTo]
theorem za_r_rub {p0 : Nat} {f_p0 : List Value} {p0_bLong : Nat} {c_p0_bLong : ClassId} {b_p0_bLong : Nat → Int32} {p0_bTight : Nat} {c_p0_bTight : ClassId} {b_p0_bTight : Nat → Int32} {p0_code : Nat} {c_p0_code : ClassId} {b_p0_code : Nat → Int32} {p0_codeNumber : Nat} {c_p0_codeNumber : ClassId} {b_p0_codeNumber : Nat → Int32} {p0_laws : Nat} {c_p0_laws : ClassId} {b_p0_laws : Nat → Int32} {p0_pile : Nat} {c_p0_pile : ClassId} {b_p0_pile : Nat → Int32} {p0_rFrom : Nat} {c_p0_rFrom : ClassId} {b_p0_rFrom : Nat → Int32} {p0_rTo : Nat} {c_p0_rTo : ClassId} {b_p0_rTo : Nat → Int32} : (zW_r_rub p0 f_p0 p0_bLong c_p0_bLong b_p0_bLong p0_bTight c_p0_bTight b_p0_bTight p0_code c_p0_code b_p0_code p0_codeNumber c_p0_codeNumber b_p0_codeNumber p0_laws c_p0_laws b_p0_laws p0_pile c_p0_pile b_p0_pile p0_rFrom c_p0_rFrom b_p0_rFrom p0_rTo c_p0_rTo b_p0_rTo).map Prod.fst = (zA_r_rub p0 p0_bLong p0_bTight p0_code p0_codeNumber p0_laws p0_pile p0_rFrom p0_rTo) := rfl
def zG_r_rub (p0 : Nat) (f_p0 : List Value) (p0_bLong : Nat) (c_p0_bLong : ClassId) (b_p0_bLong : Nat → Int32) (p0_bTight : Nat) (c_p0_bTight : ClassId) (b_p0_bTight : Nat → Int32) (p0_code : Nat) (c_p0_code : ClassId) (b_p0_code : Nat → Int32) (p0_codeNumber : Nat) (c_p0_codeNumber : ClassId) (b_p0_codeNumber : Nat → Int32) (p0_laws : Nat) (c_p0_laws : ClassId) (b_p0_laws : Nat → Int32) (p0_pile : Nat) (c_p0_pile : ClassId) (b_p0_pile : Nat → Int32) (p0_rFrom : Nat) (c_p0_rFrom : ClassId) (b_p0_rFrom : Nat → Int32) (p0_rTo : Nat) (c_p0_rTo : ClassId) (b_p0_rTo : Nat → Int32) (a1 : Int32) (a2 : Int32) (bk : Int32) (r : Int32) (X : va_W → Prop) : Prop := ∃ (y_p0_pile : Nat → Int32), X (zW_r_rub p0 f_p0 p0_bLong c_p0_bLong b_p0_bLong p0_bTight c_p0_bTight b_p0_bTight p0_code c_p0_code b_p0_code p0_codeNumber c_p0_codeNumber b_p0_codeNumber p0_laws c_p0_laws b_p0_laws p0_pile c_p0_pile y_p0_pile p0_rFrom c_p0_rFrom b_p0_rFrom p0_rTo c_p0_rTo b_p0_rTo)
theorem zm_r_rub {p0 : Nat} {f_p0 : List Value} {p0_bLong : Nat} {c_p0_bLong : ClassId} {b_p0_bLong : Nat → Int32} {p0_bTight : Nat} {c_p0_bTight : ClassId} {b_p0_bTight : Nat → Int32} {p0_code : Nat} {c_p0_code : ClassId} {b_p0_code : Nat → Int32} {p0_codeNumber : Nat} {c_p0_codeNumber : ClassId} {b_p0_codeNumber : Nat → Int32} {p0_laws : Nat} {c_p0_laws : ClassId} {b_p0_laws : Nat → Int32} {p0_pile : Nat} {c_p0_pile : ClassId} {b_p0_pile : Nat → Int32} {p0_rFrom : Nat} {c_p0_rFrom : ClassId} {b_p0_rFrom : Nat → Int32} {p0_rTo : Nat} {c_p0_rTo : ClassId} {b_p0_rTo : Nat → Int32} {a1 : Int32} {a2 : Int32} {bk : Int32} : ∀ (r : Int32), ∀ X Y : va_W → Prop, (∀ w, X w → Y w) → zG_r_rub p0 f_p0 p0_bLong c_p0_bLong b_p0_bLong p0_bTight c_p0_bTight b_p0_bTight p0_code c_p0_code b_p0_code p0_codeNumber c_p0_codeNumber b_p0_codeNumber p0_laws c_p0_laws b_p0_laws p0_pile c_p0_pile b_p0_pile p0_rFrom c_p0_rFrom b_p0_rFrom p0_rTo c_p0_rTo b_p0_rTo a1 a2 bk r X → zG_r_rub p0 f_p0 p0_bLong c_p0_bLong b_p0_bLong p0_bTight c_p0_bTight b_p0_bTight p0_code c_p0_code b_p0_code p0_codeNumber c_p0_codeNumber b_p0_codeNumber p0_laws c_p0_laws b_p0_laws p0_pile c_p0_pile b_p0_pile p0_rFrom c_p0_rFrom b_p0_rFrom p0_rTo c_p0_rTo b_p0_rTo a1 a2 bk r Y := fun r X Y h h1 => by obtain ⟨x0, hx⟩ := h1; exact ⟨x0, h _ hx⟩
set_option maxHeartbeats 4000000 in
set_option maxRecDepth 100000 in
theorem r_rub (l : Launch) (dC : Nat → ClassId) (dI : Nat → Nat → Nat) (sz : Nat) (p0 : Nat) (f_p0 : List Value) (p0_bLong : Nat) (c_p0_bLong : ClassId) (b_p0_bLong : Nat → Int32) (p0_bTight : Nat) (c_p0_bTight : ClassId) (b_p0_bTight : Nat → Int32) (p0_code : Nat) (c_p0_code : ClassId) (b_p0_code : Nat → Int32) (p0_codeNumber : Nat) (c_p0_codeNumber : ClassId) (b_p0_codeNumber : Nat → Int32) (p0_laws : Nat) (c_p0_laws : ClassId) (b_p0_laws : Nat → Int32) (p0_pile : Nat) (c_p0_pile : ClassId) (b_p0_pile : Nat → Int32) (p0_rFrom : Nat) (c_p0_rFrom : ClassId) (b_p0_rFrom : Nat → Int32) (p0_rTo : Nat) (c_p0_rTo : ClassId) (b_p0_rTo : Nat → Int32) (a1 : Int32) (a2 : Int32) (bk : Int32) (ho_p0 : OKX9 f_p0) (fr_p0_14 : q_rf f_p0 14 p0_laws) (fr_p0_36 : q_rf f_p0 36 p0_rFrom) (fr_p0_37 : q_rf f_p0 37 p0_rTo) (fr_p0_38 : q_rf f_p0 38 p0_code) (fr_p0_39 : q_rf f_p0 39 p0_codeNumber) (fr_p0_42 : q_rf f_p0 42 p0_pile) (fr_p0_49 : q_rf f_p0 49 p0_bTight) (fr_p0_50 : q_rf f_p0 50 p0_bLong) (hr_p0_laws : q_rg 2 (0) 3 b_p0_laws) (hr_p0_rFrom : q_rg 12 (0) 1800 b_p0_rFrom) (hr_p0_rTo : q_rg 12 (0) 1800 b_p0_rTo) (pf_bk : q_if f_p0 43 bk) (ta2 : (0) ≤ a2.toInt ∧ a2.toInt ≤ 11) (hLB : q_LB bk b_p0_laws b_p0_rFrom b_p0_rTo b_p0_code) (hl : 0 ≤ a1.toInt ∧ ((b_p0_laws bk.toNatClampNeg).toInt = 0 ∨ a1.toInt < (b_p0_laws bk.toNatClampNeg).toInt)) : Met l yX9_rub zw_r_rub ({ frames := 3, cells := 0, slots := 0, locals := 69 }) (va_Pc [.ref p0, .int a1, .int a2] (q_pre (dC, dI) (zW_r_rub p0 f_p0 p0_bLong c_p0_bLong b_p0_bLong p0_bTight c_p0_bTight b_p0_bTight p0_code c_p0_code b_p0_code p0_codeNumber c_p0_codeNumber b_p0_codeNumber p0_laws c_p0_laws b_p0_laws p0_pile c_p0_pile b_p0_pile p0_rFrom c_p0_rFrom b_p0_rFrom p0_rTo c_p0_rTo b_p0_rTo) (zT_r_rub c_p0_bLong c_p0_bTight c_p0_code c_p0_codeNumber c_p0_laws c_p0_pile c_p0_rFrom c_p0_rTo) q_E0 sz)) (q_Qi (dC, dI) (zG_r_rub p0 f_p0 p0_bLong c_p0_bLong b_p0_bLong p0_bTight c_p0_bTight b_p0_bTight p0_code c_p0_code b_p0_code p0_codeNumber c_p0_codeNumber b_p0_codeNumber p0_laws c_p0_laws b_p0_laws p0_pile c_p0_pile b_p0_pile p0_rFrom c_p0_rFrom b_p0_rFrom p0_rTo c_p0_rTo b_p0_rTo a1 a2 bk) (zA_r_rub p0 p0_bLong p0_bTight p0_code p0_codeNumber p0_laws p0_pile p0_rFrom p0_rTo) (va_A (zW_r_rub p0 f_p0 p0_bLong c_p0_bLong b_p0_bLong p0_bTight c_p0_bTight b_p0_bTight p0_code c_p0_code b_p0_code p0_codeNumber c_p0_codeNumber b_p0_codeNumber p0_laws c_p0_laws b_p0_laws p0_pile c_p0_pile b_p0_pile p0_rFrom c_p0_rFrom b_p0_rFrom p0_rTo c_p0_rTo b_p0_rTo) sz)) 0 0 (va_A (zW_r_rub p0 f_p0 p0_bLong c_p0_bLong b_p0_bLong p0_bTight c_p0_bTight b_p0_bTight p0_code c_p0_code b_p0_code p0_codeNumber c_p0_codeNumber b_p0_codeNumber p0_laws c_p0_laws b_p0_laws p0_pile c_p0_pile b_p0_pile p0_rFrom c_p0_rFrom b_p0_rFrom p0_rTo c_p0_rTo b_p0_rTo) sz) := by
  refine Met.ofW (cc := cX9_rub) (maxL := 3) (ret := (some .int)) (by decide) rfl ?_
  intro p e s m args below meth c s₁ B hml hv
  obtain ⟨rfl, hsz, hP, hK, hD0, hE⟩ := hv
  have hx := B.exec
  have hb := B.bytes
  have hr := B.returns
  have hts := atoms_spec (ws := zw_r_rub) B.pre
  have hown : s.vm.findClass RX9 = some m.cls := findClass_of_methodNamed B.named
  have hlocks := B.notSynchronized
  subst hsz
  have hD := hD0.self (sz := s.heap.size)
  generalize hAe : va_A (zW_r_rub p0 f_p0 p0_bLong c_p0_bLong b_p0_bLong p0_bTight c_p0_bTight b_p0_bTight p0_code c_p0_code b_p0_code p0_codeNumber c_p0_codeNumber b_p0_codeNumber p0_laws c_p0_laws b_p0_laws p0_pile c_p0_pile b_p0_pile p0_rFrom c_p0_rFrom b_p0_rFrom p0_rTo c_p0_rTo b_p0_rTo) s.heap.size = A at hD hE ⊢
  have hA : ∀ q : Nat, s.heap.size ≤ q → A q := fun q h => by rw [← hAe]; exact Or.inr h
  have hDa : q_DA A (zA_r_rub p0 p0_bLong p0_bTight p0_code p0_codeNumber p0_laws p0_pile p0_rFrom p0_rTo) := q_DA.mk hD za_r_rub
  clear hAe hD0 hD
  have hS : va_S A s.heap s.heap [] := va_S.rf
  have m_0 : (.fieldLink RX9 30 "BowWalkModel" "laws" "[I" : Cond) ∈ zw_r_rub := List.mem_append_left _ (List.mem_of_getElem? (i := 1) rfl)
  have k_0 := hts _ m_0
  have m_1 : (.fieldLink RX9 291 "BowWalkModel" "bank" "I" : Cond) ∈ zw_r_rub := List.mem_append_left _ (List.mem_of_getElem? (i := 2) rfl)
  have k_1 := hts _ m_1
  have m_2 : (.methodLink RX9 406 yX9_comes : Cond) ∈ zw_r_rub := List.mem_append_left _ (List.mem_of_getElem? (i := 3) rfl)
  have k_2 := hts _ m_2
  have m_3 : (.instanceMethod yX9_comes : Cond) ∈ zw_r_rub := List.mem_append_left _ (List.mem_of_getElem? (i := 4) rfl)
  have k_3 := hts _ m_3
  have m_4 : (.selects RX9 yX9_comes yX9_comes : Cond) ∈ zw_r_rub := List.mem_append_left _ (List.mem_of_getElem? (i := 5) rfl)
  have k_4 := hts _ m_4
  have m_5 : (.initialized RX9 : Cond) ∈ zw_r_rub := List.mem_append_left _ (List.mem_of_getElem? (i := 6) rfl)
  have k_5 := hts _ m_5
  have m_6 : (.fieldLink RX9 119 "BowWalkModel" "bTight" "[I" : Cond) ∈ zw_r_rub := List.mem_append_left _ (List.mem_of_getElem? (i := 7) rfl)
  have k_6 := hts _ m_6
  have m_7 : (.fieldLink RX9 376 "BowWalkModel" "nowStrike" "I" : Cond) ∈ zw_r_rub := List.mem_append_left _ (List.mem_of_getElem? (i := 8) rfl)
  have k_7 := hts _ m_7
  have m_8 : (.fieldLink RX9 370 "BowWalkModel" "bSmooth" "I" : Cond) ∈ zw_r_rub := List.mem_append_left _ (List.mem_of_getElem? (i := 9) rfl)
  have k_8 := hts _ m_8
  have g_r_comes : ∀ w ∈ zw_r_comes, w ∈ zw_r_rub := fun w h => List.mem_append_right _ (List.mem_append_left _ h)
  have i_X9 : ∀ w ∈ u_ws RX9 TX9 81, w ∈ zw_r_rub := fun w h => List.mem_append_right _ (List.mem_append_right _ (List.mem_append_left _ h))
  have lt_0 : (0 : Int32).toInt = 0 := by decide
  have lt_2 : (2 : Int32).toInt = 2 := by decide
  have lt_3 : (3 : Int32).toInt = 3 := by decide
  have hl := lv_entry ([.ref p0, .int a1, .int a2]) (n := 3) (Nat.le_of_ble_eq_true rfl)
  rw [lg_entry_eq]
  generalize (lg_sl ([.ref p0, .int a1, .int a2]) ++ List.replicate (3 - (lg_sl ([.ref p0, .int a1, .int a2])).length) Slot.unset).toArray = ls at hl ⊢
  have hl : lv_has ls 3 [(0, .ref p0), (1, .int a1), (2, .int a2)] := hl
  have tbk := (OKX9_g43 ho_p0).use pf_bk
  have hlb := hr_p0_laws bk.toNatClampNeg (q_cl (q_in (by omega) (by omega)))
  refine lv_aload_n hx hb dX9_rub_0 rfl (lv_at hl 0 rfl) (qg_X9_14 hx hb hts i_X9 hown hK hP 0 rfl k_0 fr_p0_14 dX9_rub_1 (lv_aload_n hx hb dX9_rub_4 rfl (lv_at hl 0 rfl) (qg_X9_43 hx hb hts i_X9 hown hK hP 0 rfl k_1 pf_bk dX9_rub_5 (q_ild hx hb hK hP 5 4 rfl rfl (q_in (by omega) (by omega)) dX9_rub_8 (fun v_1 ev_1 => ?_)))))
  have uv_1 : v_1.toInt = (b_p0_laws bk.toNatClampNeg).toInt := by rw [ev_1]
  have tv_1 := q_rd' hr_p0_laws (q_in (by omega) (by omega)) ev_1
  refine lv_if_ne (tgt := 31) hx hb dX9_rub_9 (by decide) (fun c_2 => ?_) (fun c_2 => ?_)
  · have tc_2 := q_ne c_2
    refine lv_aload_n hx hb dX9_rub_31 rfl (lv_at hl 0 rfl) (lv_iconst (v := 2) hx hb dX9_rub_32 (by decide) (lv_iconst (v := 3) hx hb dX9_rub_33 (by decide) (lv_aload_n hx hb dX9_rub_34 rfl (lv_at hl 0 rfl) (qg_X9_43 hx hb hts i_X9 hown hK hP 0 rfl k_1 pf_bk dX9_rub_35 (lv_imul hx hb dX9_rub_38 (lv_topi fun v_3 ev_3 => ?_))))))
    have tv_3 := q_mulc (c := 3) ev_3 (by decide) (by omega) (by omega)
    refine lv_iload_n hx hb dX9_rub_39 rfl (lv_at hl 1 rfl) (lv_iadd hx hb dX9_rub_40 (lv_topi fun v_4 ev_4 => ?_))
    have tv_4 := q_add ev_4 (by omega) (by omega)
    refine lv_imul hx hb dX9_rub_41 (lv_topi fun v_5 ev_5 => ?_)
    have tv_5 := q_mulc (c := 2) ev_5 (by decide) (by omega) (by omega)
    refine lv_iload_n hx hb dX9_rub_42 rfl (lv_at hl 2 rfl) ?_
    refine q_cVi (As := [.int v_5, .int a2]) (rest := []) q_w0 trivial hK hP hDa za_r_rub hS hA [0, 1, 2, 3, 4, 5, 6, 7, 8] [0, 1, 2, 3, 4, 5, 6, 7] (by decide +kernel) ⟨hx, hb, hml, hown, hts⟩ (r_comes l dC dI s.heap.size p0 f_p0 p0_bLong c_p0_bLong b_p0_bLong p0_bTight c_p0_bTight b_p0_bTight p0_code c_p0_code b_p0_code p0_codeNumber c_p0_codeNumber b_p0_codeNumber p0_laws c_p0_laws b_p0_laws p0_pile c_p0_pile b_p0_pile p0_rFrom c_p0_rFrom b_p0_rFrom p0_rTo c_p0_rTo b_p0_rTo v_5 a2 bk ho_p0 fr_p0_14 fr_p0_36 fr_p0_37 fr_p0_38 fr_p0_39 fr_p0_42 fr_p0_49 fr_p0_50 hr_p0_laws hr_p0_rFrom hr_p0_rTo pf_bk ((by omega)) ((by omega)) hLB ((hLB.at (a := a1) (by omega) (by omega) (by omega) (by omega)))) rfl rfl (cwV 2 hts (p1_gV m_2 m_3 m_4 m_5 g_r_comes gz_r_comes) rfl rfl rfl (by decide +kernel) ⟨by decide, by decide⟩) (va_recv hK hP (ci := 8) (q0 := 0) rfl rfl) zm_r_comes rfl hl.1 rfl (Nat.le_of_ble_eq_true rfl) dX9_rub_43 ⟨by decide, by decide⟩ (fun r_6 H7 lo7 hG7 hS7 => ?_)
    obtain ⟨o_8, hQ7⟩ := hG7
    have hP7 : va_P (dC, dI) vwCl (zW_r_rub p0 f_p0 p0_bLong c_p0_bLong b_p0_bLong p0_bTight c_p0_bTight b_p0_bTight p0_code c_p0_code b_p0_code p0_codeNumber c_p0_codeNumber b_p0_codeNumber p0_laws c_p0_laws b_p0_laws p0_pile c_p0_pile o_8 p0_rFrom c_p0_rFrom b_p0_rFrom p0_rTo c_p0_rTo b_p0_rTo) H7 := hQ7
    clear hQ7 hP hS
    exact q_iret hx hb hr hlocks hS7 dX9_rub_46 ⟨o_8, hP7, za_r_rub⟩
  · have tc_2 := q_eqN c_2
    refine lv_aload_n hx hb dX9_rub_12 rfl (lv_at hl 0 rfl) (qg_X9_49 hx hb hts i_X9 hown hK hP 0 rfl k_6 fr_p0_49 dX9_rub_13 (lv_iload_n hx hb dX9_rub_16 rfl (lv_at hl 2 rfl) (q_ild hx hb hK hP 2 1 rfl rfl (q_in (by omega) (by omega)) dX9_rub_17 (fun v_9 ev_9 => ?_))))
    refine lv_aload_n hx hb dX9_rub_18 rfl (lv_at hl 0 rfl) ?_
    obtain ⟨v_10, fv_10⟩ := OKX9_g56 ho_p0
    refine qg_X9_56 hx hb hts i_X9 hown hK hP 0 rfl k_7 fv_10 dX9_rub_19 (lv_isub hx hb dX9_rub_22 (lv_topi fun v_11 ev_11 => lv_aload_n hx hb dX9_rub_23 rfl (lv_at hl 0 rfl) ?_))
    obtain ⟨v_12, fv_12⟩ := OKX9_g54 ho_p0
    refine qg_X9_54 hx hb hts i_X9 hown hK hP 0 rfl k_8 fv_12 dX9_rub_24 (lv_isub hx hb dX9_rub_27 (lv_topi fun v_13 ev_13 => lv_goto (tgt := 46) hx hb dX9_rub_28 (by decide) ?_))
    exact q_iret hx hb hr hlocks hS dX9_rub_46 ⟨b_p0_pile, hP, za_r_rub⟩
def zo_r_pullOf : List Cond := [.code yX9_pullOf cX9_pullOf 3 (some .int), .fieldLink RX9 30 "BowWalkModel" "laws" "[I", .fieldLink RX9 291 "BowWalkModel" "bank" "I", .methodLink RX9 406 yX9_comes, .instanceMethod yX9_comes, .selects RX9 yX9_comes yX9_comes, .initialized RX9, .fieldLink RX9 373 "BowWalkModel" "bWeight" "I", .fieldLink RX9 122 "BowWalkModel" "bLong" "[I", .methodLink RX9 367 yX9_sideOf, .instanceMethod yX9_sideOf, .selects RX9 yX9_sideOf yX9_sideOf, .fieldLink RX9 379 "BowWalkModel" "nowSwing" "I"]
def zw_r_pullOf : List Cond := zo_r_pullOf ++ (zw_r_comes ++ (zw_r_sideOf ++ (wsX90 ++ [])))
theorem gz_r_pullOf : zw_r_pullOf.all goodWord = true := p1_ga (by decide +kernel) (p1_ga gz_r_comes (p1_ga gz_r_sideOf (p1_ga gk_X9 p1_g0)))
theorem iz_r_pullOf : ∀ w ∈ zw_r_pullOf, w ∈ lw_tbl := p1_ia (p1_all [1480, 1051, 1080, 1485, 1487, 81, 116, 1092, 1087, 1481, 1483, 80, 1094] (by decide +kernel)) (p1_ia iz_r_comes (p1_ia iz_r_sideOf (p1_ia ik_X9 p1_i0)))
def zW_r_pullOf (p0 : Nat) (f_p0 : List Value) (p0_bLong : Nat) (c_p0_bLong : ClassId) (b_p0_bLong : Nat → Int32) (p0_bTight : Nat) (c_p0_bTight : ClassId) (b_p0_bTight : Nat → Int32) (p0_code : Nat) (c_p0_code : ClassId) (b_p0_code : Nat → Int32) (p0_codeNumber : Nat) (c_p0_codeNumber : ClassId) (b_p0_codeNumber : Nat → Int32) (p0_laws : Nat) (c_p0_laws : ClassId) (b_p0_laws : Nat → Int32) (p0_pile : Nat) (c_p0_pile : ClassId) (b_p0_pile : Nat → Int32) (p0_rFrom : Nat) (c_p0_rFrom : ClassId) (b_p0_rFrom : Nat → Int32) (p0_rTo : Nat) (c_p0_rTo : ClassId) (b_p0_rTo : Nat → Int32) : va_W := [(p0, .inr (8, f_p0)), (p0_bLong, .inl (c_p0_bLong, 2, .inl b_p0_bLong)), (p0_bTight, .inl (c_p0_bTight, 12, .inl b_p0_bTight)), (p0_code, .inl (c_p0_code, 1800, .inl b_p0_code)), (p0_codeNumber, .inl (c_p0_codeNumber, 1800, .inl b_p0_codeNumber)), (p0_laws, .inl (c_p0_laws, 2, .inl b_p0_laws)), (p0_pile, .inl (c_p0_pile, 90, .inl b_p0_pile)), (p0_rFrom, .inl (c_p0_rFrom, 12, .inl b_p0_rFrom)), (p0_rTo, .inl (c_p0_rTo, 12, .inl b_p0_rTo))]
def zT_r_pullOf (c_p0_bLong : ClassId) (c_p0_bTight : ClassId) (c_p0_code : ClassId) (c_p0_codeNumber : ClassId) (c_p0_laws : ClassId) (c_p0_pile : ClassId) (c_p0_rFrom : ClassId) (c_p0_rTo : ClassId) : List (ClassId × FieldType) := [(c_p0_bLong, .int), (c_p0_bTight, .int), (c_p0_code, .int), (c_p0_codeNumber, .int), (c_p0_laws, .int), (c_p0_pile, .int), (c_p0_rFrom, .int), (c_p0_rTo, .int)]
def zA_r_pullOf (p0 : Nat) (p0_bLong : Nat) (p0_bTight : Nat) (p0_code : Nat) (p0_codeNumber : Nat) (p0_laws : Nat) (p0_pile : Nat) (p0_rFrom : Nat) (p0_rTo : Nat) : List Nat := [p0, p0_bLong, p0_bTight, p0_code, p0_codeNumber, p0_laws, p0_pile, p0_rFrom, p0_rTo]
theorem za_r_pullOf {p0 : Nat} {f_p0 : List Value} {p0_bLong : Nat} {c_p0_bLong : ClassId} {b_p0_bLong : Nat → Int32} {p0_bTight : Nat} {c_p0_bTight : ClassId} {b_p0_bTight : Nat → Int32} {p0_code : Nat} {c_p0_code : ClassId} {b_p0_code : Nat → Int32} {p0_codeNumber : Nat} {c_p0_codeNumber : ClassId} {b_p0_codeNumber : Nat → Int32} {p0_laws : Nat} {c_p0_laws : ClassId} {b_p0_laws : Nat → Int32} {p0_pile : Nat} {c_p0_pile : ClassId} {b_p0_pile : Nat → Int32} {p0_rFrom : Nat} {c_p0_rFrom : ClassId} {b_p0_rFrom : Nat → Int32} {p0_rTo : Nat} {c_p0_rTo : ClassId} {b_p0_rTo : Nat → Int32} : (zW_r_pullOf p0 f_p0 p0_bLong c_p0_bLong b_p0_bLong p0_bTight c_p0_bTight b_p0_bTight p0_code c_p0_code b_p0_code p0_codeNumber c_p0_codeNumber b_p0_codeNumber p0_laws c_p0_laws b_p0_laws p0_pile c_p0_pile b_p0_pile p0_rFrom c_p0_rFrom b_p0_rFrom p0_rTo c_p0_rTo b_p0_rTo).map Prod.fst = (zA_r_pullOf p0 p0_bLong p0_bTight p0_code p0_codeNumber p0_laws p0_pile p0_rFrom p0_rTo) := rfl
def zG_r_pullOf (p0 : Nat) (f_p0 : List Value) (p0_bLong : Nat) (c_p0_bLong : ClassId) (b_p0_bLong : Nat → Int32) (p0_bTight : Nat) (c_p0_bTight : ClassId) (b_p0_bTight : Nat → Int32) (p0_code : Nat) (c_p0_code : ClassId) (b_p0_code : Nat → Int32) (p0_codeNumber : Nat) (c_p0_codeNumber : ClassId) (b_p0_codeNumber : Nat → Int32) (p0_laws : Nat) (c_p0_laws : ClassId) (b_p0_laws : Nat → Int32) (p0_pile : Nat) (c_p0_pile : ClassId) (b_p0_pile : Nat → Int32) (p0_rFrom : Nat) (c_p0_rFrom : ClassId) (b_p0_rFrom : Nat → Int32) (p0_rTo : Nat) (c_p0_rTo : ClassId) (b_p0_rTo : Nat → Int32) (a1 : Int32) (a2 : Int32) (bk : Int32) (r : Int32) (X : va_W → Prop) : Prop := ∃ (y_p0_pile : Nat → Int32), X (zW_r_pullOf p0 f_p0 p0_bLong c_p0_bLong b_p0_bLong p0_bTight c_p0_bTight b_p0_bTight p0_code c_p0_code b_p0_code p0_codeNumber c_p0_codeNumber b_p0_codeNumber p0_laws c_p0_laws b_p0_laws p0_pile c_p0_pile y_p0_pile p0_rFrom c_p0_rFrom b_p0_rFrom p0_rTo c_p0_rTo b_p0_rTo)
theorem zm_r_pullOf {p0 : Nat} {f_p0 : List Value} {p0_bLong : Nat} {c_p0_bLong : ClassId} {b_p0_bLong : Nat → Int32} {p0_bTight : Nat} {c_p0_bTight : ClassId} {b_p0_bTight : Nat → Int32} {p0_code : Nat} {c_p0_code : ClassId} {b_p0_code : Nat → Int32} {p0_codeNumber : Nat} {c_p0_codeNumber : ClassId} {b_p0_codeNumber : Nat → Int32} {p0_laws : Nat} {c_p0_laws : ClassId} {b_p0_laws : Nat → Int32} {p0_pile : Nat} {c_p0_pile : ClassId} {b_p0_pile : Nat → Int32} {p0_rFrom : Nat} {c_p0_rFrom : ClassId} {b_p0_rFrom : Nat → Int32} {p0_rTo : Nat} {c_p0_rTo : ClassId} {b_p0_rTo : Nat → Int32} {a1 : Int32} {a2 : Int32} {bk : Int32} : ∀ (r : Int32), ∀ X Y : va_W → Prop, (∀ w, X w → Y w) → zG_r_pullOf p0 f_p0 p0_bLong c_p0_bLong b_p0_bLong p0_bTight c_p0_bTight b_p0_bTight p0_code c_p0_code b_p0_code p0_codeNumber c_p0_codeNumber b_p0_codeNumber p0_laws c_p0_laws b_p0_laws p0_pile c_p0_pile b_p0_pile p0_rFrom c_p0_rFrom b_p0_rFrom p0_rTo c_p0_rTo b_p0_rTo a1 a2 bk r X → zG_r_pullOf p0 f_p0 p0_bLong c_p0_bLong b_p0_bLong p0_bTight c_p0_bTight b_p0_bTight p0_code c_p0_code b_p0_code p0_codeNumber c_p0_codeNumber b_p0_codeNumber p0_laws c_p0_laws b_p0_laws p0_pile c_p0_pile b_p0_pile p0_rFrom c_p0_rFrom b_p0_rFrom p0_rTo c_p0_rTo b_p0_rTo a1 a2 bk r Y := fun r X Y h h1 => by obtain ⟨x0, hx⟩ := h1; exact ⟨x0, h _ hx⟩
set_option maxHeartbeats 4000000 in
set_option maxRecDepth 100000 in
theorem r_pullOf (l : Launch) (dC : Nat → ClassId) (dI : Nat → Nat → Nat) (sz : Nat) (p0 : Nat) (f_p0 : List Value) (p0_bLong : Nat) (c_p0_bLong : ClassId) (b_p0_bLong : Nat → Int32) (p0_bTight : Nat) (c_p0_bTight : ClassId) (b_p0_bTight : Nat → Int32) (p0_code : Nat) (c_p0_code : ClassId) (b_p0_code : Nat → Int32) (p0_codeNumber : Nat) (c_p0_codeNumber : ClassId) (b_p0_codeNumber : Nat → Int32) (p0_laws : Nat) (c_p0_laws : ClassId) (b_p0_laws : Nat → Int32) (p0_pile : Nat) (c_p0_pile : ClassId) (b_p0_pile : Nat → Int32) (p0_rFrom : Nat) (c_p0_rFrom : ClassId) (b_p0_rFrom : Nat → Int32) (p0_rTo : Nat) (c_p0_rTo : ClassId) (b_p0_rTo : Nat → Int32) (a1 : Int32) (a2 : Int32) (bk : Int32) (ho_p0 : OKX9 f_p0) (fr_p0_14 : q_rf f_p0 14 p0_laws) (fr_p0_36 : q_rf f_p0 36 p0_rFrom) (fr_p0_37 : q_rf f_p0 37 p0_rTo) (fr_p0_38 : q_rf f_p0 38 p0_code) (fr_p0_39 : q_rf f_p0 39 p0_codeNumber) (fr_p0_42 : q_rf f_p0 42 p0_pile) (fr_p0_49 : q_rf f_p0 49 p0_bTight) (fr_p0_50 : q_rf f_p0 50 p0_bLong) (hr_p0_laws : q_rg 2 (0) 3 b_p0_laws) (hr_p0_rFrom : q_rg 12 (0) 1800 b_p0_rFrom) (hr_p0_rTo : q_rg 12 (0) 1800 b_p0_rTo) (pf_bk : q_if f_p0 43 bk) (ta2 : (0) ≤ a2.toInt ∧ a2.toInt ≤ 11) (hLB : q_LB bk b_p0_laws b_p0_rFrom b_p0_rTo b_p0_code) (hl : 0 ≤ a1.toInt ∧ ((b_p0_laws bk.toNatClampNeg).toInt = 0 ∨ a1.toInt < (b_p0_laws bk.toNatClampNeg).toInt)) : Met l yX9_pullOf zw_r_pullOf ({ frames := 3, cells := 0, slots := 0, locals := 69 }) (va_Pc [.ref p0, .int a1, .int a2] (q_pre (dC, dI) (zW_r_pullOf p0 f_p0 p0_bLong c_p0_bLong b_p0_bLong p0_bTight c_p0_bTight b_p0_bTight p0_code c_p0_code b_p0_code p0_codeNumber c_p0_codeNumber b_p0_codeNumber p0_laws c_p0_laws b_p0_laws p0_pile c_p0_pile b_p0_pile p0_rFrom c_p0_rFrom b_p0_rFrom p0_rTo c_p0_rTo b_p0_rTo) (zT_r_pullOf c_p0_bLong c_p0_bTight c_p0_code c_p0_codeNumber c_p0_laws c_p0_pile c_p0_rFrom c_p0_rTo) q_E0 sz)) (q_Qi (dC, dI) (zG_r_pullOf p0 f_p0 p0_bLong c_p0_bLong b_p0_bLong p0_bTight c_p0_bTight b_p0_bTight p0_code c_p0_code b_p0_code p0_codeNumber c_p0_codeNumber b_p0_codeNumber p0_laws c_p0_laws b_p0_laws p0_pile c_p0_pile b_p0_pile p0_rFrom c_p0_rFrom b_p0_rFrom p0_rTo c_p0_rTo b_p0_rTo a1 a2 bk) (zA_r_pullOf p0 p0_bLong p0_bTight p0_code p0_codeNumber p0_laws p0_pile p0_rFrom p0_rTo) (va_A (zW_r_pullOf p0 f_p0 p0_bLong c_p0_bLong b_p0_bLong p0_bTight c_p0_bTight b_p0_bTight p0_code c_p0_code b_p0_code p0_codeNumber c_p0_codeNumber b_p0_codeNumber p0_laws c_p0_laws b_p0_laws p0_pile c_p0_pile b_p0_pile p0_rFrom c_p0_rFrom b_p0_rFrom p0_rTo c_p0_rTo b_p0_rTo) sz)) 0 0 (va_A (zW_r_pullOf p0 f_p0 p0_bLong c_p0_bLong b_p0_bLong p0_bTight c_p0_bTight b_p0_bTight p0_code c_p0_code b_p0_code p0_codeNumber c_p0_codeNumber b_p0_codeNumber p0_laws c_p0_laws b_p0_laws p0_pile c_p0_pile b_p0_pile p0_rFrom c_p0_rFrom b_p0_rFrom p0_rTo c_p0_rTo b_p0_rTo) sz) := by
  refine Met.ofW (cc := cX9_pullOf) (maxL := 3) (ret := (some .int)) (by decide) rfl ?_
  intro p e s m args below meth c s₁ B hml hv
  obtain ⟨rfl, hsz, hP, hK, hD0, hE⟩ := hv
  have hx := B.exec
  have hb := B.bytes
  have hr := B.returns
  have hts := atoms_spec (ws := zw_r_pullOf) B.pre
  have hown : s.vm.findClass RX9 = some m.cls := findClass_of_methodNamed B.named
  have hlocks := B.notSynchronized
  subst hsz
  have hD := hD0.self (sz := s.heap.size)
  generalize hAe : va_A (zW_r_pullOf p0 f_p0 p0_bLong c_p0_bLong b_p0_bLong p0_bTight c_p0_bTight b_p0_bTight p0_code c_p0_code b_p0_code p0_codeNumber c_p0_codeNumber b_p0_codeNumber p0_laws c_p0_laws b_p0_laws p0_pile c_p0_pile b_p0_pile p0_rFrom c_p0_rFrom b_p0_rFrom p0_rTo c_p0_rTo b_p0_rTo) s.heap.size = A at hD hE ⊢
  have hA : ∀ q : Nat, s.heap.size ≤ q → A q := fun q h => by rw [← hAe]; exact Or.inr h
  have hDa : q_DA A (zA_r_pullOf p0 p0_bLong p0_bTight p0_code p0_codeNumber p0_laws p0_pile p0_rFrom p0_rTo) := q_DA.mk hD za_r_pullOf
  clear hAe hD0 hD
  have hS : va_S A s.heap s.heap [] := va_S.rf
  have m_0 : (.fieldLink RX9 30 "BowWalkModel" "laws" "[I" : Cond) ∈ zw_r_pullOf := List.mem_append_left _ (List.mem_of_getElem? (i := 1) rfl)
  have k_0 := hts _ m_0
  have m_1 : (.fieldLink RX9 291 "BowWalkModel" "bank" "I" : Cond) ∈ zw_r_pullOf := List.mem_append_left _ (List.mem_of_getElem? (i := 2) rfl)
  have k_1 := hts _ m_1
  have m_2 : (.methodLink RX9 406 yX9_comes : Cond) ∈ zw_r_pullOf := List.mem_append_left _ (List.mem_of_getElem? (i := 3) rfl)
  have k_2 := hts _ m_2
  have m_3 : (.instanceMethod yX9_comes : Cond) ∈ zw_r_pullOf := List.mem_append_left _ (List.mem_of_getElem? (i := 4) rfl)
  have k_3 := hts _ m_3
  have m_4 : (.selects RX9 yX9_comes yX9_comes : Cond) ∈ zw_r_pullOf := List.mem_append_left _ (List.mem_of_getElem? (i := 5) rfl)
  have k_4 := hts _ m_4
  have m_5 : (.initialized RX9 : Cond) ∈ zw_r_pullOf := List.mem_append_left _ (List.mem_of_getElem? (i := 6) rfl)
  have k_5 := hts _ m_5
  have m_6 : (.fieldLink RX9 373 "BowWalkModel" "bWeight" "I" : Cond) ∈ zw_r_pullOf := List.mem_append_left _ (List.mem_of_getElem? (i := 7) rfl)
  have k_6 := hts _ m_6
  have m_7 : (.fieldLink RX9 122 "BowWalkModel" "bLong" "[I" : Cond) ∈ zw_r_pullOf := List.mem_append_left _ (List.mem_of_getElem? (i := 8) rfl)
  have k_7 := hts _ m_7
  have m_8 : (.methodLink RX9 367 yX9_sideOf : Cond) ∈ zw_r_pullOf := List.mem_append_left _ (List.mem_of_getElem? (i := 9) rfl)
  have k_8 := hts _ m_8
  have m_9 : (.instanceMethod yX9_sideOf : Cond) ∈ zw_r_pullOf := List.mem_append_left _ (List.mem_of_getElem? (i := 10) rfl)
  have k_9 := hts _ m_9
  have m_10 : (.selects RX9 yX9_sideOf yX9_sideOf : Cond) ∈ zw_r_pullOf := List.mem_append_left _ (List.mem_of_getElem? (i := 11) rfl)
  have k_10 := hts _ m_10
  have m_11 : (.fieldLink RX9 379 "BowWalkModel" "nowSwing" "I" : Cond) ∈ zw_r_pullOf := List.mem_append_left _ (List.mem_of_getElem? (i := 12) rfl)
  have k_11 := hts _ m_11
  have g_r_comes : ∀ w ∈ zw_r_comes, w ∈ zw_r_pullOf := fun w h => List.mem_append_right _ (List.mem_append_left _ h)
  have g_r_sideOf : ∀ w ∈ zw_r_sideOf, w ∈ zw_r_pullOf := fun w h => List.mem_append_right _ (List.mem_append_right _ (List.mem_append_left _ h))
  have i_X9 : ∀ w ∈ u_ws RX9 TX9 81, w ∈ zw_r_pullOf := fun w h => List.mem_append_right _ (List.mem_append_right _ (List.mem_append_right _ (List.mem_append_left _ h)))
  have lt_0 : (0 : Int32).toInt = 0 := by decide
  have lt_1 : (1 : Int32).toInt = 1 := by decide
  have lt_2 : (2 : Int32).toInt = 2 := by decide
  have lt_3 : (3 : Int32).toInt = 3 := by decide
  have lt_100 : (100 : Int32).toInt = 100 := by decide
  have hl := lv_entry ([.ref p0, .int a1, .int a2]) (n := 3) (Nat.le_of_ble_eq_true rfl)
  rw [lg_entry_eq]
  generalize (lg_sl ([.ref p0, .int a1, .int a2]) ++ List.replicate (3 - (lg_sl ([.ref p0, .int a1, .int a2])).length) Slot.unset).toArray = ls at hl ⊢
  have hl : lv_has ls 3 [(0, .ref p0), (1, .int a1), (2, .int a2)] := hl
  have tbk := (OKX9_g43 ho_p0).use pf_bk
  have hlb := hr_p0_laws bk.toNatClampNeg (q_cl (q_in (by omega) (by omega)))
  refine lv_aload_n hx hb dX9_pullOf_0 rfl (lv_at hl 0 rfl) (qg_X9_14 hx hb hts i_X9 hown hK hP 0 rfl k_0 fr_p0_14 dX9_pullOf_1 (lv_aload_n hx hb dX9_pullOf_4 rfl (lv_at hl 0 rfl) (qg_X9_43 hx hb hts i_X9 hown hK hP 0 rfl k_1 pf_bk dX9_pullOf_5 (q_ild hx hb hK hP 5 4 rfl rfl (q_in (by omega) (by omega)) dX9_pullOf_8 (fun v_1 ev_1 => ?_)))))
  have uv_1 : v_1.toInt = (b_p0_laws bk.toNatClampNeg).toInt := by rw [ev_1]
  have tv_1 := q_rd' hr_p0_laws (q_in (by omega) (by omega)) ev_1
  refine lv_if_ne (tgt := 38) hx hb dX9_pullOf_9 (by decide) (fun c_2 => ?_) (fun c_2 => ?_)
  · have tc_2 := q_ne c_2
    refine lv_aload_n hx hb dX9_pullOf_38 rfl (lv_at hl 0 rfl) (lv_iconst (v := 2) hx hb dX9_pullOf_39 (by decide) (lv_iconst (v := 3) hx hb dX9_pullOf_40 (by decide) (lv_aload_n hx hb dX9_pullOf_41 rfl (lv_at hl 0 rfl) (qg_X9_43 hx hb hts i_X9 hown hK hP 0 rfl k_1 pf_bk dX9_pullOf_42 (lv_imul hx hb dX9_pullOf_45 (lv_topi fun v_3 ev_3 => ?_))))))
    have tv_3 := q_mulc (c := 3) ev_3 (by decide) (by omega) (by omega)
    refine lv_iload_n hx hb dX9_pullOf_46 rfl (lv_at hl 1 rfl) (lv_iadd hx hb dX9_pullOf_47 (lv_topi fun v_4 ev_4 => ?_))
    have tv_4 := q_add ev_4 (by omega) (by omega)
    refine lv_imul hx hb dX9_pullOf_48 (lv_topi fun v_5 ev_5 => ?_)
    have tv_5 := q_mulc (c := 2) ev_5 (by decide) (by omega) (by omega)
    refine lv_iconst (v := 1) hx hb dX9_pullOf_49 (by decide) (lv_iadd hx hb dX9_pullOf_50 (lv_topi fun v_6 ev_6 => ?_))
    have tv_6 := q_add ev_6 (by omega) (by omega)
    refine lv_iload_n hx hb dX9_pullOf_51 rfl (lv_at hl 2 rfl) ?_
    refine q_cVi (As := [.int v_6, .int a2]) (rest := []) q_w0 trivial hK hP hDa za_r_pullOf hS hA [0, 1, 2, 3, 4, 5, 6, 7, 8] [0, 1, 2, 3, 4, 5, 6, 7] (by decide +kernel) ⟨hx, hb, hml, hown, hts⟩ (r_comes l dC dI s.heap.size p0 f_p0 p0_bLong c_p0_bLong b_p0_bLong p0_bTight c_p0_bTight b_p0_bTight p0_code c_p0_code b_p0_code p0_codeNumber c_p0_codeNumber b_p0_codeNumber p0_laws c_p0_laws b_p0_laws p0_pile c_p0_pile b_p0_pile p0_rFrom c_p0_rFrom b_p0_rFrom p0_rTo c_p0_rTo b_p0_rTo v_6 a2 bk ho_p0 fr_p0_14 fr_p0_36 fr_p0_37 fr_p0_38 fr_p0_39 fr_p0_42 fr_p0_49 fr_p0_50 hr_p0_laws hr_p0_rFrom hr_p0_rTo pf_bk ((by omega)) ((by omega)) hLB ((hLB.at (a := a1) (by omega) (by omega) (by omega) (by omega)))) rfl rfl (cwV 2 hts (p1_gV m_2 m_3 m_4 m_5 g_r_comes gz_r_comes) rfl rfl rfl (by decide +kernel) ⟨by decide, by decide⟩) (va_recv hK hP (ci := 8) (q0 := 0) rfl rfl) zm_r_comes rfl hl.1 rfl (Nat.le_of_ble_eq_true rfl) dX9_pullOf_52 ⟨by decide, by decide⟩ (fun r_7 H8 lo8 hG8 hS8 => ?_)
    obtain ⟨o_9, hQ8⟩ := hG8
    have hP8 : va_P (dC, dI) vwCl (zW_r_pullOf p0 f_p0 p0_bLong c_p0_bLong b_p0_bLong p0_bTight c_p0_bTight b_p0_bTight p0_code c_p0_code b_p0_code p0_codeNumber c_p0_codeNumber b_p0_codeNumber p0_laws c_p0_laws b_p0_laws p0_pile c_p0_pile o_9 p0_rFrom c_p0_rFrom b_p0_rFrom p0_rTo c_p0_rTo b_p0_rTo) H8 := hQ8
    clear hQ8 hP hS
    exact q_iret hx hb hr hlocks hS8 dX9_pullOf_55 ⟨o_9, hP8, za_r_pullOf⟩
  · have tc_2 := q_eqN c_2
    refine lv_aload_n hx hb dX9_pullOf_12 rfl (lv_at hl 0 rfl) ?_
    obtain ⟨v_10, fv_10⟩ := OKX9_g55 ho_p0
    refine qg_X9_55 hx hb hts i_X9 hown hK hP 0 rfl k_6 fv_10 dX9_pullOf_13 (lv_aload_n hx hb dX9_pullOf_16 rfl (lv_at hl 0 rfl) (qg_X9_50 hx hb hts i_X9 hown hK hP 0 rfl k_7 fr_p0_50 dX9_pullOf_17 (lv_aload_n hx hb dX9_pullOf_20 rfl (lv_at hl 0 rfl) (lv_iload_n hx hb dX9_pullOf_21 rfl (lv_at hl 2 rfl) ?_))))
    refine q_cVi (As := [.int a2]) (rest := [.ref p0_bLong, .int v_10]) q_w0 trivial hK hP hDa za_r_pullOf hS hA [0] [] (by decide +kernel) ⟨hx, hb, hml, hown, hts⟩ (r_sideOf l dC dI s.heap.size p0 f_p0 a2 ho_p0) rfl rfl (cwV 1 hts (p1_gV m_8 m_9 m_10 m_5 g_r_sideOf gz_r_sideOf) rfl rfl rfl (by decide +kernel) ⟨by decide, by decide⟩) (va_recv hK hP (ci := 8) (q0 := 0) rfl rfl) zm_r_sideOf rfl hl.1 rfl (Nat.le_of_ble_eq_true rfl) dX9_pullOf_22 ⟨by decide, by decide⟩ (fun r_11 H12 lo12 hG12 hS12 => ?_)
    obtain ⟨z_13, hQ12⟩ := hG12
    have hP12 : va_P (dC, dI) vwCl (zW_r_pullOf p0 f_p0 p0_bLong c_p0_bLong b_p0_bLong p0_bTight c_p0_bTight b_p0_bTight p0_code c_p0_code b_p0_code p0_codeNumber c_p0_codeNumber b_p0_codeNumber p0_laws c_p0_laws b_p0_laws p0_pile c_p0_pile b_p0_pile p0_rFrom c_p0_rFrom b_p0_rFrom p0_rTo c_p0_rTo b_p0_rTo) H12 := hQ12
    clear hQ12 hP hS
    refine q_ild hx hb hK hP12 1 0 rfl rfl (q_in (by omega) (by omega)) dX9_pullOf_25 (fun v_14 ev_14 => ?_)
    refine lv_aload_n hx hb dX9_pullOf_26 rfl (lv_at hl 0 rfl) ?_
    obtain ⟨v_15, fv_15⟩ := OKX9_g57 ho_p0
    refine qg_X9_57 hx hb hts i_X9 hown hK hP12 0 rfl k_11 fv_15 dX9_pullOf_27 (lv_imul hx hb dX9_pullOf_30 (lv_topi fun v_16 ev_16 => lv_bipush (v := 100) hx hb dX9_pullOf_31 (by decide) (lv_idiv hx hb dX9_pullOf_33 (by decide) (lv_topi fun v_17 ev_17 => lv_iadd hx hb dX9_pullOf_34 (lv_topi fun v_18 ev_18 => lv_goto (tgt := 55) hx hb dX9_pullOf_35 (by decide) ?_)))))
    exact q_iret hx hb hr hlocks hS12 dX9_pullOf_55 ⟨b_p0_pile, hP12, za_r_pullOf⟩
