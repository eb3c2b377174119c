def zo_t_within : List Cond := [.code yX8_within cX8_within 3 (some .boolean)]
def zw_t_within : List Cond := zo_t_within ++ []
theorem gz_t_within : zw_t_within.all goodWord = true := p1_ga (by decide +kernel) p1_g0
theorem iz_t_within : ∀ w ∈ zw_t_within, w ∈ lw_tbl := p1_ia (p1_all [751] (by decide +kernel)) p1_i0
def zW_t_within : va_W := []
def zT_t_within : List (ClassId × FieldType) := []
def zA_t_within : List Nat := []
theorem za_t_within : (zW_t_within).map Prod.fst = zA_t_within := rfl
def zG_t_within (a0 : Int32) (a1 : Int32) (a2 : Int32) (r : Int32) (X : va_W → Prop) : Prop := ((r = 1 ∧ (a1.toInt ≤ a0.toInt ∧ a0.toInt ≤ a2.toInt)) ∨ (r = 0 ∧ (a0.toInt < a1.toInt ∨ a2.toInt < a0.toInt))) ∧ X (zW_t_within)
theorem zm_t_within {a0 : Int32} {a1 : Int32} {a2 : Int32} : ∀ (r : Int32), ∀ X Y : va_W → Prop, (∀ w, X w → Y w) → zG_t_within a0 a1 a2 r X → zG_t_within a0 a1 a2 r Y := fun r X Y h h1 => by obtain ⟨x0, hx⟩ := h1; exact ⟨x0, h _ hx⟩
set_option maxHeartbeats 4000000 in
set_option maxRecDepth 100000 in
theorem t_within (l : Launch) (dC : Nat → ClassId) (dI : Nat → Nat → Nat) (sz : Nat) (a0 : Int32) (a1 : Int32) (a2 : Int32) : Met l yX8_within zw_t_within ({ frames := 0, cells := 0, slots := 0, locals := 0 }) (va_Pc [.int a0, .int a1, .int a2] (q_pre (dC, dI) (zW_t_within) (zT_t_within) q_E0 sz)) (q_Qi (dC, dI) (zG_t_within a0 a1 a2) zA_t_within (va_A (zW_t_within) sz)) 0 0 (va_A (zW_t_within) sz) := by
  refine Met.ofW (cc := cX8_within) (maxL := 3) (ret := (some .boolean)) (by decide) rfl ?_
  intro p e s m args below meth c s₁ B hml hv
  obtain ⟨rfl, hsz, hP, hK, hD0, hE⟩ := hv
  have hx := B.exec
  have hb := B.bytes
  have hr := B.returns
  have hts := atoms_spec (ws := zw_t_within) B.pre
  have hown : s.vm.findClass RX8 = some m.cls := findClass_of_methodNamed B.named
  have hlocks := B.notSynchronized
  subst hsz
  have hD := hD0.self (sz := s.heap.size)
  generalize hAe : va_A (zW_t_within) s.heap.size = A at hD hE ⊢
  have hA : ∀ q : Nat, s.heap.size ≤ q → A q := fun q h => by rw [← hAe]; exact Or.inr h
  have hDa : q_DA A zA_t_within := q_DA.mk hD za_t_within
  clear hAe hD0 hD
  have hS : va_S A s.heap s.heap [] := va_S.rf
  have lt_0 : (0 : Int32).toInt = 0 := by decide
  have lt_1 : (1 : Int32).toInt = 1 := by decide
  have hl := lv_entry ([.int a0, .int a1, .int a2]) (n := 3) (Nat.le_of_ble_eq_true rfl)
  rw [lg_entry_eq]
  generalize (lg_sl ([.int a0, .int a1, .int a2]) ++ List.replicate (3 - (lg_sl ([.int a0, .int a1, .int a2])).length) Slot.unset).toArray = ls at hl ⊢
  have hl : lv_has ls 3 [(0, .int a0), (1, .int a1), (2, .int a2)] := hl
  refine lv_iload_n hx hb dX8_within_0 rfl (lv_at hl 0 rfl) (lv_iload_n hx hb dX8_within_1 rfl (lv_at hl 1 rfl) ?_)
  refine lv_icmp_lt (tgt := 14) hx hb dX8_within_2 (by decide) (fun c_1 => ?_) (fun c_1 => ?_)
  · have tc_1 := q_lt c_1
    refine lv_iconst (v := 0) hx hb dX8_within_14 (by decide) ?_
    exact q_zret hx hb hr hlocks (by decide) hS dX8_within_15 ⟨(Or.inr ⟨rfl, by first | trivial | omega⟩), hP, za_t_within⟩
  · have tc_1 := q_geN c_1
    refine lv_iload_n hx hb dX8_within_5 rfl (lv_at hl 0 rfl) (lv_iload_n hx hb dX8_within_6 rfl (lv_at hl 2 rfl) ?_)
    refine lv_icmp_gt (tgt := 14) hx hb dX8_within_7 (by decide) (fun c_2 => ?_) (fun c_2 => ?_)
    · have tc_2 := q_gt c_2
      refine lv_iconst (v := 0) hx hb dX8_within_14 (by decide) ?_
      exact q_zret hx hb hr hlocks (by decide) hS dX8_within_15 ⟨(Or.inr ⟨rfl, by first | trivial | omega⟩), hP, za_t_within⟩
    · have tc_2 := q_leN c_2
      refine lv_iconst (v := 1) hx hb dX8_within_10 (by decide) (lv_goto (tgt := 15) hx hb dX8_within_11 (by decide) ?_)
      exact q_zret hx hb hr hlocks (by decide) hS dX8_within_15 ⟨(Or.inl ⟨rfl, by first | trivial | omega⟩), hP, za_t_within⟩
def zo_t_canWalkIn : List Cond := [.code yX8_canWalkIn cX8_canWalkIn 3 (some .boolean), .fieldLink RX8 60 "BowWalk" "shop" "LBowWalk$Shop;", .methodLink RX8 104 yX5_has, .instanceMethod yX5_has, .selects RX5 yX5_has yX5_has, .initialized RX5]
def zw_t_canWalkIn : List Cond := zo_t_canWalkIn ++ (zw_t_has1 ++ (zw_t_has2 ++ (wsX80 ++ [])))
theorem gz_t_canWalkIn : zw_t_canWalkIn.all goodWord = true := p1_ga (by decide +kernel) (p1_ga gz_t_has1 (p1_ga gz_t_has2 (p1_ga gk_X8 p1_g0)))
theorem iz_t_canWalkIn : ∀ w ∈ zw_t_canWalkIn, w ∈ lw_tbl := p1_ia (p1_all [817, 508, 714, 715, 716, 106] (by decide +kernel)) (p1_ia iz_t_has1 (p1_ia iz_t_has2 (p1_ia ik_X8 p1_i0)))
def zW_t_canWalkIn (p0 : Nat) (f_p0 : List Value) (p0_shop : Nat) (f_p0_shop : List Value) (p0_shop_count : Nat) (c_p0_shop_count : ClassId) (b_p0_shop_count : Nat → Int32) : va_W := [(p0, .inr (7, f_p0)), (p0_shop, .inr (5, f_p0_shop)), (p0_shop_count, .inl (c_p0_shop_count, 5, .inl b_p0_shop_count))]
def zT_t_canWalkIn (c_p0_shop_count : ClassId) : List (ClassId × FieldType) := [(c_p0_shop_count, .int)]
def zA_t_canWalkIn (p0 : Nat) (p0_shop : Nat) (p0_shop_count : Nat) : List Nat := [p0, p0_shop, p0_shop_count]
theorem za_t_canWalkIn {p0 : Nat} {f_p0 : List Value} {p0_shop : Nat} {f_p0_shop : List Value} {p0_shop_count : Nat} {c_p0_shop_count : ClassId} {b_p0_shop_count : Nat → Int32} : (zW_t_canWalkIn p0 f_p0 p0_shop f_p0_shop p0_shop_count c_p0_shop_count b_p0_shop_count).map Prod.fst = (zA_t_canWalkIn p0 p0_shop p0_shop_count) := rfl
def zG_t_canWalkIn (p0 : Nat) (f_p0 : List Value) (p0_shop : Nat) (f_p0_shop : List Value) (p0_shop_count : Nat) (c_p0_shop_count : ClassId) (b_p0_shop_count : Nat → Int32) (a1 : Int32) (a2 : Int32) (r : Int32) (X : va_W → Prop) : Prop := ((r = 1 ∧ (0 ≤ a1.toInt ∧ a1.toInt ≤ 3 ∧ 0 ≤ a2.toInt ∧ a2.toInt ≤ 3)) ∨ (r = 0 ∧ (True))) ∧ X (zW_t_canWalkIn p0 f_p0 p0_shop f_p0_shop p0_shop_count c_p0_shop_count b_p0_shop_count)
theorem zm_t_canWalkIn {p0 : Nat} {f_p0 : List Value} {p0_shop : Nat} {f_p0_shop : List Value} {p0_shop_count : Nat} {c_p0_shop_count : ClassId} {b_p0_shop_count : Nat → Int32} {a1 : Int32} {a2 : Int32} : ∀ (r : Int32), ∀ X Y : va_W → Prop, (∀ w, X w → Y w) → zG_t_canWalkIn p0 f_p0 p0_shop f_p0_shop p0_shop_count c_p0_shop_count b_p0_shop_count a1 a2 r X → zG_t_canWalkIn p0 f_p0 p0_shop f_p0_shop p0_shop_count c_p0_shop_count b_p0_shop_count a1 a2 r Y := fun r X Y h h1 => by obtain ⟨x0, hx⟩ := h1; exact ⟨x0, h _ hx⟩
set_option maxHeartbeats 4000000 in
set_option maxRecDepth 100000 in
theorem t_canWalkIn (l : Launch) (dC : Nat → ClassId) (dI : Nat → Nat → Nat) (sz : Nat) (p0 : Nat) (f_p0 : List Value) (p0_shop : Nat) (f_p0_shop : List Value) (p0_shop_count : Nat) (c_p0_shop_count : ClassId) (b_p0_shop_count : Nat → Int32) (a1 : Int32) (a2 : Int32) (ho_p0 : OKX8 f_p0) (fr_p0_9 : q_rf f_p0 9 p0_shop) (ho_p0_shop : OKX5 f_p0_shop) (fr_p0_shop_0 : q_rf f_p0_shop 0 p0_shop_count) (hr_p0_shop_count : q_cnt b_p0_shop_count) : Met l yX8_canWalkIn zw_t_canWalkIn ({ frames := 1, cells := 0, slots := 0, locals := 22 }) (va_Pc [.ref p0, .int a1, .int a2] (q_pre (dC, dI) (zW_t_canWalkIn p0 f_p0 p0_shop f_p0_shop p0_shop_count c_p0_shop_count b_p0_shop_count) (zT_t_canWalkIn c_p0_shop_count) q_E0 sz)) (q_Qi (dC, dI) (zG_t_canWalkIn p0 f_p0 p0_shop f_p0_shop p0_shop_count c_p0_shop_count b_p0_shop_count a1 a2) (zA_t_canWalkIn p0 p0_shop p0_shop_count) (va_A (zW_t_canWalkIn p0 f_p0 p0_shop f_p0_shop p0_shop_count c_p0_shop_count b_p0_shop_count) sz)) 0 0 (va_A (zW_t_canWalkIn p0 f_p0 p0_shop f_p0_shop p0_shop_count c_p0_shop_count b_p0_shop_count) sz) := by
  refine Met.ofW (cc := cX8_canWalkIn) (maxL := 3) (ret := (some .boolean)) (by decide) rfl ?_
  intro p e s m args below meth c s₁ B hml hv
  obtain ⟨rfl, hsz, hP, hK, hD0, hE⟩ := hv
  have hx := B.exec
  have hb := B.bytes
  have hr := B.returns
  have hts := atoms_spec (ws := zw_t_canWalkIn) B.pre
  have hown : s.vm.findClass RX8 = some m.cls := findClass_of_methodNamed B.named
  have hlocks := B.notSynchronized
  subst hsz
  have hD := hD0.self (sz := s.heap.size)
  generalize hAe : va_A (zW_t_canWalkIn p0 f_p0 p0_shop f_p0_shop p0_shop_count c_p0_shop_count b_p0_shop_count) s.heap.size = A at hD hE ⊢
  have hA : ∀ q : Nat, s.heap.size ≤ q → A q := fun q h => by rw [← hAe]; exact Or.inr h
  have hDa : q_DA A (zA_t_canWalkIn p0 p0_shop p0_shop_count) := q_DA.mk hD za_t_canWalkIn
  clear hAe hD0 hD
  have hS : va_S A s.heap s.heap [] := va_S.rf
  have m_0 : (.fieldLink RX8 60 "BowWalk" "shop" "LBowWalk$Shop;" : Cond) ∈ zw_t_canWalkIn := List.mem_append_left _ (List.mem_of_getElem? (i := 1) rfl)
  have k_0 := hts _ m_0
  have m_1 : (.methodLink RX8 104 yX5_has : Cond) ∈ zw_t_canWalkIn := List.mem_append_left _ (List.mem_of_getElem? (i := 2) rfl)
  have k_1 := hts _ m_1
  have m_2 : (.instanceMethod yX5_has : Cond) ∈ zw_t_canWalkIn := List.mem_append_left _ (List.mem_of_getElem? (i := 3) rfl)
  have k_2 := hts _ m_2
  have m_3 : (.selects RX5 yX5_has yX5_has : Cond) ∈ zw_t_canWalkIn := List.mem_append_left _ (List.mem_of_getElem? (i := 4) rfl)
  have k_3 := hts _ m_3
  have m_4 : (.initialized RX5 : Cond) ∈ zw_t_canWalkIn := List.mem_append_left _ (List.mem_of_getElem? (i := 5) rfl)
  have k_4 := hts _ m_4
  have g_t_has1 : ∀ w ∈ zw_t_has1, w ∈ zw_t_canWalkIn := fun w h => List.mem_append_right _ (List.mem_append_left _ h)
  have g_t_has2 : ∀ w ∈ zw_t_has2, w ∈ zw_t_canWalkIn := fun w h => List.mem_append_right _ (List.mem_append_right _ (List.mem_append_left _ h))
  have i_X8 : ∀ w ∈ u_ws RX8 TX8 14, w ∈ zw_t_canWalkIn := fun w h => List.mem_append_right _ (List.mem_append_right _ (List.mem_append_right _ (List.mem_append_left _ h)))
  have lt_0 : (0 : Int32).toInt = 0 := by decide
  have lt_1 : (1 : Int32).toInt = 1 := by decide
  have lt_2 : (2 : Int32).toInt = 2 := by decide
  have hl := lv_entry ([.ref p0, .int a1, .int a2]) (n := 3) (Nat.le_of_ble_eq_true rfl)
  rw [lg_entry_eq]
  generalize (lg_sl ([.ref p0, .int a1, .int a2]) ++ List.replicate (3 - (lg_sl ([.ref p0, .int a1, .int a2])).length) Slot.unset).toArray = ls at hl ⊢
  have hl : lv_has ls 3 [(0, .ref p0), (1, .int a1), (2, .int a2)] := hl
  refine lv_aload_n hx hb dX8_canWalkIn_0 rfl (lv_at hl 0 rfl) (qg_X8_9 hx hb hts i_X8 hown hK hP 0 rfl k_0 fr_p0_9 dX8_canWalkIn_1 (lv_iconst (v := 1) hx hb dX8_canWalkIn_4 (by decide) (lv_iload_n hx hb dX8_canWalkIn_5 rfl (lv_at hl 1 rfl) ?_)))
  refine q_cVi (As := [.int 1, .int a1]) (rest := []) q_w0 trivial hK hP hDa za_t_canWalkIn hS hA [1, 2] [0] (by decide +kernel) ⟨hx, hb, hml, hown, hts⟩ (t_has1 l dC dI s.heap.size p0_shop f_p0_shop p0_shop_count c_p0_shop_count b_p0_shop_count a1 ho_p0_shop fr_p0_shop_0 hr_p0_shop_count) rfl rfl (cwV 2 hts (p1_gV m_1 m_2 m_3 m_4 g_t_has1 gz_t_has1) rfl rfl rfl (by decide +kernel) ⟨by decide, by decide⟩) (va_recv hK hP (ci := 5) (q0 := 1) rfl rfl) zm_t_has1 rfl hl.1 rfl (Nat.le_of_ble_eq_true rfl) dX8_canWalkIn_6 ⟨by decide, by decide⟩ (fun r_1 H2 lo2 hG2 hS2 => ?_)
  obtain ⟨z_3, hQ2⟩ := hG2
  have hP2 : va_P (dC, dI) vwCl (zW_t_canWalkIn p0 f_p0 p0_shop f_p0_shop p0_shop_count c_p0_shop_count b_p0_shop_count) H2 := hQ2
  clear hQ2 hP hS
  rcases z_3 with ⟨rfl, z_3⟩ | ⟨rfl, z_3⟩
  · refine lv_if_eq (tgt := 28) hx hb dX8_canWalkIn_9 (by decide) (fun c_4 => absurd c_4 (by decide)) (fun c_4 => ?_)
    refine lv_aload_n hx hb dX8_canWalkIn_12 rfl (lv_at hl 0 rfl) (qg_X8_9 hx hb hts i_X8 hown hK hP2 0 rfl k_0 fr_p0_9 dX8_canWalkIn_13 (lv_iconst (v := 2) hx hb dX8_canWalkIn_16 (by decide) (lv_iload_n hx hb dX8_canWalkIn_17 rfl (lv_at hl 2 rfl) ?_)))
    refine q_cVi (As := [.int 2, .int a2]) (rest := []) q_w0 trivial hK hP2 hDa za_t_canWalkIn hS2 hA [1, 2] [0] (by decide +kernel) ⟨hx, hb, hml, hown, hts⟩ (t_has2 l dC dI H2.size p0_shop f_p0_shop p0_shop_count c_p0_shop_count b_p0_shop_count a2 ho_p0_shop fr_p0_shop_0 hr_p0_shop_count) rfl rfl (cwV 2 hts (p1_gV m_1 m_2 m_3 m_4 g_t_has2 gz_t_has2) rfl rfl rfl (by decide +kernel) ⟨by decide, by decide⟩) (va_recv hK hP2 (ci := 5) (q0 := 1) rfl rfl) zm_t_has2 rfl hl.1 rfl (Nat.le_of_ble_eq_true rfl) dX8_canWalkIn_18 ⟨by decide, by decide⟩ (fun r_5 H6 lo6 hG6 hS6 => ?_)
    obtain ⟨z_7, hQ6⟩ := hG6
    have hP6 : va_P (dC, dI) vwCl (zW_t_canWalkIn p0 f_p0 p0_shop f_p0_shop p0_shop_count c_p0_shop_count b_p0_shop_count) H6 := hQ6
    clear hQ6 hP2 hS2
    rcases z_7 with ⟨rfl, z_7⟩ | ⟨rfl, z_7⟩
    · refine lv_if_eq (tgt := 28) hx hb dX8_canWalkIn_21 (by decide) (fun c_8 => absurd c_8 (by decide)) (fun c_8 => ?_)
      refine lv_iconst (v := 1) hx hb dX8_canWalkIn_24 (by decide) (lv_goto (tgt := 29) hx hb dX8_canWalkIn_25 (by decide) ?_)
      exact q_zret hx hb hr hlocks (by decide) hS6 dX8_canWalkIn_29 ⟨(Or.inl ⟨rfl, by first | trivial | omega⟩), hP6, za_t_canWalkIn⟩
    · refine lv_if_eq (tgt := 28) hx hb dX8_canWalkIn_21 (by decide) (fun c_9 => ?_) (fun c_9 => absurd c_9 (by decide))
      refine lv_iconst (v := 0) hx hb dX8_canWalkIn_28 (by decide) ?_
      exact q_zret hx hb hr hlocks (by decide) hS6 dX8_canWalkIn_29 ⟨(Or.inr ⟨rfl, by first | trivial | omega⟩), hP6, za_t_canWalkIn⟩
  · refine lv_if_eq (tgt := 28) hx hb dX8_canWalkIn_9 (by decide) (fun c_10 => ?_) (fun c_10 => absurd c_10 (by decide))
    refine lv_iconst (v := 0) hx hb dX8_canWalkIn_28 (by decide) ?_
    exact q_zret hx hb hr hlocks (by decide) hS2 dX8_canWalkIn_29 ⟨(Or.inr ⟨rfl, by first | trivial | omega⟩), hP2, za_t_canWalkIn⟩
def zo_t_canTry : List Cond := [.code yX8_canTry cX8_canTry 4 (some .boolean), .fieldLink RX8 60 "BowWalk" "shop" "LBowWalk$Shop;", .methodLink RX8 104 yX5_has, .instanceMethod yX5_has, .selects RX5 yX5_has yX5_has, .initialized RX5, .methodLink RX8 244 yX8_canWalkIn, .instanceMethod yX8_canWalkIn, .selects RX8 yX8_canWalkIn yX8_canWalkIn, .initialized RX8]
def zw_t_canTry : List Cond := zo_t_canTry ++ (zw_t_has0 ++ (zw_t_canWalkIn ++ (wsX80 ++ [])))
theorem gz_t_canTry : zw_t_canTry.all goodWord = true := p1_ga (by decide +kernel) (p1_ga gz_t_has0 (p1_ga gz_t_canWalkIn (p1_ga gk_X8 p1_g0)))
theorem iz_t_canTry : ∀ w ∈ zw_t_canTry, w ∈ lw_tbl := p1_ia (p1_all [813, 508, 714, 715, 716, 106, 814, 816, 29, 104] (by decide +kernel)) (p1_ia iz_t_has0 (p1_ia iz_t_canWalkIn (p1_ia ik_X8 p1_i0)))
def zW_t_canTry (p0 : Nat) (f_p0 : List Value) (p0_shop : Nat) (f_p0_shop : List Value) (p0_shop_count : Nat) (c_p0_shop_count : ClassId) (b_p0_shop_count : Nat → Int32) : va_W := [(p0, .inr (7, f_p0)), (p0_shop, .inr (5, f_p0_shop)), (p0_shop_count, .inl (c_p0_shop_count, 5, .inl b_p0_shop_count))]
def zT_t_canTry (c_p0_shop_count : ClassId) : List (ClassId × FieldType) := [(c_p0_shop_count, .int)]
def zA_t_canTry (p0 : Nat) (p0_shop : Nat) (p0_shop_count : Nat) : List Nat := [p0, p0_shop, p0_shop_count]
theorem za_t_canTry {p0 : Nat} {f_p0 : List Value} {p0_shop : Nat} {f_p0_shop : List Value} {p0_shop_count : Nat} {c_p0_shop_count : ClassId} {b_p0_shop_count : Nat → Int32} : (zW_t_canTry p0 f_p0 p0_shop f_p0_shop p0_shop_count c_p0_shop_count b_p0_shop_count).map Prod.fst = (zA_t_canTry p0 p0_shop p0_shop_count) := rfl
def zG_t_canTry (p0 : Nat) (f_p0 : List Value) (p0_shop : Nat) (f_p0_shop : List Value) (p0_shop_count : Nat) (c_p0_shop_count : ClassId) (b_p0_shop_count : Nat → Int32) (a1 : Int32) (a2 : Int32) (a3 : Int32) (r : Int32) (X : va_W → Prop) : Prop := ((r = 1 ∧ (0 ≤ a1.toInt ∧ a1.toInt ≤ 5 ∧ 0 ≤ a2.toInt ∧ a2.toInt ≤ 3 ∧ 0 ≤ a3.toInt ∧ a3.toInt ≤ 3)) ∨ (r = 0 ∧ (True))) ∧ X (zW_t_canTry p0 f_p0 p0_shop f_p0_shop p0_shop_count c_p0_shop_count b_p0_shop_count)
theorem zm_t_canTry {p0 : Nat} {f_p0 : List Value} {p0_shop : Nat} {f_p0_shop : List Value} {p0_shop_count : Nat} {c_p0_shop_count : ClassId} {b_p0_shop_count : Nat → Int32} {a1 : Int32} {a2 : Int32} {a3 : Int32} : ∀ (r : Int32), ∀ X Y : va_W → Prop, (∀ w, X w → Y w) → zG_t_canTry p0 f_p0 p0_shop f_p0_shop p0_shop_count c_p0_shop_count b_p0_shop_count a1 a2 a3 r X → zG_t_canTry p0 f_p0 p0_shop f_p0_shop p0_shop_count c_p0_shop_count b_p0_shop_count a1 a2 a3 r Y := fun r X Y h h1 => by obtain ⟨x0, hx⟩ := h1; exact ⟨x0, h _ hx⟩
set_option maxHeartbeats 4000000 in
set_option maxRecDepth 100000 in
theorem t_canTry (l : Launch) (dC : Nat → ClassId) (dI : Nat → Nat → Nat) (sz : Nat) (p0 : Nat) (f_p0 : List Value) (p0_shop : Nat) (f_p0_shop : List Value) (p0_shop_count : Nat) (c_p0_shop_count : ClassId) (b_p0_shop_count : Nat → Int32) (a1 : Int32) (a2 : Int32) (a3 : Int32) (ho_p0 : OKX8 f_p0) (fr_p0_9 : q_rf f_p0 9 p0_shop) (ho_p0_shop : OKX5 f_p0_shop) (fr_p0_shop_0 : q_rf f_p0_shop 0 p0_shop_count) (hr_p0_shop_count : q_cnt b_p0_shop_count) : Met l yX8_canTry zw_t_canTry ({ frames := 2, cells := 0, slots := 0, locals := 44 }) (va_Pc [.ref p0, .int a1, .int a2, .int a3] (q_pre (dC, dI) (zW_t_canTry p0 f_p0 p0_shop f_p0_shop p0_shop_count c_p0_shop_count b_p0_shop_count) (zT_t_canTry c_p0_shop_count) q_E0 sz)) (q_Qi (dC, dI) (zG_t_canTry p0 f_p0 p0_shop f_p0_shop p0_shop_count c_p0_shop_count b_p0_shop_count a1 a2 a3) (zA_t_canTry p0 p0_shop p0_shop_count) (va_A (zW_t_canTry p0 f_p0 p0_shop f_p0_shop p0_shop_count c_p0_shop_count b_p0_shop_count) sz)) 0 0 (va_A (zW_t_canTry p0 f_p0 p0_shop f_p0_shop p0_shop_count c_p0_shop_count b_p0_shop_count) sz) := by
  refine Met.ofW (cc := cX8_canTry) (maxL := 4) (ret := (some .boolean)) (by decide) rfl ?_
  intro p e s m args below meth c s₁ B hml hv
  obtain ⟨rfl, hsz, hP, hK, hD0, hE⟩ := hv
  have hx := B.exec
  have hb := B.bytes
  have hr := B.returns
  have hts := atoms_spec (ws := zw_t_canTry) B.pre
  have hown : s.vm.findClass RX8 = some m.cls := findClass_of_methodNamed B.named
  have hlocks := B.notSynchronized
  subst hsz
  have hD := hD0.self (sz := s.heap.size)
  generalize hAe : va_A (zW_t_canTry p0 f_p0 p0_shop f_p0_shop p0_shop_count c_p0_shop_count b_p0_shop_count) s.heap.size = A at hD hE ⊢
  have hA : ∀ q : Nat, s.heap.size ≤ q → A q := fun q h => by rw [← hAe]; exact Or.inr h
  have hDa : q_DA A (zA_t_canTry p0 p0_shop p0_shop_count) := q_DA.mk hD za_t_canTry
  clear hAe hD0 hD
  have hS : va_S A s.heap s.heap [] := va_S.rf
  have m_0 : (.fieldLink RX8 60 "BowWalk" "shop" "LBowWalk$Shop;" : Cond) ∈ zw_t_canTry := List.mem_append_left _ (List.mem_of_getElem? (i := 1) rfl)
  have k_0 := hts _ m_0
  have m_1 : (.methodLink RX8 104 yX5_has : Cond) ∈ zw_t_canTry := List.mem_append_left _ (List.mem_of_getElem? (i := 2) rfl)
  have k_1 := hts _ m_1
  have m_2 : (.instanceMethod yX5_has : Cond) ∈ zw_t_canTry := List.mem_append_left _ (List.mem_of_getElem? (i := 3) rfl)
  have k_2 := hts _ m_2
  have m_3 : (.selects RX5 yX5_has yX5_has : Cond) ∈ zw_t_canTry := List.mem_append_left _ (List.mem_of_getElem? (i := 4) rfl)
  have k_3 := hts _ m_3
  have m_4 : (.initialized RX5 : Cond) ∈ zw_t_canTry := List.mem_append_left _ (List.mem_of_getElem? (i := 5) rfl)
  have k_4 := hts _ m_4
  have m_5 : (.methodLink RX8 244 yX8_canWalkIn : Cond) ∈ zw_t_canTry := List.mem_append_left _ (List.mem_of_getElem? (i := 6) rfl)
  have k_5 := hts _ m_5
  have m_6 : (.instanceMethod yX8_canWalkIn : Cond) ∈ zw_t_canTry := List.mem_append_left _ (List.mem_of_getElem? (i := 7) rfl)
  have k_6 := hts _ m_6
  have m_7 : (.selects RX8 yX8_canWalkIn yX8_canWalkIn : Cond) ∈ zw_t_canTry := List.mem_append_left _ (List.mem_of_getElem? (i := 8) rfl)
  have k_7 := hts _ m_7
  have m_8 : (.initialized RX8 : Cond) ∈ zw_t_canTry := List.mem_append_left _ (List.mem_of_getElem? (i := 9) rfl)
  have k_8 := hts _ m_8
  have g_t_has0 : ∀ w ∈ zw_t_has0, w ∈ zw_t_canTry := fun w h => List.mem_append_right _ (List.mem_append_left _ h)
  have g_t_canWalkIn : ∀ w ∈ zw_t_canWalkIn, w ∈ zw_t_canTry := fun w h => List.mem_append_right _ (List.mem_append_right _ (List.mem_append_left _ h))
  have i_X8 : ∀ w ∈ u_ws RX8 TX8 14, w ∈ zw_t_canTry := fun w h => List.mem_append_right _ (List.mem_append_right _ (List.mem_append_right _ (List.mem_append_left _ h)))
  have lt_0 : (0 : Int32).toInt = 0 := by decide
  have lt_1 : (1 : Int32).toInt = 1 := by decide
  have hl := lv_entry ([.ref p0, .int a1, .int a2, .int a3]) (n := 4) (Nat.le_of_ble_eq_true rfl)
  rw [lg_entry_eq]
  generalize (lg_sl ([.ref p0, .int a1, .int a2, .int a3]) ++ List.replicate (4 - (lg_sl ([.ref p0, .int a1, .int a2, .int a3])).length) Slot.unset).toArray = ls at hl ⊢
  have hl : lv_has ls 4 [(0, .ref p0), (1, .int a1), (2, .int a2), (3, .int a3)] := hl
  refine lv_aload_n hx hb dX8_canTry_0 rfl (lv_at hl 0 rfl) (qg_X8_9 hx hb hts i_X8 hown hK hP 0 rfl k_0 fr_p0_9 dX8_canTry_1 (lv_iconst (v := 0) hx hb dX8_canTry_4 (by decide) (lv_iload_n hx hb dX8_canTry_5 rfl (lv_at hl 1 rfl) ?_)))
  refine q_cVi (As := [.int 0, .int a1]) (rest := []) q_w0 trivial hK hP hDa za_t_canTry hS hA [1, 2] [0] (by decide +kernel) ⟨hx, hb, hml, hown, hts⟩ (t_has0 l dC dI s.heap.size p0_shop f_p0_shop p0_shop_count c_p0_shop_count b_p0_shop_count a1 ho_p0_shop fr_p0_shop_0 hr_p0_shop_count) rfl rfl (cwV 2 hts (p1_gV m_1 m_2 m_3 m_4 g_t_has0 gz_t_has0) rfl rfl rfl (by decide +kernel) ⟨by decide, by decide⟩) (va_recv hK hP (ci := 5) (q0 := 1) rfl rfl) zm_t_has0 rfl hl.1 rfl (Nat.le_of_ble_eq_true rfl) dX8_canTry_6 ⟨by decide, by decide⟩ (fun r_1 H2 lo2 hG2 hS2 => ?_)
  obtain ⟨z_3, hQ2⟩ := hG2
  have hP2 : va_P (dC, dI) vwCl (zW_t_canTry p0 f_p0 p0_shop f_p0_shop p0_shop_count c_p0_shop_count b_p0_shop_count) H2 := hQ2
  clear hQ2 hP hS
  rcases z_3 with ⟨rfl, z_3⟩ | ⟨rfl, z_3⟩
  · refine lv_if_eq (tgt := 25) hx hb dX8_canTry_9 (by decide) (fun c_4 => absurd c_4 (by decide)) (fun c_4 => ?_)
    refine lv_aload_n hx hb dX8_canTry_12 rfl (lv_at hl 0 rfl) (lv_iload_n hx hb dX8_canTry_13 rfl (lv_at hl 2 rfl) (lv_iload_n hx hb dX8_canTry_14 rfl (lv_at hl 3 rfl) ?_))
    refine q_cVi (As := [.int a2, .int a3]) (rest := []) q_w0 trivial hK hP2 hDa za_t_canTry hS2 hA [0, 1, 2] [0] (by decide +kernel) ⟨hx, hb, hml, hown, hts⟩ (t_canWalkIn l dC dI H2.size p0 f_p0 p0_shop f_p0_shop p0_shop_count c_p0_shop_count b_p0_shop_count a2 a3 ho_p0 fr_p0_9 ho_p0_shop fr_p0_shop_0 hr_p0_shop_count) rfl rfl (cwV 2 hts (p1_gV m_5 m_6 m_7 m_8 g_t_canWalkIn gz_t_canWalkIn) rfl rfl rfl (by decide +kernel) ⟨by decide, by decide⟩) (va_recv hK hP2 (ci := 7) (q0 := 0) rfl rfl) zm_t_canWalkIn rfl hl.1 rfl (Nat.le_of_ble_eq_true rfl) dX8_canTry_15 ⟨by decide, by decide⟩ (fun r_5 H6 lo6 hG6 hS6 => ?_)
    obtain ⟨z_7, hQ6⟩ := hG6
    have hP6 : va_P (dC, dI) vwCl (zW_t_canTry p0 f_p0 p0_shop f_p0_shop p0_shop_count c_p0_shop_count b_p0_shop_count) H6 := hQ6
    clear hQ6 hP2 hS2
    rcases z_7 with ⟨rfl, z_7⟩ | ⟨rfl, z_7⟩
    · refine lv_if_eq (tgt := 25) hx hb dX8_canTry_18 (by decide) (fun c_8 => absurd c_8 (by decide)) (fun c_8 => ?_)
      refine lv_iconst (v := 1) hx hb dX8_canTry_21 (by decide) (lv_goto (tgt := 26) hx hb dX8_canTry_22 (by decide) ?_)
      exact q_zret hx hb hr hlocks (by decide) hS6 dX8_canTry_26 ⟨(Or.inl ⟨rfl, by first | trivial | omega⟩), hP6, za_t_canTry⟩
    · refine lv_if_eq (tgt := 25) hx hb dX8_canTry_18 (by decide) (fun c_9 => ?_) (fun c_9 => absurd c_9 (by decide))
      refine lv_iconst (v := 0) hx hb dX8_canTry_25 (by decide) ?_
      exact q_zret hx hb hr hlocks (by decide) hS6 dX8_canTry_26 ⟨(Or.inr ⟨rfl, by first | trivial | omega⟩), hP6, za_t_canTry⟩
  · refine lv_if_eq (tgt := 25) hx hb dX8_canTry_9 (by decide) (fun c_10 => ?_) (fun c_10 => absurd c_10 (by decide))
    refine lv_iconst (v := 0) hx hb dX8_canTry_25 (by decide) ?_
    exact q_zret hx hb hr hlocks (by decide) hS2 dX8_canTry_26 ⟨(Or.inr ⟨rfl, by first | trivial | omega⟩), hP2, za_t_canTry⟩
def zo_t_prepareStill : List Cond := [.code yX8_prepareStill cX8_prepareStill 3 none, .fieldLink RX8 30 "BowWalk" "trial" "LBowWalk$Trial;", .fieldLink RX8 259 "BowWalk$Trial" "bow" "LBowWalk$Bow;", .fieldLink RX8 60 "BowWalk" "shop" "LBowWalk$Shop;", .fieldLink RX8 108 "BowWalk$Shop" "crossings" "[I", .fieldLink RX8 111 "BowWalk$Shop" "sides" "[I", .methodLink RX8 124 yX0_takeKnot, .instanceMethod yX0_takeKnot, .selects RX0 yX0_takeKnot yX0_takeKnot, .initialized RX0, .fieldLink RX8 128 "BowWalk$Shop" "smooth" "[I", .fieldLink RX8 131 "BowWalk$Shop" "weight" "[I", .fieldLink RX8 134 "BowWalk$Shop" "length" "[I", .methodLink RX8 137 yX0_takeCord, .instanceMethod yX0_takeCord, .selects RX0 yX0_takeCord yX0_takeCord]
def zw_t_prepareStill : List Cond := zo_t_prepareStill ++ (zw_t_takeKnot ++ (zw_t_takeCord ++ (wsX80 ++ (wsX70 ++ (wsX50 ++ [])))))
theorem gz_t_prepareStill : zw_t_prepareStill.all goodWord = true := p1_ga (by decide +kernel) (p1_ga gz_t_takeKnot (p1_ga gz_t_takeCord (p1_ga gk_X8 (p1_ga gk_X7 (p1_ga gk_X5 p1_g0)))))
theorem iz_t_prepareStill : ∀ w ∈ zw_t_prepareStill, w ∈ lw_tbl := p1_ia (p1_all [830, 502, 415, 508, 180, 183, 731, 732, 733, 112, 186, 189, 192, 737, 738, 739] (by decide +kernel)) (p1_ia iz_t_takeKnot (p1_ia iz_t_takeCord (p1_ia ik_X8 (p1_ia ik_X7 (p1_ia ik_X5 p1_i0)))))
def zW_t_prepareStill (p0 : Nat) (f_p0 : List Value) (p0_shop : Nat) (f_p0_shop : List Value) (p0_shop_crossings : Nat) (c_p0_shop_crossings : ClassId) (b_p0_shop_crossings : Nat → Int32) (p0_shop_length : Nat) (c_p0_shop_length : ClassId) (b_p0_shop_length : Nat → Int32) (p0_shop_sides : Nat) (c_p0_shop_sides : ClassId) (b_p0_shop_sides : Nat → Int32) (p0_shop_smooth : Nat) (c_p0_shop_smooth : ClassId) (b_p0_shop_smooth : Nat → Int32) (p0_shop_weight : Nat) (c_p0_shop_weight : ClassId) (b_p0_shop_weight : Nat → Int32) (p0_trial : Nat) (f_p0_trial : List Value) (p0_trial_bow : Nat) (f_p0_trial_bow : List Value) : va_W := [(p0, .inr (7, f_p0)), (p0_shop, .inr (5, f_p0_shop)), (p0_shop_crossings, .inl (c_p0_shop_crossings, 6, .inl b_p0_shop_crossings)), (p0_shop_length, .inl (c_p0_shop_length, 4, .inl b_p0_shop_length)), (p0_shop_sides, .inl (c_p0_shop_sides, 6, .inl b_p0_shop_sides)), (p0_shop_smooth, .inl (c_p0_shop_smooth, 4, .inl b_p0_shop_smooth)), (p0_shop_weight, .inl (c_p0_shop_weight, 4, .inl b_p0_shop_weight)), (p0_trial, .inr (6, f_p0_trial)), (p0_trial_bow, .inr (0, f_p0_trial_bow))]
def zT_t_prepareStill (c_p0_shop_crossings : ClassId) (c_p0_shop_length : ClassId) (c_p0_shop_sides : ClassId) (c_p0_shop_smooth : ClassId) (c_p0_shop_weight : ClassId) : List (ClassId × FieldType) := [(c_p0_shop_crossings, .int), (c_p0_shop_length, .int), (c_p0_shop_sides, .int), (c_p0_shop_smooth, .int), (c_p0_shop_weight, .int)]
def zA_t_prepareStill (p0 : Nat) (p0_shop : Nat) (p0_shop_crossings : Nat) (p0_shop_length : Nat) (p0_shop_sides : Nat) (p0_shop_smooth : Nat) (p0_shop_weight : Nat) (p0_trial : Nat) (p0_trial_bow : Nat) : List Nat := [p0, p0_shop, p0_shop_crossings, p0_shop_length, p0_shop_sides, p0_shop_smooth, p0_shop_weight, p0_trial, p0_trial_bow]
theorem za_t_prepareStill {p0 : Nat} {f_p0 : List Value} {p0_shop : Nat} {f_p0_shop : List Value} {p0_shop_crossings : Nat} {c_p0_shop_crossings : ClassId} {b_p0_shop_crossings : Nat → Int32} {p0_shop_length : Nat} {c_p0_shop_length : ClassId} {b_p0_shop_length : Nat → Int32} {p0_shop_sides : Nat} {c_p0_shop_sides : ClassId} {b_p0_shop_sides : Nat → Int32} {p0_shop_smooth : Nat} {c_p0_shop_smooth : ClassId} {b_p0_shop_smooth : Nat → Int32} {p0_shop_weight : Nat} {c_p0_shop_weight : ClassId} {b_p0_shop_weight : Nat → Int32} {p0_trial : Nat} {f_p0_trial : List Value} {p0_trial_bow : Nat} {f_p0_trial_bow : List Value} : (zW_t_prepareStill p0 f_p0 p0_shop f_p0_shop p0_shop_crossings c_p0_shop_crossings b_p0_shop_crossings p0_shop_length c_p0_shop_length b_p0_shop_length p0_shop_sides c_p0_shop_sides b_p0_shop_sides p0_shop_smooth c_p0_shop_smooth b_p0_shop_smooth p0_shop_weight c_p0_shop_weight b_p0_shop_weight p0_trial f_p0_trial p0_trial_bow f_p0_trial_bow).map Prod.fst = (zA_t_prepareStill p0 p0_shop p0_shop_crossings p0_shop_length p0_shop_sides p0_shop_smooth p0_shop_weight p0_trial p0_trial_bow) := rfl
def zG_t_prepareStill (p0 : Nat) (f_p0 : List Value) (p0_shop : Nat) (f_p0_shop : List Value) (p0_shop_crossings : Nat) (c_p0_shop_crossings : ClassId) (b_p0_shop_crossings : Nat → Int32) (p0_shop_length : Nat) (c_p0_shop_length : ClassId) (b_p0_shop_length : Nat → Int32) (p0_shop_sides : Nat) (c_p0_shop_sides : ClassId) (b_p0_shop_sides : Nat → Int32) (p0_shop_smooth : Nat) (c_p0_shop_smooth : ClassId) (b_p0_shop_smooth : Nat → Int32) (p0_shop_weight : Nat) (c_p0_shop_weight : ClassId) (b_p0_shop_weight : Nat → Int32) (p0_trial : Nat) (f_p0_trial : List Value) (p0_trial_bow : Nat) (f_p0_trial_bow : List Value) (a1 : Int32) (a2 : Int32) (X : va_W → Prop) : Prop := ∃ (y_p0_trial_bow : List Value), OKX0 y_p0_trial_bow ∧ q_fr [2, 8, 9, 10, 11, 12] f_p0_trial_bow y_p0_trial_bow ∧ X (zW_t_prepareStill p0 f_p0 p0_shop f_p0_shop p0_shop_crossings c_p0_shop_crossings b_p0_shop_crossings p0_shop_length c_p0_shop_length b_p0_shop_length p0_shop_sides c_p0_shop_sides b_p0_shop_sides p0_shop_smooth c_p0_shop_smooth b_p0_shop_smooth p0_shop_weight c_p0_shop_weight b_p0_shop_weight p0_trial f_p0_trial p0_trial_bow y_p0_trial_bow)
theorem zm_t_prepareStill {p0 : Nat} {f_p0 : List Value} {p0_shop : Nat} {f_p0_shop : List Value} {p0_shop_crossings : Nat} {c_p0_shop_crossings : ClassId} {b_p0_shop_crossings : Nat → Int32} {p0_shop_length : Nat} {c_p0_shop_length : ClassId} {b_p0_shop_length : Nat → Int32} {p0_shop_sides : Nat} {c_p0_shop_sides : ClassId} {b_p0_shop_sides : Nat → Int32} {p0_shop_smooth : Nat} {c_p0_shop_smooth : ClassId} {b_p0_shop_smooth : Nat → Int32} {p0_shop_weight : Nat} {c_p0_shop_weight : ClassId} {b_p0_shop_weight : Nat → Int32} {p0_trial : Nat} {f_p0_trial : List Value} {p0_trial_bow : Nat} {f_p0_trial_bow : List Value} {a1 : Int32} {a2 : Int32} : ∀ X Y : va_W → Prop, (∀ w, X w → Y w) → zG_t_prepareStill p0 f_p0 p0_shop f_p0_shop p0_shop_crossings c_p0_shop_crossings b_p0_shop_crossings p0_shop_length c_p0_shop_length b_p0_shop_length p0_shop_sides c_p0_shop_sides b_p0_shop_sides p0_shop_smooth c_p0_shop_smooth b_p0_shop_smooth p0_shop_weight c_p0_shop_weight b_p0_shop_weight p0_trial f_p0_trial p0_trial_bow f_p0_trial_bow a1 a2 X → zG_t_prepareStill p0 f_p0 p0_shop f_p0_shop p0_shop_crossings c_p0_shop_crossings b_p0_shop_crossings p0_shop_length c_p0_shop_length b_p0_shop_length p0_shop_sides c_p0_shop_sides b_p0_shop_sides p0_shop_smooth c_p0_shop_smooth b_p0_shop_smooth p0_shop_weight c_p0_shop_weight b_p0_shop_weight p0_trial f_p0_trial p0_trial_bow f_p0_trial_bow a1 a2 Y := fun X Y h h1 => by obtain ⟨x0, x1, x2, hx⟩ := h1; exact ⟨x0, x1, x2, h _ hx⟩
set_option maxHeartbeats 4000000 in
set_option maxRecDepth 100000 in
theorem t_prepareStill (l : Launch) (dC : Nat → ClassId) (dI : Nat → Nat → Nat) (sz : Nat) (p0 : Nat) (f_p0 : List Value) (p0_shop : Nat) (f_p0_shop : List Value) (p0_shop_crossings : Nat) (c_p0_shop_crossings : ClassId) (b_p0_shop_crossings : Nat → Int32) (p0_shop_length : Nat) (c_p0_shop_length : ClassId) (b_p0_shop_length : Nat → Int32) (p0_shop_sides : Nat) (c_p0_shop_sides : ClassId) (b_p0_shop_sides : Nat → Int32) (p0_shop_smooth : Nat) (c_p0_shop_smooth : ClassId) (b_p0_shop_smooth : Nat → Int32) (p0_shop_weight : Nat) (c_p0_shop_weight : ClassId) (b_p0_shop_weight : Nat → Int32) (p0_trial : Nat) (f_p0_trial : List Value) (p0_trial_bow : Nat) (f_p0_trial_bow : List Value) (a1 : Int32) (a2 : Int32) (ho_p0 : OKX8 f_p0) (fr_p0_3 : q_rf f_p0 3 p0_trial) (fr_p0_9 : q_rf f_p0 9 p0_shop) (ho_p0_shop : OKX5 f_p0_shop) (fr_p0_shop_2 : q_rf f_p0_shop 2 p0_shop_crossings) (fr_p0_shop_3 : q_rf f_p0_shop 3 p0_shop_sides) (fr_p0_shop_4 : q_rf f_p0_shop 4 p0_shop_smooth) (fr_p0_shop_5 : q_rf f_p0_shop 5 p0_shop_weight) (fr_p0_shop_6 : q_rf f_p0_shop 6 p0_shop_length) (hr_p0_shop_crossings : q_rg 6 (0) 12 b_p0_shop_crossings) (hr_p0_shop_length : q_rg 4 (0) 999 b_p0_shop_length) (hr_p0_shop_smooth : q_rg 4 (0) 99 b_p0_shop_smooth) (hr_p0_shop_weight : q_rg 4 (0) 99 b_p0_shop_weight) (ho_p0_trial : OKX7 f_p0_trial) (fr_p0_trial_0 : q_rf f_p0_trial 0 p0_trial_bow) (ho_p0_trial_bow : OKX0 f_p0_trial_bow) (ta1 : (0) ≤ a1.toInt ∧ a1.toInt ≤ 5) (ta2 : (0) ≤ a2.toInt ∧ a2.toInt ≤ 3) : Met l yX8_prepareStill zw_t_prepareStill ({ frames := 2, cells := 0, slots := 0, locals := 44 }) (va_Pc [.ref p0, .int a1, .int a2] (q_pre (dC, dI) (zW_t_prepareStill p0 f_p0 p0_shop f_p0_shop p0_shop_crossings c_p0_shop_crossings b_p0_shop_crossings p0_shop_length c_p0_shop_length b_p0_shop_length p0_shop_sides c_p0_shop_sides b_p0_shop_sides p0_shop_smooth c_p0_shop_smooth b_p0_shop_smooth p0_shop_weight c_p0_shop_weight b_p0_shop_weight p0_trial f_p0_trial p0_trial_bow f_p0_trial_bow) (zT_t_prepareStill c_p0_shop_crossings c_p0_shop_length c_p0_shop_sides c_p0_shop_smooth c_p0_shop_weight) q_E0 sz)) (q_Qv (dC, dI) (zG_t_prepareStill p0 f_p0 p0_shop f_p0_shop p0_shop_crossings c_p0_shop_crossings b_p0_shop_crossings p0_shop_length c_p0_shop_length b_p0_shop_length p0_shop_sides c_p0_shop_sides b_p0_shop_sides p0_shop_smooth c_p0_shop_smooth b_p0_shop_smooth p0_shop_weight c_p0_shop_weight b_p0_shop_weight p0_trial f_p0_trial p0_trial_bow f_p0_trial_bow a1 a2) (zA_t_prepareStill p0 p0_shop p0_shop_crossings p0_shop_length p0_shop_sides p0_shop_smooth p0_shop_weight p0_trial p0_trial_bow) (va_A (zW_t_prepareStill p0 f_p0 p0_shop f_p0_shop p0_shop_crossings c_p0_shop_crossings b_p0_shop_crossings p0_shop_length c_p0_shop_length b_p0_shop_length p0_shop_sides c_p0_shop_sides b_p0_shop_sides p0_shop_smooth c_p0_shop_smooth b_p0_shop_smooth p0_shop_weight c_p0_shop_weight b_p0_shop_weight p0_trial f_p0_trial p0_trial_bow f_p0_trial_bow) sz)) 0 0 (va_A (zW_t_prepareStill p0 f_p0 p0_shop f_p0_shop p0_shop_crossings c_p0_shop_crossings b_p0_shop_crossings p0_shop_length c_p0_shop_length b_p0_shop_length p0_shop_sides c_p0_shop_sides b_p0_shop_sides p0_shop_smooth c_p0_shop_smooth b_p0_shop_smooth p0_shop_weight c_p0_shop_weight b_p0_shop_weight p0_trial f_p0_trial p0_trial_bow f_p0_trial_bow) sz) := by
  refine Met.ofW (cc := cX8_prepareStill) (maxL := 3) (ret := none) (by decide) rfl ?_
  intro p e s m args below meth c s₁ B hml hv
  obtain ⟨rfl, hsz, hP, hK, hD0, hE⟩ := hv
  have hx := B.exec
  have hb := B.bytes
  have hr := B.returns
  have hts := atoms_spec (ws := zw_t_prepareStill) B.pre
  have hown : s.vm.findClass RX8 = some m.cls := findClass_of_methodNamed B.named
  have hlocks := B.notSynchronized
  subst hsz
  have hD := hD0.self (sz := s.heap.size)
  generalize hAe : va_A (zW_t_prepareStill p0 f_p0 p0_shop f_p0_shop p0_shop_crossings c_p0_shop_crossings b_p0_shop_crossings p0_shop_length c_p0_shop_length b_p0_shop_length p0_shop_sides c_p0_shop_sides b_p0_shop_sides p0_shop_smooth c_p0_shop_smooth b_p0_shop_smooth p0_shop_weight c_p0_shop_weight b_p0_shop_weight p0_trial f_p0_trial p0_trial_bow f_p0_trial_bow) s.heap.size = A at hD hE ⊢
  have hA : ∀ q : Nat, s.heap.size ≤ q → A q := fun q h => by rw [← hAe]; exact Or.inr h
  have hDa : q_DA A (zA_t_prepareStill p0 p0_shop p0_shop_crossings p0_shop_length p0_shop_sides p0_shop_smooth p0_shop_weight p0_trial p0_trial_bow) := q_DA.mk hD za_t_prepareStill
  clear hAe hD0 hD
  have hS : va_S A s.heap s.heap [] := va_S.rf
  have m_0 : (.fieldLink RX8 30 "BowWalk" "trial" "LBowWalk$Trial;" : Cond) ∈ zw_t_prepareStill := List.mem_append_left _ (List.mem_of_getElem? (i := 1) rfl)
  have k_0 := hts _ m_0
  have m_1 : (.fieldLink RX8 259 "BowWalk$Trial" "bow" "LBowWalk$Bow;" : Cond) ∈ zw_t_prepareStill := List.mem_append_left _ (List.mem_of_getElem? (i := 2) rfl)
  have k_1 := hts _ m_1
  have m_2 : (.fieldLink RX8 60 "BowWalk" "shop" "LBowWalk$Shop;" : Cond) ∈ zw_t_prepareStill := List.mem_append_left _ (List.mem_of_getElem? (i := 3) rfl)
  have k_2 := hts _ m_2
  have m_3 : (.fieldLink RX8 108 "BowWalk$Shop" "crossings" "[I" : Cond) ∈ zw_t_prepareStill := List.mem_append_left _ (List.mem_of_getElem? (i := 4) rfl)
  have k_3 := hts _ m_3
  have m_4 : (.fieldLink RX8 111 "BowWalk$Shop" "sides" "[I" : Cond) ∈ zw_t_prepareStill := List.mem_append_left _ (List.mem_of_getElem? (i := 5) rfl)
  have k_4 := hts _ m_4
  have m_5 : (.methodLink RX8 124 yX0_takeKnot : Cond) ∈ zw_t_prepareStill := List.mem_append_left _ (List.mem_of_getElem? (i := 6) rfl)
  have k_5 := hts _ m_5
  have m_6 : (.instanceMethod yX0_takeKnot : Cond) ∈ zw_t_prepareStill := List.mem_append_left _ (List.mem_of_getElem? (i := 7) rfl)
  have k_6 := hts _ m_6
  have m_7 : (.selects RX0 yX0_takeKnot yX0_takeKnot : Cond) ∈ zw_t_prepareStill := List.mem_append_left _ (List.mem_of_getElem? (i := 8) rfl)
  have k_7 := hts _ m_7
  have m_8 : (.initialized RX0 : Cond) ∈ zw_t_prepareStill := List.mem_append_left _ (List.mem_of_getElem? (i := 9) rfl)
  have k_8 := hts _ m_8
  have m_9 : (.fieldLink RX8 128 "BowWalk$Shop" "smooth" "[I" : Cond) ∈ zw_t_prepareStill := List.mem_append_left _ (List.mem_of_getElem? (i := 10) rfl)
  have k_9 := hts _ m_9
  have m_10 : (.fieldLink RX8 131 "BowWalk$Shop" "weight" "[I" : Cond) ∈ zw_t_prepareStill := List.mem_append_left _ (List.mem_of_getElem? (i := 11) rfl)
  have k_10 := hts _ m_10
  have m_11 : (.fieldLink RX8 134 "BowWalk$Shop" "length" "[I" : Cond) ∈ zw_t_prepareStill := List.mem_append_left _ (List.mem_of_getElem? (i := 12) rfl)
  have k_11 := hts _ m_11
  have m_12 : (.methodLink RX8 137 yX0_takeCord : Cond) ∈ zw_t_prepareStill := List.mem_append_left _ (List.mem_of_getElem? (i := 13) rfl)
  have k_12 := hts _ m_12
  have m_13 : (.instanceMethod yX0_takeCord : Cond) ∈ zw_t_prepareStill := List.mem_append_left _ (List.mem_of_getElem? (i := 14) rfl)
  have k_13 := hts _ m_13
  have m_14 : (.selects RX0 yX0_takeCord yX0_takeCord : Cond) ∈ zw_t_prepareStill := List.mem_append_left _ (List.mem_of_getElem? (i := 15) rfl)
  have k_14 := hts _ m_14
  have g_t_takeKnot : ∀ w ∈ zw_t_takeKnot, w ∈ zw_t_prepareStill := fun w h => List.mem_append_right _ (List.mem_append_left _ h)
  have g_t_takeCord : ∀ w ∈ zw_t_takeCord, w ∈ zw_t_prepareStill := fun w h => List.mem_append_right _ (List.mem_append_right _ (List.mem_append_left _ h))
  have i_X8 : ∀ w ∈ u_ws RX8 TX8 14, w ∈ zw_t_prepareStill := fun w h => List.mem_append_right _ (List.mem_append_right _ (List.mem_append_right _ (List.mem_append_left _ h)))
  have i_X7 : ∀ w ∈ u_ws RX7 TX7 6, w ∈ zw_t_prepareStill := fun w h => List.mem_append_right _ (List.mem_append_right _ (List.mem_append_right _ (List.mem_append_right _ (List.mem_append_left _ h))))
  have i_X5 : ∀ w ∈ u_ws RX5 TX5 15, w ∈ zw_t_prepareStill := fun w h => List.mem_append_right _ (List.mem_append_right _ (List.mem_append_right _ (List.mem_append_right _ (List.mem_append_right _ (List.mem_append_left _ h)))))
  have hl := lv_entry ([.ref p0, .int a1, .int a2]) (n := 3) (Nat.le_of_ble_eq_true rfl)
  rw [lg_entry_eq]
  generalize (lg_sl ([.ref p0, .int a1, .int a2]) ++ List.replicate (3 - (lg_sl ([.ref p0, .int a1, .int a2])).length) Slot.unset).toArray = ls at hl ⊢
  have hl : lv_has ls 3 [(0, .ref p0), (1, .int a1), (2, .int a2)] := hl
  refine lv_aload_n hx hb dX8_prepareStill_0 rfl (lv_at hl 0 rfl) (qg_X8_3 hx hb hts i_X8 hown hK hP 0 rfl k_0 fr_p0_3 dX8_prepareStill_1 (qg_X7_0 hx hb hts i_X7 hown hK hP 7 rfl k_1 fr_p0_trial_0 dX8_prepareStill_4 (lv_aload_n hx hb dX8_prepareStill_7 rfl (lv_at hl 0 rfl) (qg_X8_9 hx hb hts i_X8 hown hK hP 0 rfl k_2 fr_p0_9 dX8_prepareStill_8 (qg_X5_2 hx hb hts i_X5 hown hK hP 1 rfl k_3 fr_p0_shop_2 dX8_prepareStill_11 (lv_iload_n hx hb dX8_prepareStill_14 rfl (lv_at hl 1 rfl) (q_ild hx hb hK hP 2 0 rfl rfl (q_in (by omega) (by omega)) dX8_prepareStill_15 (fun v_1 ev_1 => ?_))))))))
  have tv_1 := q_rd' hr_p0_shop_crossings (q_in (by omega) (by omega)) ev_1
  refine lv_aload_n hx hb dX8_prepareStill_16 rfl (lv_at hl 0 rfl) (qg_X8_9 hx hb hts i_X8 hown hK hP 0 rfl k_2 fr_p0_9 dX8_prepareStill_17 (qg_X5_3 hx hb hts i_X5 hown hK hP 1 rfl k_4 fr_p0_shop_3 dX8_prepareStill_20 (lv_iload_n hx hb dX8_prepareStill_23 rfl (lv_at hl 1 rfl) (q_ild hx hb hK hP 4 2 rfl rfl (q_in (by omega) (by omega)) dX8_prepareStill_24 (fun v_2 ev_2 => ?_)))))
  refine q_cVv (As := [.int v_1, .int v_2]) (rest := []) q_w0 trivial hK hP hDa za_t_prepareStill hS hA [8] [] (by decide +kernel) ⟨hx, hb, hml, hown, hts⟩ (t_takeKnot l dC dI s.heap.size p0_trial_bow f_p0_trial_bow v_1 v_2 ho_p0_trial_bow ((by omega))) rfl rfl (cwV 2 hts (p1_gV m_5 m_6 m_7 m_8 g_t_takeKnot gz_t_takeKnot) rfl rfl rfl (by decide +kernel) ⟨by decide, by decide⟩) (va_recv hK hP (ci := 0) (q0 := 8) rfl rfl) zm_t_takeKnot rfl hl.1 rfl (Nat.le_of_ble_eq_true rfl) dX8_prepareStill_25 ⟨by decide, by decide⟩ (fun H4 lo4 hG4 hS4 => ?_)
  obtain ⟨o_5, ho_6, hf_7, hQ4⟩ := hG4
  have hP4 : va_P (dC, dI) vwCl (zW_t_prepareStill p0 f_p0 p0_shop f_p0_shop p0_shop_crossings c_p0_shop_crossings b_p0_shop_crossings p0_shop_length c_p0_shop_length b_p0_shop_length p0_shop_sides c_p0_shop_sides b_p0_shop_sides p0_shop_smooth c_p0_shop_smooth b_p0_shop_smooth p0_shop_weight c_p0_shop_weight b_p0_shop_weight p0_trial f_p0_trial p0_trial_bow o_5) H4 := hQ4
  clear hQ4 hP hS
  refine lv_aload_n hx hb dX8_prepareStill_28 rfl (lv_at hl 0 rfl) (qg_X8_3 hx hb hts i_X8 hown hK hP4 0 rfl k_0 fr_p0_3 dX8_prepareStill_29 (qg_X7_0 hx hb hts i_X7 hown hK hP4 7 rfl k_1 fr_p0_trial_0 dX8_prepareStill_32 (lv_aload_n hx hb dX8_prepareStill_35 rfl (lv_at hl 0 rfl) (qg_X8_9 hx hb hts i_X8 hown hK hP4 0 rfl k_2 fr_p0_9 dX8_prepareStill_36 (qg_X5_4 hx hb hts i_X5 hown hK hP4 1 rfl k_9 fr_p0_shop_4 dX8_prepareStill_39 (lv_iload_n hx hb dX8_prepareStill_42 rfl (lv_at hl 2 rfl) (q_ild hx hb hK hP4 5 3 rfl rfl (q_in (by omega) (by omega)) dX8_prepareStill_43 (fun v_8 ev_8 => ?_))))))))
  have tv_8 := q_rd' hr_p0_shop_smooth (q_in (by omega) (by omega)) ev_8
  refine lv_aload_n hx hb dX8_prepareStill_44 rfl (lv_at hl 0 rfl) (qg_X8_9 hx hb hts i_X8 hown hK hP4 0 rfl k_2 fr_p0_9 dX8_prepareStill_45 (qg_X5_5 hx hb hts i_X5 hown hK hP4 1 rfl k_10 fr_p0_shop_5 dX8_prepareStill_48 (lv_iload_n hx hb dX8_prepareStill_51 rfl (lv_at hl 2 rfl) (q_ild hx hb hK hP4 6 4 rfl rfl (q_in (by omega) (by omega)) dX8_prepareStill_52 (fun v_9 ev_9 => ?_)))))
  have tv_9 := q_rd' hr_p0_shop_weight (q_in (by omega) (by omega)) ev_9
  refine lv_aload_n hx hb dX8_prepareStill_53 rfl (lv_at hl 0 rfl) (qg_X8_9 hx hb hts i_X8 hown hK hP4 0 rfl k_2 fr_p0_9 dX8_prepareStill_54 (qg_X5_6 hx hb hts i_X5 hown hK hP4 1 rfl k_11 fr_p0_shop_6 dX8_prepareStill_57 (lv_iload_n hx hb dX8_prepareStill_60 rfl (lv_at hl 2 rfl) (q_ild hx hb hK hP4 3 1 rfl rfl (q_in (by omega) (by omega)) dX8_prepareStill_61 (fun v_10 ev_10 => ?_)))))
  have tv_10 := q_rd' hr_p0_shop_length (q_in (by omega) (by omega)) ev_10
  refine q_cVv (As := [.int v_8, .int v_9, .int v_10]) (rest := []) q_w0 trivial hK hP4 hDa za_t_prepareStill hS4 hA [8] [] (by decide +kernel) ⟨hx, hb, hml, hown, hts⟩ (t_takeCord l dC dI H4.size p0_trial_bow o_5 v_8 v_9 v_10 ho_6) rfl rfl (cwV 3 hts (p1_gV m_12 m_13 m_14 m_8 g_t_takeCord gz_t_takeCord) rfl rfl rfl (by decide +kernel) ⟨by decide, by decide⟩) (va_recv hK hP4 (ci := 0) (q0 := 8) rfl rfl) zm_t_takeCord rfl hl.1 rfl (Nat.le_of_ble_eq_true rfl) dX8_prepareStill_62 ⟨by decide, by decide⟩ (fun H12 lo12 hG12 hS12 => ?_)
  obtain ⟨o_13, ho_14, hf_15, hQ12⟩ := hG12
  have hP12 : va_P (dC, dI) vwCl (zW_t_prepareStill p0 f_p0 p0_shop f_p0_shop p0_shop_crossings c_p0_shop_crossings b_p0_shop_crossings p0_shop_length c_p0_shop_length b_p0_shop_length p0_shop_sides c_p0_shop_sides b_p0_shop_sides p0_shop_smooth c_p0_shop_smooth b_p0_shop_smooth p0_shop_weight c_p0_shop_weight b_p0_shop_weight p0_trial f_p0_trial p0_trial_bow o_13) H12 := hQ12
  clear hQ12 hP4 hS4
  exact q_vret hx hb hr hlocks hS12 dX8_prepareStill_65 ⟨o_13, ho_14, ((q_fr.rf.tr hf_7 (by decide)).tr hf_15 (by decide)), hP12, za_t_prepareStill⟩
