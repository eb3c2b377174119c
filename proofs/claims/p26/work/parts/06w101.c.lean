def zo_r_later : List Cond := [.code yX9_later cX9_later 2 (some .int), .methodLink RX9 389 yX9_isIn, .static yX9_isIn, .initialized RX9, .fieldLink RX9 517 "BowWalkModel" "time" "I", .constant RX9 458 (100000)]
def zw_r_later : List Cond := zo_r_later ++ (zw_r_isIn ++ (wsX90 ++ []))
theorem gz_r_later : zw_r_later.all goodWord = true := p1_ga (by decide +kernel) (p1_ga gz_r_isIn (p1_ga gk_X9 p1_g0))
theorem iz_r_later : ∀ w ∈ zw_r_later, w ∈ lw_tbl := p1_ia (p1_all [1643, 1439, 1440, 116, 1113, 1462] (by decide +kernel)) (p1_ia iz_r_isIn (p1_ia ik_X9 p1_i0))
def zW_r_later (p0 : Nat) (f_p0 : List Value) : va_W := [(p0, .inr (8, f_p0))]
def zT_r_later : List (ClassId × FieldType) := []
def zA_r_later (p0 : Nat) : List Nat := [p0]
theorem za_r_later {p0 : Nat} {f_p0 : List Value} : (zW_r_later p0 f_p0).map Prod.fst = (zA_r_later p0) := rfl
def zG_r_later (p0 : Nat) (f_p0 : List Value) (a1 : Int32) (tm : Int32) (r : Int32) (X : va_W → Prop) : Prop := ∃ (y_p0 : List Value) (tm1 : Int32), ((0 ≤ a1.toInt ∧ a1.toInt ≤ 1000 ∧ tm.toInt + a1.toInt ≤ 100000 ∧ r.toInt = tm.toInt + a1.toInt ∧ tm1.toInt = tm.toInt + a1.toInt) ∨ ((a1.toInt < 0 ∨ 1000 < a1.toInt ∨ 100000 < tm.toInt + a1.toInt) ∧ r.toInt = -1 ∧ tm1.toInt = tm.toInt)) ∧ OKX9 y_p0 ∧ q_fr [76] f_p0 y_p0 ∧ q_if y_p0 76 tm1 ∧ X (zW_r_later p0 y_p0)
theorem zm_r_later {p0 : Nat} {f_p0 : List Value} {a1 : Int32} {tm : Int32} : ∀ (r : Int32), ∀ X Y : va_W → Prop, (∀ w, X w → Y w) → zG_r_later p0 f_p0 a1 tm r X → zG_r_later p0 f_p0 a1 tm r Y := fun r X Y h h1 => by obtain ⟨x0, x1, x2, x3, x4, x5, hx⟩ := h1; exact ⟨x0, x1, x2, x3, x4, x5, h _ hx⟩
set_option maxHeartbeats 4000000 in
set_option maxRecDepth 100000 in
theorem r_later (l : Launch) (dC : Nat → ClassId) (dI : Nat → Nat → Nat) (sz : Nat) (p0 : Nat) (f_p0 : List Value) (a1 : Int32) (tm : Int32) (ho_p0 : OKX9 f_p0) (pf_tm : q_if f_p0 76 tm) : Met l yX9_later zw_r_later ({ frames := 1, cells := 0, slots := 0, locals := 22 }) (va_Pc [.ref p0, .int a1] (q_pre (dC, dI) (zW_r_later p0 f_p0) (zT_r_later) q_E0 sz)) (q_Qi (dC, dI) (zG_r_later p0 f_p0 a1 tm) (zA_r_later p0) (va_A (zW_r_later p0 f_p0) sz)) 0 0 (va_A (zW_r_later p0 f_p0) sz) := by
  refine Met.ofW (cc := cX9_later) (maxL := 2) (ret := (some .int)) (by decide) rfl ?_
  intro p e s m args below meth c s₁ B hml hv
  obtain ⟨rfl, hsz, hP, hK, hD0, hE⟩ := hv
  have hx := B.exec
  have hb := B.bytes
  have hr := B.returns
  have hts := atoms_spec (ws := zw_r_later) B.pre
  have hown : s.vm.findClass RX9 = some m.cls := findClass_of_methodNamed B.named
  have hlocks := B.notSynchronized
  subst hsz
  have hD := hD0.self (sz := s.heap.size)
  generalize hAe : va_A (zW_r_later p0 f_p0) s.heap.size = A at hD hE ⊢
  have hA : ∀ q : Nat, s.heap.size ≤ q → A q := fun q h => by rw [← hAe]; exact Or.inr h
  have hDa : q_DA A (zA_r_later p0) := q_DA.mk hD za_r_later
  clear hAe hD0 hD
  have hS : va_S A s.heap s.heap [] := va_S.rf
  have m_0 : (.methodLink RX9 389 yX9_isIn : Cond) ∈ zw_r_later := List.mem_append_left _ (List.mem_of_getElem? (i := 1) rfl)
  have k_0 := hts _ m_0
  have m_1 : (.static yX9_isIn : Cond) ∈ zw_r_later := List.mem_append_left _ (List.mem_of_getElem? (i := 2) rfl)
  have k_1 := hts _ m_1
  have m_2 : (.initialized RX9 : Cond) ∈ zw_r_later := List.mem_append_left _ (List.mem_of_getElem? (i := 3) rfl)
  have k_2 := hts _ m_2
  have m_3 : (.fieldLink RX9 517 "BowWalkModel" "time" "I" : Cond) ∈ zw_r_later := List.mem_append_left _ (List.mem_of_getElem? (i := 4) rfl)
  have k_3 := hts _ m_3
  have m_4 : (.constant RX9 458 (100000) : Cond) ∈ zw_r_later := List.mem_append_left _ (List.mem_of_getElem? (i := 5) rfl)
  have k_4 := hts _ m_4
  have g_r_isIn : ∀ w ∈ zw_r_isIn, w ∈ zw_r_later := fun w h => List.mem_append_right _ (List.mem_append_left _ h)
  have i_X9 : ∀ w ∈ u_ws RX9 TX9 81, w ∈ zw_r_later := fun w h => List.mem_append_right _ (List.mem_append_right _ (List.mem_append_left _ h))
  have lt_m1 : ((-1) : Int32).toInt = -1 := by decide
  have lt_0 : (0 : Int32).toInt = 0 := by decide
  have lt_1 : (1 : Int32).toInt = 1 := by decide
  have lt_1000 : (1000 : Int32).toInt = 1000 := by decide
  have lt_100000 : (100000 : Int32).toInt = 100000 := by decide
  have hl := lv_entry ([.ref p0, .int a1]) (n := 2) (Nat.le_of_ble_eq_true rfl)
  rw [lg_entry_eq]
  generalize (lg_sl ([.ref p0, .int a1]) ++ List.replicate (2 - (lg_sl ([.ref p0, .int a1])).length) Slot.unset).toArray = ls at hl ⊢
  have hl : lv_has ls 2 [(0, .ref p0), (1, .int a1)] := hl
  have ttm := (OKX9_g76 ho_p0).use pf_tm
  refine lv_iload_n hx hb dX9_later_0 rfl (lv_at hl 1 rfl) (lv_iconst (v := 0) hx hb dX9_later_1 (by decide) (lv_sipush (v := 1000) hx hb dX9_later_2 (by decide) ?_))
  refine q_cSi (As := [.int a1, .int 0, .int 1000]) (rest := []) q_w0 trivial hK hP hDa za_r_later hS hA [] [] (by decide +kernel) ⟨hx, hb, hml, hown, hts⟩ (r_isIn l dC dI s.heap.size a1 0 1000) rfl rfl (va_cwS 3 hts (p1_gS m_0 m_1 m_2 g_r_isIn gz_r_isIn) rfl rfl rfl (by decide +kernel) ⟨by decide, by decide⟩) zm_r_isIn rfl hl.1 rfl (Nat.le_of_ble_eq_true rfl) dX9_later_5 ⟨by decide, by decide⟩ (fun r_1 H2 lo2 hG2 hS2 => ?_)
  obtain ⟨z_3, hQ2⟩ := hG2
  have hP2 : va_P (dC, dI) vwCl (zW_r_later p0 f_p0) H2 := hQ2
  clear hQ2 hP hS
  rcases z_3 with ⟨rfl, z_3⟩ | ⟨rfl, z_3⟩
  · refine lv_if_eq (tgt := 23) hx hb dX9_later_8 (by decide) (fun c_4 => absurd c_4 (by decide)) (fun c_4 => ?_)
    refine lv_aload_n hx hb dX9_later_11 rfl (lv_at hl 0 rfl) (qg_X9_76 hx hb hts i_X9 hown hK hP2 0 rfl k_3 pf_tm dX9_later_12 (lv_iload_n hx hb dX9_later_15 rfl (lv_at hl 1 rfl) (lv_iadd hx hb dX9_later_16 (lv_topi fun v_5 ev_5 => ?_))))
    have tv_5 := q_add ev_5 (by omega) (by omega)
    refine lv_ldcw (v := 100000) hx hb hown k_4 dX9_later_17 ?_
    refine lv_icmp_le (tgt := 25) hx hb dX9_later_20 (by decide) (fun c_6 => ?_) (fun c_6 => ?_)
    · have tc_6 := q_le c_6
      refine lv_aload_n hx hb dX9_later_25 rfl (lv_at hl 0 rfl) (lv_dup hx hb dX9_later_26 rfl (qg_X9_76 hx hb hts i_X9 hown hK hP2 0 rfl k_3 pf_tm dX9_later_27 (lv_iload_n hx hb dX9_later_30 rfl (lv_at hl 1 rfl) (lv_iadd hx hb dX9_later_31 (lv_topi fun v_7 ev_7 => ?_)))))
      have tv_7 := q_add ev_7 (by omega) (by omega)
      refine qp_X9_76 hx hb hts i_X9 hown hK hP2 hDa za_r_later hS2 0 rfl k_3 (OKX9_l ho_p0) dX9_later_32 (fun H8 lo8 fs8 efs8 (hP8 : va_P (dC, dI) vwCl (zW_r_later p0 fs8) H8) hS8 => ?_)
      have ho8 := OKX9_p76 ho_p0 efs8 ⟨by omega, by omega⟩
      clear hP2 hS2
      refine lv_aload_n hx hb dX9_later_35 rfl (lv_at hl 0 rfl) (qg_X9_76 hx hb hts i_X9 hown hK hP8 0 rfl k_3 (q_sa efs8 (OKX9_l ho_p0) (by decide)) dX9_later_36 ?_)
      exact q_iret hx hb hr hlocks hS8 dX9_later_39 ⟨fs8, v_7, (by omega), ho8, (q_fr.rf.st efs8 (by decide)), (q_sa efs8 (OKX9_l ho_p0) (by decide)), hP8, za_r_later⟩
    · have tc_6 := q_gtN c_6
      refine lv_iconst (v := (-1)) hx hb dX9_later_23 (by decide) ?_
      exact q_iret hx hb hr hlocks hS2 dX9_later_24 ⟨f_p0, tm, (by omega), ho_p0, q_fr.rf, pf_tm, hP2, za_r_later⟩
  · refine lv_if_eq (tgt := 23) hx hb dX9_later_8 (by decide) (fun c_9 => ?_) (fun c_9 => absurd c_9 (by decide))
    refine lv_iconst (v := (-1)) hx hb dX9_later_23 (by decide) ?_
    exact q_iret hx hb hr hlocks hS2 dX9_later_24 ⟨f_p0, tm, (by omega), ho_p0, q_fr.rf, pf_tm, hP2, za_r_later⟩
