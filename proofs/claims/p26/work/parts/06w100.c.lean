def zo_t_later : List Cond := [.code yX8_later cX8_later 2 (some .int), .methodLink RX8 150 yX8_within, .static yX8_within, .initialized RX8, .fieldLink RX8 75 "BowWalk" "time" "I", .constant RX8 157 (100000)]
def zw_t_later : List Cond := zo_t_later ++ (zw_t_within ++ (wsX80 ++ []))
theorem gz_t_later : zw_t_later.all goodWord = true := p1_ga (by decide +kernel) (p1_ga gz_t_within (p1_ga gk_X8 p1_g0))
theorem iz_t_later : ∀ w ∈ zw_t_later, w ∈ lw_tbl := p1_ia (p1_all [975, 749, 750, 104, 512, 752] (by decide +kernel)) (p1_ia iz_t_within (p1_ia ik_X8 p1_i0))
def zW_t_later (p0 : Nat) (f_p0 : List Value) : va_W := [(p0, .inr (7, f_p0))]
def zT_t_later : List (ClassId × FieldType) := []
def zA_t_later (p0 : Nat) : List Nat := [p0]
theorem za_t_later {p0 : Nat} {f_p0 : List Value} : (zW_t_later p0 f_p0).map Prod.fst = (zA_t_later p0) := rfl
def zG_t_later (p0 : Nat) (f_p0 : List Value) (a1 : Int32) (tm : Int32) (r : Int32) (X : va_W → Prop) : Prop := ∃ (y_p0 : List Value) (tm1 : Int32), ((0 ≤ a1.toInt ∧ a1.toInt ≤ 1000 ∧ tm.toInt + a1.toInt ≤ 100000 ∧ r.toInt = tm.toInt + a1.toInt ∧ tm1.toInt = tm.toInt + a1.toInt) ∨ ((a1.toInt < 0 ∨ 1000 < a1.toInt ∨ 100000 < tm.toInt + a1.toInt) ∧ r.toInt = -1 ∧ tm1.toInt = tm.toInt)) ∧ OKX8 y_p0 ∧ q_fr [13] f_p0 y_p0 ∧ q_if y_p0 13 tm1 ∧ X (zW_t_later p0 y_p0)
theorem zm_t_later {p0 : Nat} {f_p0 : List Value} {a1 : Int32} {tm : Int32} : ∀ (r : Int32), ∀ X Y : va_W → Prop, (∀ w, X w → Y w) → zG_t_later p0 f_p0 a1 tm r X → zG_t_later p0 f_p0 a1 tm r Y := fun r X Y h h1 => by obtain ⟨x0, x1, x2, x3, x4, x5, hx⟩ := h1; exact ⟨x0, x1, x2, x3, x4, x5, h _ hx⟩
set_option maxHeartbeats 4000000 in
set_option maxRecDepth 100000 in
theorem t_later (l : Launch) (dC : Nat → ClassId) (dI : Nat → Nat → Nat) (sz : Nat) (p0 : Nat) (f_p0 : List Value) (a1 : Int32) (tm : Int32) (ho_p0 : OKX8 f_p0) (pf_tm : q_if f_p0 13 tm) : Met l yX8_later zw_t_later ({ frames := 1, cells := 0, slots := 0, locals := 22 }) (va_Pc [.ref p0, .int a1] (q_pre (dC, dI) (zW_t_later p0 f_p0) (zT_t_later) q_E0 sz)) (q_Qi (dC, dI) (zG_t_later p0 f_p0 a1 tm) (zA_t_later p0) (va_A (zW_t_later p0 f_p0) sz)) 0 0 (va_A (zW_t_later p0 f_p0) sz) := by
  refine Met.ofW (cc := cX8_later) (maxL := 2) (ret := (some .int)) (by decide) rfl ?_
  intro p e s m args below meth c s₁ B hml hv
  obtain ⟨rfl, hsz, hP, hK, hD0, hE⟩ := hv
  have hx := B.exec
  have hb := B.bytes
  have hr := B.returns
  have hts := atoms_spec (ws := zw_t_later) B.pre
  have hown : s.vm.findClass RX8 = some m.cls := findClass_of_methodNamed B.named
  have hlocks := B.notSynchronized
  subst hsz
  have hD := hD0.self (sz := s.heap.size)
  generalize hAe : va_A (zW_t_later p0 f_p0) s.heap.size = A at hD hE ⊢
  have hA : ∀ q : Nat, s.heap.size ≤ q → A q := fun q h => by rw [← hAe]; exact Or.inr h
  have hDa : q_DA A (zA_t_later p0) := q_DA.mk hD za_t_later
  clear hAe hD0 hD
  have hS : va_S A s.heap s.heap [] := va_S.rf
  have m_0 : (.methodLink RX8 150 yX8_within : Cond) ∈ zw_t_later := List.mem_append_left _ (List.mem_of_getElem? (i := 1) rfl)
  have k_0 := hts _ m_0
  have m_1 : (.static yX8_within : Cond) ∈ zw_t_later := List.mem_append_left _ (List.mem_of_getElem? (i := 2) rfl)
  have k_1 := hts _ m_1
  have m_2 : (.initialized RX8 : Cond) ∈ zw_t_later := List.mem_append_left _ (List.mem_of_getElem? (i := 3) rfl)
  have k_2 := hts _ m_2
  have m_3 : (.fieldLink RX8 75 "BowWalk" "time" "I" : Cond) ∈ zw_t_later := List.mem_append_left _ (List.mem_of_getElem? (i := 4) rfl)
  have k_3 := hts _ m_3
  have m_4 : (.constant RX8 157 (100000) : Cond) ∈ zw_t_later := List.mem_append_left _ (List.mem_of_getElem? (i := 5) rfl)
  have k_4 := hts _ m_4
  have g_t_within : ∀ w ∈ zw_t_within, w ∈ zw_t_later := fun w h => List.mem_append_right _ (List.mem_append_left _ h)
  have i_X8 : ∀ w ∈ u_ws RX8 TX8 14, w ∈ zw_t_later := fun w h => List.mem_append_right _ (List.mem_append_right _ (List.mem_append_left _ h))
  have lt_m1 : ((-1) : Int32).toInt = -1 := by decide
  have lt_0 : (0 : Int32).toInt = 0 := by decide
  have lt_1 : (1 : Int32).toInt = 1 := by decide
  have lt_1000 : (1000 : Int32).toInt = 1000 := by decide
  have lt_100000 : (100000 : Int32).toInt = 100000 := by decide
  have hl := lv_entry ([.ref p0, .int a1]) (n := 2) (Nat.le_of_ble_eq_true rfl)
  rw [lg_entry_eq]
  generalize (lg_sl ([.ref p0, .int a1]) ++ List.replicate (2 - (lg_sl ([.ref p0, .int a1])).length) Slot.unset).toArray = ls at hl ⊢
  have hl : lv_has ls 2 [(0, .ref p0), (1, .int a1)] := hl
  have ttm := (OKX8_g13 ho_p0).use pf_tm
  refine lv_iload_n hx hb dX8_later_0 rfl (lv_at hl 1 rfl) (lv_iconst (v := 0) hx hb dX8_later_1 (by decide) (lv_sipush (v := 1000) hx hb dX8_later_2 (by decide) ?_))
  refine q_cSi (As := [.int a1, .int 0, .int 1000]) (rest := []) q_w0 trivial hK hP hDa za_t_later hS hA [] [] (by decide +kernel) ⟨hx, hb, hml, hown, hts⟩ (t_within l dC dI s.heap.size a1 0 1000) rfl rfl (va_cwS 3 hts (p1_gS m_0 m_1 m_2 g_t_within gz_t_within) rfl rfl rfl (by decide +kernel) ⟨by decide, by decide⟩) zm_t_within rfl hl.1 rfl (Nat.le_of_ble_eq_true rfl) dX8_later_5 ⟨by decide, by decide⟩ (fun r_1 H2 lo2 hG2 hS2 => ?_)
  obtain ⟨z_3, hQ2⟩ := hG2
  have hP2 : va_P (dC, dI) vwCl (zW_t_later p0 f_p0) H2 := hQ2
  clear hQ2 hP hS
  rcases z_3 with ⟨rfl, z_3⟩ | ⟨rfl, z_3⟩
  · refine lv_if_eq (tgt := 22) hx hb dX8_later_8 (by decide) (fun c_4 => absurd c_4 (by decide)) (fun c_4 => ?_)
    refine lv_aload_n hx hb dX8_later_11 rfl (lv_at hl 0 rfl) (qg_X8_13 hx hb hts i_X8 hown hK hP2 0 rfl k_3 pf_tm dX8_later_12 (lv_iload_n hx hb dX8_later_15 rfl (lv_at hl 1 rfl) (lv_iadd hx hb dX8_later_16 (lv_topi fun v_5 ev_5 => ?_))))
    have tv_5 := q_add ev_5 (by omega) (by omega)
    refine lv_ldc (v := 100000) hx hb hown k_4 dX8_later_17 ?_
    refine lv_icmp_le (tgt := 24) hx hb dX8_later_19 (by decide) (fun c_6 => ?_) (fun c_6 => ?_)
    · have tc_6 := q_le c_6
      refine lv_aload_n hx hb dX8_later_24 rfl (lv_at hl 0 rfl) (lv_dup hx hb dX8_later_25 rfl (qg_X8_13 hx hb hts i_X8 hown hK hP2 0 rfl k_3 pf_tm dX8_later_26 (lv_iload_n hx hb dX8_later_29 rfl (lv_at hl 1 rfl) (lv_iadd hx hb dX8_later_30 (lv_topi fun v_7 ev_7 => ?_)))))
      have tv_7 := q_add ev_7 (by omega) (by omega)
      refine qp_X8_13 hx hb hts i_X8 hown hK hP2 hDa za_t_later hS2 0 rfl k_3 (OKX8_l ho_p0) dX8_later_31 (fun H8 lo8 fs8 efs8 (hP8 : va_P (dC, dI) vwCl (zW_t_later p0 fs8) H8) hS8 => ?_)
      have ho8 := OKX8_p13 ho_p0 efs8 ⟨by omega, by omega⟩
      clear hP2 hS2
      refine lv_aload_n hx hb dX8_later_34 rfl (lv_at hl 0 rfl) (qg_X8_13 hx hb hts i_X8 hown hK hP8 0 rfl k_3 (q_sa efs8 (OKX8_l ho_p0) (by decide)) dX8_later_35 ?_)
      exact q_iret hx hb hr hlocks hS8 dX8_later_38 ⟨fs8, v_7, (by omega), ho8, (q_fr.rf.st efs8 (by decide)), (q_sa efs8 (OKX8_l ho_p0) (by decide)), hP8, za_t_later⟩
    · have tc_6 := q_gtN c_6
      refine lv_iconst (v := (-1)) hx hb dX8_later_22 (by decide) ?_
      exact q_iret hx hb hr hlocks hS2 dX8_later_23 ⟨f_p0, tm, (by omega), ho_p0, q_fr.rf, pf_tm, hP2, za_t_later⟩
  · refine lv_if_eq (tgt := 22) hx hb dX8_later_8 (by decide) (fun c_9 => ?_) (fun c_9 => absurd c_9 (by decide))
    refine lv_iconst (v := (-1)) hx hb dX8_later_22 (by decide) ?_
    exact q_iret hx hb hr hlocks hS2 dX8_later_23 ⟨f_p0, tm, (by omega), ho_p0, q_fr.rf, pf_tm, hP2, za_t_later⟩
