def zo_t_feed : List Cond := [.code yX8_feed cX8_feed 6 (some .int), .fieldLink RX8 64 "BowWalk" "tapeLength" "I", .methodLink RX8 79 yX8_putBytes, .instanceMethod yX8_putBytes, .selects RX8 yX8_putBytes yX8_putBytes, .initialized RX8]
def zw_t_feed : List Cond := zo_t_feed ++ (zw_t_putBytes ++ (wsX80 ++ []))
theorem gz_t_feed : zw_t_feed.all goodWord = true := p1_ga (by decide +kernel) (p1_ga gz_t_putBytes (p1_ga gk_X8 p1_g0))
theorem iz_t_feed : ∀ w ∈ zw_t_feed, w ∈ lw_tbl := p1_ia (p1_all [545, 509, 546, 548, 0, 104] (by decide +kernel)) (p1_ia iz_t_putBytes (p1_ia ik_X8 p1_i0))
def zW_t_feed (p0 : Nat) (f_p0 : List Value) (p0_tape : Nat) (c_p0_tape : ClassId) (b_p0_tape : Nat → Int32) : va_W := [(p0, .inr (7, f_p0)), (p0_tape, .inl (c_p0_tape, 1600, .inl b_p0_tape))]
def zT_t_feed (c_p0_tape : ClassId) : List (ClassId × FieldType) := [(c_p0_tape, .byte)]
def zA_t_feed (p0 : Nat) (p0_tape : Nat) : List Nat := [p0, p0_tape]
theorem za_t_feed {p0 : Nat} {f_p0 : List Value} {p0_tape : Nat} {c_p0_tape : ClassId} {b_p0_tape : Nat → Int32} : (zW_t_feed p0 f_p0 p0_tape c_p0_tape b_p0_tape).map Prod.fst = (zA_t_feed p0 p0_tape) := rfl
def zG_t_feed (p0 : Nat) (f_p0 : List Value) (p0_tape : Nat) (c_p0_tape : ClassId) (b_p0_tape : Nat → Int32) (a1 : Int32) (a2 : Int32) (a3 : Int32) (a4 : Int32) (a5 : Int32) (r : Int32) (X : va_W → Prop) : Prop := ∃ (y_p0 : List Value) (y_p0_tape : Nat → Int32), OKX8 y_p0 ∧ q_fr [10] f_p0 y_p0 ∧ X (zW_t_feed p0 y_p0 p0_tape c_p0_tape y_p0_tape)
theorem zm_t_feed {p0 : Nat} {f_p0 : List Value} {p0_tape : Nat} {c_p0_tape : ClassId} {b_p0_tape : Nat → Int32} {a1 : Int32} {a2 : Int32} {a3 : Int32} {a4 : Int32} {a5 : Int32} : ∀ (r : Int32), ∀ X Y : va_W → Prop, (∀ w, X w → Y w) → zG_t_feed p0 f_p0 p0_tape c_p0_tape b_p0_tape a1 a2 a3 a4 a5 r X → zG_t_feed p0 f_p0 p0_tape c_p0_tape b_p0_tape a1 a2 a3 a4 a5 r Y := fun r X Y h h1 => by obtain ⟨x0, x1, x2, x3, hx⟩ := h1; exact ⟨x0, x1, x2, x3, h _ hx⟩
set_option maxHeartbeats 4000000 in
set_option maxRecDepth 100000 in
theorem t_feed (l : Launch) (dC : Nat → ClassId) (dI : Nat → Nat → Nat) (sz : Nat) (p0 : Nat) (f_p0 : List Value) (p0_tape : Nat) (c_p0_tape : ClassId) (b_p0_tape : Nat → Int32) (a1 : Int32) (a2 : Int32) (a3 : Int32) (a4 : Int32) (a5 : Int32) (ho_p0 : OKX8 f_p0) (fr_p0_0 : q_rf f_p0 0 p0_tape) : Met l yX8_feed zw_t_feed ({ frames := 1, cells := 0, slots := 0, locals := 22 }) (va_Pc [.ref p0, .int a1, .int a2, .int a3, .int a4, .int a5] (q_pre (dC, dI) (zW_t_feed p0 f_p0 p0_tape c_p0_tape b_p0_tape) (zT_t_feed c_p0_tape) q_E0 sz)) (q_Qi (dC, dI) (zG_t_feed p0 f_p0 p0_tape c_p0_tape b_p0_tape a1 a2 a3 a4 a5) (zA_t_feed p0 p0_tape) (va_A (zW_t_feed p0 f_p0 p0_tape c_p0_tape b_p0_tape) sz)) 0 0 (va_A (zW_t_feed p0 f_p0 p0_tape c_p0_tape b_p0_tape) sz) := by
  refine Met.ofW (cc := cX8_feed) (maxL := 6) (ret := (some .int)) (by decide) rfl ?_
  intro p e s m args below meth c s₁ B hml hv
  obtain ⟨rfl, hsz, hP, hK, hD0, hE⟩ := hv
  have hx := B.exec
  have hb := B.bytes
  have hr := B.returns
  have hts := atoms_spec (ws := zw_t_feed) B.pre
  have hown : s.vm.findClass RX8 = some m.cls := findClass_of_methodNamed B.named
  have hlocks := B.notSynchronized
  subst hsz
  have hD := hD0.self (sz := s.heap.size)
  generalize hAe : va_A (zW_t_feed p0 f_p0 p0_tape c_p0_tape b_p0_tape) s.heap.size = A at hD hE ⊢
  have hA : ∀ q : Nat, s.heap.size ≤ q → A q := fun q h => by rw [← hAe]; exact Or.inr h
  have hDa : q_DA A (zA_t_feed p0 p0_tape) := q_DA.mk hD za_t_feed
  clear hAe hD0 hD
  have hS : va_S A s.heap s.heap [] := va_S.rf
  have m_0 : (.fieldLink RX8 64 "BowWalk" "tapeLength" "I" : Cond) ∈ zw_t_feed := List.mem_append_left _ (List.mem_of_getElem? (i := 1) rfl)
  have k_0 := hts _ m_0
  have m_1 : (.methodLink RX8 79 yX8_putBytes : Cond) ∈ zw_t_feed := List.mem_append_left _ (List.mem_of_getElem? (i := 2) rfl)
  have k_1 := hts _ m_1
  have m_2 : (.instanceMethod yX8_putBytes : Cond) ∈ zw_t_feed := List.mem_append_left _ (List.mem_of_getElem? (i := 3) rfl)
  have k_2 := hts _ m_2
  have m_3 : (.selects RX8 yX8_putBytes yX8_putBytes : Cond) ∈ zw_t_feed := List.mem_append_left _ (List.mem_of_getElem? (i := 4) rfl)
  have k_3 := hts _ m_3
  have m_4 : (.initialized RX8 : Cond) ∈ zw_t_feed := List.mem_append_left _ (List.mem_of_getElem? (i := 5) rfl)
  have k_4 := hts _ m_4
  have g_t_putBytes : ∀ w ∈ zw_t_putBytes, w ∈ zw_t_feed := fun w h => List.mem_append_right _ (List.mem_append_left _ h)
  have i_X8 : ∀ w ∈ u_ws RX8 TX8 14, w ∈ zw_t_feed := fun w h => List.mem_append_right _ (List.mem_append_right _ (List.mem_append_left _ h))
  have lt_m1 : ((-1) : Int32).toInt = -1 := by decide
  have lt_20 : (20 : Int32).toInt = 20 := by decide
  have lt_1600 : (1600 : Int32).toInt = 1600 := by decide
  have hl := lv_entry ([.ref p0, .int a1, .int a2, .int a3, .int a4, .int a5]) (n := 6) (Nat.le_of_ble_eq_true rfl)
  rw [lg_entry_eq]
  generalize (lg_sl ([.ref p0, .int a1, .int a2, .int a3, .int a4, .int a5]) ++ List.replicate (6 - (lg_sl ([.ref p0, .int a1, .int a2, .int a3, .int a4, .int a5])).length) Slot.unset).toArray = ls at hl ⊢
  have hl : lv_has ls 6 [(0, .ref p0), (1, .int a1), (2, .int a2), (3, .int a3), (4, .int a4), (5, .int a5)] := hl
  refine lv_aload_n hx hb dX8_feed_0 rfl (lv_at hl 0 rfl) ?_
  obtain ⟨v_1, fv_1, tv_1⟩ := OKX8_g10 ho_p0
  refine qg_X8_10 hx hb hts i_X8 hown hK hP 0 rfl k_0 fv_1 dX8_feed_1 (lv_bipush (v := 20) hx hb dX8_feed_4 (by decide) (lv_iadd hx hb dX8_feed_6 (lv_topi fun v_2 ev_2 => ?_)))
  have tv_2 := q_add ev_2 (by omega) (by omega)
  refine lv_sipush (v := 1600) hx hb dX8_feed_7 (by decide) ?_
  refine lv_icmp_le (tgt := 15) hx hb dX8_feed_10 (by decide) (fun c_3 => ?_) (fun c_3 => ?_)
  · have tc_3 := q_le c_3
    refine lv_aload_n hx hb dX8_feed_15 rfl (lv_at hl 0 rfl) (lv_iload_n hx hb dX8_feed_16 rfl (lv_at hl 1 rfl) ?_)
    refine q_cVv (As := [.int a1]) (rest := []) q_w0 trivial hK hP hDa za_t_feed hS hA [0, 1] [0] (by decide +kernel) ⟨hx, hb, hml, hown, hts⟩ (t_putBytes l dC dI s.heap.size p0 f_p0 p0_tape c_p0_tape b_p0_tape a1 ho_p0 fr_p0_0) rfl rfl (cwV 1 hts (p1_gV m_1 m_2 m_3 m_4 g_t_putBytes gz_t_putBytes) rfl rfl rfl (by decide +kernel) ⟨by decide, by decide⟩) (va_recv hK hP (ci := 7) (q0 := 0) rfl rfl) zm_t_putBytes rfl hl.1 rfl (Nat.le_of_ble_eq_true rfl) dX8_feed_17 ⟨by decide, by decide⟩ (fun H5 lo5 hG5 hS5 => ?_)
    obtain ⟨o_6, o_7, ho_8, hf_9, hQ5⟩ := hG5
    have hP5 : va_P (dC, dI) vwCl (zW_t_feed p0 o_6 p0_tape c_p0_tape o_7) H5 := hQ5
    clear hQ5 hP hS
    refine lv_aload_n hx hb dX8_feed_20 rfl (lv_at hl 0 rfl) (lv_iload_n hx hb dX8_feed_21 rfl (lv_at hl 2 rfl) ?_)
    refine q_cVv (As := [.int a2]) (rest := []) q_w0 trivial hK hP5 hDa za_t_feed hS5 hA [0, 1] [0] (by decide +kernel) ⟨hx, hb, hml, hown, hts⟩ (t_putBytes l dC dI H5.size p0 o_6 p0_tape c_p0_tape o_7 a2 ho_8 ((hf_9.u (by decide) fr_p0_0))) rfl rfl (cwV 1 hts (p1_gV m_1 m_2 m_3 m_4 g_t_putBytes gz_t_putBytes) rfl rfl rfl (by decide +kernel) ⟨by decide, by decide⟩) (va_recv hK hP5 (ci := 7) (q0 := 0) rfl rfl) zm_t_putBytes rfl hl.1 rfl (Nat.le_of_ble_eq_true rfl) dX8_feed_22 ⟨by decide, by decide⟩ (fun H11 lo11 hG11 hS11 => ?_)
    obtain ⟨o_12, o_13, ho_14, hf_15, hQ11⟩ := hG11
    have hP11 : va_P (dC, dI) vwCl (zW_t_feed p0 o_12 p0_tape c_p0_tape o_13) H11 := hQ11
    clear hQ11 hP5 hS5
    refine lv_aload_n hx hb dX8_feed_25 rfl (lv_at hl 0 rfl) (lv_iload_n hx hb dX8_feed_26 rfl (lv_at hl 3 rfl) ?_)
    refine q_cVv (As := [.int a3]) (rest := []) q_w0 trivial hK hP11 hDa za_t_feed hS11 hA [0, 1] [0] (by decide +kernel) ⟨hx, hb, hml, hown, hts⟩ (t_putBytes l dC dI H11.size p0 o_12 p0_tape c_p0_tape o_13 a3 ho_14 ((hf_15.u (by decide) (hf_9.u (by decide) fr_p0_0)))) rfl rfl (cwV 1 hts (p1_gV m_1 m_2 m_3 m_4 g_t_putBytes gz_t_putBytes) rfl rfl rfl (by decide +kernel) ⟨by decide, by decide⟩) (va_recv hK hP11 (ci := 7) (q0 := 0) rfl rfl) zm_t_putBytes rfl hl.1 rfl (Nat.le_of_ble_eq_true rfl) dX8_feed_27 ⟨by decide, by decide⟩ (fun H17 lo17 hG17 hS17 => ?_)
    obtain ⟨o_18, o_19, ho_20, hf_21, hQ17⟩ := hG17
    have hP17 : va_P (dC, dI) vwCl (zW_t_feed p0 o_18 p0_tape c_p0_tape o_19) H17 := hQ17
    clear hQ17 hP11 hS11
    refine lv_aload_n hx hb dX8_feed_30 rfl (lv_at hl 0 rfl) (lv_iload hx hb dX8_feed_31 (lv_at hl 4 rfl) ?_)
    refine q_cVv (As := [.int a4]) (rest := []) q_w0 trivial hK hP17 hDa za_t_feed hS17 hA [0, 1] [0] (by decide +kernel) ⟨hx, hb, hml, hown, hts⟩ (t_putBytes l dC dI H17.size p0 o_18 p0_tape c_p0_tape o_19 a4 ho_20 ((hf_21.u (by decide) (hf_15.u (by decide) (hf_9.u (by decide) fr_p0_0))))) rfl rfl (cwV 1 hts (p1_gV m_1 m_2 m_3 m_4 g_t_putBytes gz_t_putBytes) rfl rfl rfl (by decide +kernel) ⟨by decide, by decide⟩) (va_recv hK hP17 (ci := 7) (q0 := 0) rfl rfl) zm_t_putBytes rfl hl.1 rfl (Nat.le_of_ble_eq_true rfl) dX8_feed_33 ⟨by decide, by decide⟩ (fun H23 lo23 hG23 hS23 => ?_)
    obtain ⟨o_24, o_25, ho_26, hf_27, hQ23⟩ := hG23
    have hP23 : va_P (dC, dI) vwCl (zW_t_feed p0 o_24 p0_tape c_p0_tape o_25) H23 := hQ23
    clear hQ23 hP17 hS17
    refine lv_aload_n hx hb dX8_feed_36 rfl (lv_at hl 0 rfl) (lv_iload hx hb dX8_feed_37 (lv_at hl 5 rfl) ?_)
    refine q_cVv (As := [.int a5]) (rest := []) q_w0 trivial hK hP23 hDa za_t_feed hS23 hA [0, 1] [0] (by decide +kernel) ⟨hx, hb, hml, hown, hts⟩ (t_putBytes l dC dI H23.size p0 o_24 p0_tape c_p0_tape o_25 a5 ho_26 ((hf_27.u (by decide) (hf_21.u (by decide) (hf_15.u (by decide) (hf_9.u (by decide) fr_p0_0)))))) rfl rfl (cwV 1 hts (p1_gV m_1 m_2 m_3 m_4 g_t_putBytes gz_t_putBytes) rfl rfl rfl (by decide +kernel) ⟨by decide, by decide⟩) (va_recv hK hP23 (ci := 7) (q0 := 0) rfl rfl) zm_t_putBytes rfl hl.1 rfl (Nat.le_of_ble_eq_true rfl) dX8_feed_39 ⟨by decide, by decide⟩ (fun H29 lo29 hG29 hS29 => ?_)
    obtain ⟨o_30, o_31, ho_32, hf_33, hQ29⟩ := hG29
    have hP29 : va_P (dC, dI) vwCl (zW_t_feed p0 o_30 p0_tape c_p0_tape o_31) H29 := hQ29
    clear hQ29 hP23 hS23
    refine lv_aload_n hx hb dX8_feed_42 rfl (lv_at hl 0 rfl) ?_
    obtain ⟨v_34, fv_34, tv_34⟩ := OKX8_g10 ho_32
    refine qg_X8_10 hx hb hts i_X8 hown hK hP29 0 rfl k_0 fv_34 dX8_feed_43 ?_
    exact q_iret hx hb hr hlocks hS29 dX8_feed_46 ⟨o_30, o_31, ho_32, (((((q_fr.rf.tr hf_9 (by decide)).tr hf_15 (by decide)).tr hf_21 (by decide)).tr hf_27 (by decide)).tr hf_33 (by decide)), hP29, za_t_feed⟩
  · have tc_3 := q_gtN c_3
    refine lv_iconst (v := (-1)) hx hb dX8_feed_13 (by decide) ?_
    exact q_iret hx hb hr hlocks hS dX8_feed_14 ⟨f_p0, b_p0_tape, ho_p0, q_fr.rf, hP, za_t_feed⟩
def zo_t_end : List Cond := [.code yX8_end cX8_end 2 (some .int), .fieldLink RX8 64 "BowWalk" "tapeLength" "I"]
def zw_t_end : List Cond := zo_t_end ++ (wsX80 ++ [])
theorem gz_t_end : zw_t_end.all goodWord = true := p1_ga (by decide +kernel) (p1_ga gk_X8 p1_g0)
theorem iz_t_end : ∀ w ∈ zw_t_end, w ∈ lw_tbl := p1_ia (p1_all [553, 509] (by decide +kernel)) (p1_ia ik_X8 p1_i0)
def zW_t_end (p0 : Nat) (f_p0 : List Value) : va_W := [(p0, .inr (7, f_p0))]
def zT_t_end : List (ClassId × FieldType) := []
def zA_t_end (p0 : Nat) : List Nat := [p0]
theorem za_t_end {p0 : Nat} {f_p0 : List Value} : (zW_t_end p0 f_p0).map Prod.fst = (zA_t_end p0) := rfl
def zG_t_end (p0 : Nat) (f_p0 : List Value) (a1 : Int32) (r : Int32) (X : va_W → Prop) : Prop := ∃ (y_p0 : List Value), OKX8 y_p0 ∧ q_fr [10] f_p0 y_p0 ∧ X (zW_t_end p0 y_p0)
theorem zm_t_end {p0 : Nat} {f_p0 : List Value} {a1 : Int32} : ∀ (r : Int32), ∀ X Y : va_W → Prop, (∀ w, X w → Y w) → zG_t_end p0 f_p0 a1 r X → zG_t_end p0 f_p0 a1 r Y := fun r X Y h h1 => by obtain ⟨x0, x1, x2, hx⟩ := h1; exact ⟨x0, x1, x2, h _ hx⟩
set_option maxHeartbeats 4000000 in
set_option maxRecDepth 100000 in
theorem t_end (l : Launch) (dC : Nat → ClassId) (dI : Nat → Nat → Nat) (sz : Nat) (p0 : Nat) (f_p0 : List Value) (a1 : Int32) (ho_p0 : OKX8 f_p0) : Met l yX8_end zw_t_end ({ frames := 0, cells := 0, slots := 0, locals := 0 }) (va_Pc [.ref p0, .int a1] (q_pre (dC, dI) (zW_t_end p0 f_p0) (zT_t_end) q_E0 sz)) (q_Qi (dC, dI) (zG_t_end p0 f_p0 a1) (zA_t_end p0) (va_A (zW_t_end p0 f_p0) sz)) 0 0 (va_A (zW_t_end p0 f_p0) sz) := by
  refine Met.ofW (cc := cX8_end) (maxL := 2) (ret := (some .int)) (by decide) rfl ?_
  intro p e s m args below meth c s₁ B hml hv
  obtain ⟨rfl, hsz, hP, hK, hD0, hE⟩ := hv
  have hx := B.exec
  have hb := B.bytes
  have hr := B.returns
  have hts := atoms_spec (ws := zw_t_end) B.pre
  have hown : s.vm.findClass RX8 = some m.cls := findClass_of_methodNamed B.named
  have hlocks := B.notSynchronized
  subst hsz
  have hD := hD0.self (sz := s.heap.size)
  generalize hAe : va_A (zW_t_end p0 f_p0) s.heap.size = A at hD hE ⊢
  have hA : ∀ q : Nat, s.heap.size ≤ q → A q := fun q h => by rw [← hAe]; exact Or.inr h
  have hDa : q_DA A (zA_t_end p0) := q_DA.mk hD za_t_end
  clear hAe hD0 hD
  have hS : va_S A s.heap s.heap [] := va_S.rf
  have m_0 : (.fieldLink RX8 64 "BowWalk" "tapeLength" "I" : Cond) ∈ zw_t_end := List.mem_append_left _ (List.mem_of_getElem? (i := 1) rfl)
  have k_0 := hts _ m_0
  have i_X8 : ∀ w ∈ u_ws RX8 TX8 14, w ∈ zw_t_end := fun w h => List.mem_append_right _ (List.mem_append_left _ h)
  have lt_m1 : ((-1) : Int32).toInt = -1 := by decide
  have lt_0 : (0 : Int32).toInt = 0 := by decide
  have hl := lv_entry ([.ref p0, .int a1]) (n := 2) (Nat.le_of_ble_eq_true rfl)
  rw [lg_entry_eq]
  generalize (lg_sl ([.ref p0, .int a1]) ++ List.replicate (2 - (lg_sl ([.ref p0, .int a1])).length) Slot.unset).toArray = ls at hl ⊢
  have hl : lv_has ls 2 [(0, .ref p0), (1, .int a1)] := hl
  refine lv_iload_n hx hb dX8_end_0 rfl (lv_at hl 1 rfl) ?_
  refine lv_if_lt (tgt := 12) hx hb dX8_end_1 (by decide) (fun c_1 => ?_) (fun c_1 => ?_)
  · have tc_1 := q_lt c_1
    refine lv_iconst (v := (-1)) hx hb dX8_end_12 (by decide) ?_
    exact q_iret hx hb hr hlocks hS dX8_end_13 ⟨f_p0, ho_p0, q_fr.rf, hP, za_t_end⟩
  · have tc_1 := q_geN c_1
    refine lv_iload_n hx hb dX8_end_4 rfl (lv_at hl 1 rfl) (lv_aload_n hx hb dX8_end_5 rfl (lv_at hl 0 rfl) ?_)
    obtain ⟨v_2, fv_2, tv_2⟩ := OKX8_g10 ho_p0
    refine qg_X8_10 hx hb hts i_X8 hown hK hP 0 rfl k_0 fv_2 dX8_end_6 ?_
    refine lv_icmp_le (tgt := 14) hx hb dX8_end_9 (by decide) (fun c_3 => ?_) (fun c_3 => ?_)
    · have tc_3 := q_le c_3
      refine lv_aload_n hx hb dX8_end_14 rfl (lv_at hl 0 rfl) (lv_iload_n hx hb dX8_end_15 rfl (lv_at hl 1 rfl) (qp_X8_10 hx hb hts i_X8 hown hK hP hDa za_t_end hS 0 rfl k_0 (OKX8_l ho_p0) dX8_end_16 (fun H4 lo4 fs4 efs4 (hP4 : va_P (dC, dI) vwCl (zW_t_end p0 fs4) H4) hS4 => ?_)))
      have ho4 := OKX8_p10 ho_p0 efs4 ⟨by omega, by omega⟩
      clear hP hS
      refine lv_iload_n hx hb dX8_end_19 rfl (lv_at hl 1 rfl) ?_
      exact q_iret hx hb hr hlocks hS4 dX8_end_20 ⟨fs4, ho4, (q_fr.rf.st efs4 (by decide)), hP4, za_t_end⟩
    · have tc_3 := q_gtN c_3
      refine lv_iconst (v := (-1)) hx hb dX8_end_12 (by decide) ?_
      exact q_iret hx hb hr hlocks hS dX8_end_13 ⟨f_p0, ho_p0, q_fr.rf, hP, za_t_end⟩
def zo_t_fault : List Cond := [.code yX8_fault cX8_fault 2 (some .int), .fieldLink RX8 16 "BowWalk" "reader" "LBowWalk$Reader;", .fieldLink RX8 101 "BowWalk$Reader" "faultPlace" "I", .fieldLink RX8 98 "BowWalk$Reader" "faultKind" "I"]
def zw_t_fault : List Cond := zo_t_fault ++ (wsX80 ++ (wsX40 ++ []))
theorem gz_t_fault : zw_t_fault.all goodWord = true := p1_ga (by decide +kernel) (p1_ga gk_X8 (p1_ga gk_X4 p1_g0))
theorem iz_t_fault : ∀ w ∈ zw_t_fault, w ∈ lw_tbl := p1_ia (p1_all [709, 500, 320, 318] (by decide +kernel)) (p1_ia ik_X8 (p1_ia ik_X4 p1_i0))
def zW_t_fault (p0 : Nat) (f_p0 : List Value) (p0_reader : Nat) (f_p0_reader : List Value) : va_W := [(p0, .inr (7, f_p0)), (p0_reader, .inr (4, f_p0_reader))]
def zT_t_fault : List (ClassId × FieldType) := []
def zA_t_fault (p0 : Nat) (p0_reader : Nat) : List Nat := [p0, p0_reader]
theorem za_t_fault {p0 : Nat} {f_p0 : List Value} {p0_reader : Nat} {f_p0_reader : List Value} : (zW_t_fault p0 f_p0 p0_reader f_p0_reader).map Prod.fst = (zA_t_fault p0 p0_reader) := rfl
def zG_t_fault (p0 : Nat) (f_p0 : List Value) (p0_reader : Nat) (f_p0_reader : List Value) (a1 : Int32) (r : Int32) (X : va_W → Prop) : Prop := X (zW_t_fault p0 f_p0 p0_reader f_p0_reader)
theorem zm_t_fault {p0 : Nat} {f_p0 : List Value} {p0_reader : Nat} {f_p0_reader : List Value} {a1 : Int32} : ∀ (r : Int32), ∀ X Y : va_W → Prop, (∀ w, X w → Y w) → zG_t_fault p0 f_p0 p0_reader f_p0_reader a1 r X → zG_t_fault p0 f_p0 p0_reader f_p0_reader a1 r Y := fun r X Y h h1 => h _ h1
set_option maxHeartbeats 4000000 in
set_option maxRecDepth 100000 in
theorem t_fault (l : Launch) (dC : Nat → ClassId) (dI : Nat → Nat → Nat) (sz : Nat) (p0 : Nat) (f_p0 : List Value) (p0_reader : Nat) (f_p0_reader : List Value) (a1 : Int32) (ho_p0 : OKX8 f_p0) (fr_p0_1 : q_rf f_p0 1 p0_reader) (ho_p0_reader : OKX4 f_p0_reader) : Met l yX8_fault zw_t_fault ({ frames := 0, cells := 0, slots := 0, locals := 0 }) (va_Pc [.ref p0, .int a1] (q_pre (dC, dI) (zW_t_fault p0 f_p0 p0_reader f_p0_reader) (zT_t_fault) q_E0 sz)) (q_Qi (dC, dI) (zG_t_fault p0 f_p0 p0_reader f_p0_reader a1) (zA_t_fault p0 p0_reader) (va_A (zW_t_fault p0 f_p0 p0_reader f_p0_reader) sz)) 0 0 (va_A (zW_t_fault p0 f_p0 p0_reader f_p0_reader) sz) := by
  refine Met.ofW (cc := cX8_fault) (maxL := 2) (ret := (some .int)) (by decide) rfl ?_
  intro p e s m args below meth c s₁ B hml hv
  obtain ⟨rfl, hsz, hP, hK, hD0, hE⟩ := hv
  have hx := B.exec
  have hb := B.bytes
  have hr := B.returns
  have hts := atoms_spec (ws := zw_t_fault) B.pre
  have hown : s.vm.findClass RX8 = some m.cls := findClass_of_methodNamed B.named
  have hlocks := B.notSynchronized
  subst hsz
  have hD := hD0.self (sz := s.heap.size)
  generalize hAe : va_A (zW_t_fault p0 f_p0 p0_reader f_p0_reader) s.heap.size = A at hD hE ⊢
  have hA : ∀ q : Nat, s.heap.size ≤ q → A q := fun q h => by rw [← hAe]; exact Or.inr h
  have hDa : q_DA A (zA_t_fault p0 p0_reader) := q_DA.mk hD za_t_fault
  clear hAe hD0 hD
  have hS : va_S A s.heap s.heap [] := va_S.rf
  have m_0 : (.fieldLink RX8 16 "BowWalk" "reader" "LBowWalk$Reader;" : Cond) ∈ zw_t_fault := List.mem_append_left _ (List.mem_of_getElem? (i := 1) rfl)
  have k_0 := hts _ m_0
  have m_1 : (.fieldLink RX8 101 "BowWalk$Reader" "faultPlace" "I" : Cond) ∈ zw_t_fault := List.mem_append_left _ (List.mem_of_getElem? (i := 2) rfl)
  have k_1 := hts _ m_1
  have m_2 : (.fieldLink RX8 98 "BowWalk$Reader" "faultKind" "I" : Cond) ∈ zw_t_fault := List.mem_append_left _ (List.mem_of_getElem? (i := 3) rfl)
  have k_2 := hts _ m_2
  have i_X8 : ∀ w ∈ u_ws RX8 TX8 14, w ∈ zw_t_fault := fun w h => List.mem_append_right _ (List.mem_append_left _ h)
  have i_X4 : ∀ w ∈ u_ws RX4 TX4 11, w ∈ zw_t_fault := fun w h => List.mem_append_right _ (List.mem_append_right _ (List.mem_append_left _ h))
  have lt_m1 : ((-1) : Int32).toInt = -1 := by decide
  have lt_0 : (0 : Int32).toInt = 0 := by decide
  have lt_1 : (1 : Int32).toInt = 1 := by decide
  have hl := lv_entry ([.ref p0, .int a1]) (n := 2) (Nat.le_of_ble_eq_true rfl)
  rw [lg_entry_eq]
  generalize (lg_sl ([.ref p0, .int a1]) ++ List.replicate (2 - (lg_sl ([.ref p0, .int a1])).length) Slot.unset).toArray = ls at hl ⊢
  have hl : lv_has ls 2 [(0, .ref p0), (1, .int a1)] := hl
  refine lv_iload_n hx hb dX8_fault_0 rfl (lv_at hl 1 rfl) ?_
  refine lv_if_ne (tgt := 12) hx hb dX8_fault_1 (by decide) (fun c_1 => ?_) (fun c_1 => ?_)
  · have tc_1 := q_ne c_1
    refine lv_iload_n hx hb dX8_fault_12 rfl (lv_at hl 1 rfl) (lv_iconst (v := 1) hx hb dX8_fault_13 (by decide) ?_)
    refine lv_icmp_ne (tgt := 27) hx hb dX8_fault_14 (by decide) (fun c_2 => ?_) (fun c_2 => ?_)
    · have tc_2 := q_ne c_2
      refine lv_iconst (v := (-1)) hx hb dX8_fault_27 (by decide) ?_
      exact q_iret hx hb hr hlocks hS dX8_fault_28 ⟨hP, za_t_fault⟩
    · have tc_2 := q_eqN c_2
      refine lv_aload_n hx hb dX8_fault_17 rfl (lv_at hl 0 rfl) (qg_X8_1 hx hb hts i_X8 hown hK hP 0 rfl k_0 fr_p0_1 dX8_fault_18 ?_)
      obtain ⟨v_3, fv_3⟩ := OKX4_g10 ho_p0_reader
      refine qg_X4_10 hx hb hts i_X4 hown hK hP 1 rfl k_1 fv_3 dX8_fault_21 (lv_goto (tgt := 28) hx hb dX8_fault_24 (by decide) ?_)
      exact q_iret hx hb hr hlocks hS dX8_fault_28 ⟨hP, za_t_fault⟩
  · have tc_1 := q_eqN c_1
    refine lv_aload_n hx hb dX8_fault_4 rfl (lv_at hl 0 rfl) (qg_X8_1 hx hb hts i_X8 hown hK hP 0 rfl k_0 fr_p0_1 dX8_fault_5 ?_)
    obtain ⟨v_4, fv_4⟩ := OKX4_g9 ho_p0_reader
    refine qg_X4_9 hx hb hts i_X4 hown hK hP 1 rfl k_2 fv_4 dX8_fault_8 ?_
    exact q_iret hx hb hr hlocks hS dX8_fault_11 ⟨hP, za_t_fault⟩
def zo_t_bitCount : List Cond := [.code yJ6_bitCount_0f7a4 cJ6_bitCount_0f7a4 1 (some .int), .constant RJ6 265 (1431655765), .constant RJ6 266 (858993459), .constant RJ6 267 (252645135)]
def zw_t_bitCount : List Cond := zo_t_bitCount ++ []
theorem gz_t_bitCount : zw_t_bitCount.all goodWord = true := p1_ga (by decide +kernel) p1_g0
theorem iz_t_bitCount : ∀ w ∈ zw_t_bitCount, w ∈ lw_tbl := p1_ia (p1_all [723, 724, 725, 726] (by decide +kernel)) p1_i0
def zW_t_bitCount : va_W := []
def zT_t_bitCount : List (ClassId × FieldType) := []
def zA_t_bitCount : List Nat := []
theorem za_t_bitCount : (zW_t_bitCount).map Prod.fst = zA_t_bitCount := rfl
def zG_t_bitCount (a0 : Int32) (r : Int32) (X : va_W → Prop) : Prop := X (zW_t_bitCount)
theorem zm_t_bitCount {a0 : Int32} : ∀ (r : Int32), ∀ X Y : va_W → Prop, (∀ w, X w → Y w) → zG_t_bitCount a0 r X → zG_t_bitCount a0 r Y := fun r X Y h h1 => h _ h1
set_option maxHeartbeats 4000000 in
set_option maxRecDepth 100000 in
theorem t_bitCount (l : Launch) (dC : Nat → ClassId) (dI : Nat → Nat → Nat) (sz : Nat) (a0 : Int32) : Met l yJ6_bitCount_0f7a4 zw_t_bitCount ({ frames := 0, cells := 0, slots := 0, locals := 0 }) (va_Pc [.int a0] (q_pre (dC, dI) (zW_t_bitCount) (zT_t_bitCount) q_E0 sz)) (q_Qi (dC, dI) (zG_t_bitCount a0) zA_t_bitCount (va_A (zW_t_bitCount) sz)) 0 0 (va_A (zW_t_bitCount) sz) := by
  refine Met.ofW (cc := cJ6_bitCount_0f7a4) (maxL := 1) (ret := (some .int)) (by decide) rfl ?_
  intro p e s m args below meth c s₁ B hml hv
  obtain ⟨rfl, hsz, hP, hK, hD0, hE⟩ := hv
  have hx := B.exec
  have hb := B.bytes
  have hr := B.returns
  have hts := atoms_spec (ws := zw_t_bitCount) B.pre
  have hown : s.vm.findClass RJ6 = some m.cls := findClass_of_methodNamed B.named
  have hlocks := B.notSynchronized
  subst hsz
  have hD := hD0.self (sz := s.heap.size)
  generalize hAe : va_A (zW_t_bitCount) s.heap.size = A at hD hE ⊢
  have hA : ∀ q : Nat, s.heap.size ≤ q → A q := fun q h => by rw [← hAe]; exact Or.inr h
  have hDa : q_DA A zA_t_bitCount := q_DA.mk hD za_t_bitCount
  clear hAe hD0 hD
  have hS : va_S A s.heap s.heap [] := va_S.rf
  have m_0 : (.constant RJ6 265 (1431655765) : Cond) ∈ zw_t_bitCount := List.mem_append_left _ (List.mem_of_getElem? (i := 1) rfl)
  have k_0 := hts _ m_0
  have m_1 : (.constant RJ6 266 (858993459) : Cond) ∈ zw_t_bitCount := List.mem_append_left _ (List.mem_of_getElem? (i := 2) rfl)
  have k_1 := hts _ m_1
  have m_2 : (.constant RJ6 267 (252645135) : Cond) ∈ zw_t_bitCount := List.mem_append_left _ (List.mem_of_getElem? (i := 3) rfl)
  have k_2 := hts _ m_2
  have lt_63 : (63 : Int32).toInt = 63 := by decide
  have lt_252645135 : (252645135 : Int32).toInt = 252645135 := by decide
  have lt_858993459 : (858993459 : Int32).toInt = 858993459 := by decide
  have lt_1431655765 : (1431655765 : Int32).toInt = 1431655765 := by decide
  have hl := lv_entry ([.int a0]) (n := 1) (Nat.le_of_ble_eq_true rfl)
  rw [lg_entry_eq]
  generalize (lg_sl ([.int a0]) ++ List.replicate (1 - (lg_sl ([.int a0])).length) Slot.unset).toArray = ls at hl ⊢
  have hl : lv_has ls 1 [(0, .int a0)] := hl
  refine lv_iload_n hx hb dJ6_bitCount_0f7a4_0 rfl (lv_at hl 0 rfl) (lv_iload_n hx hb dJ6_bitCount_0f7a4_1 rfl (lv_at hl 0 rfl) (lv_iconst (v := 1) hx hb dJ6_bitCount_0f7a4_2 (by decide) (lv_iushr hx hb dJ6_bitCount_0f7a4_3 rfl (lv_topi fun v_1 ev_1 => lv_ldcw (v := 1431655765) hx hb hown k_0 dJ6_bitCount_0f7a4_4 (lv_iand hx hb dJ6_bitCount_0f7a4_7 (lv_topi fun v_2 ev_2 => lv_isub hx hb dJ6_bitCount_0f7a4_8 (lv_topi fun v_3 ev_3 => lv_istore_n (lv' := [(0, .int v_3)]) hx hb dJ6_bitCount_0f7a4_9 rfl hl (by decide) rfl (fun ls hl => ?_))))))))
  refine lv_iload_n hx hb dJ6_bitCount_0f7a4_10 rfl (lv_at hl 0 rfl) (lv_ldcw (v := 858993459) hx hb hown k_1 dJ6_bitCount_0f7a4_11 (lv_iand hx hb dJ6_bitCount_0f7a4_14 (lv_topi fun v_4 ev_4 => lv_iload_n hx hb dJ6_bitCount_0f7a4_15 rfl (lv_at hl 0 rfl) (lv_iconst (v := 2) hx hb dJ6_bitCount_0f7a4_16 (by decide) (lv_iushr hx hb dJ6_bitCount_0f7a4_17 rfl (lv_topi fun v_5 ev_5 => lv_ldcw (v := 858993459) hx hb hown k_1 dJ6_bitCount_0f7a4_18 (lv_iand hx hb dJ6_bitCount_0f7a4_21 (lv_topi fun v_6 ev_6 => ?_))))))))
  refine lv_iadd hx hb dJ6_bitCount_0f7a4_22 (lv_topi fun v_7 ev_7 => lv_istore_n (lv' := [(0, .int v_7)]) hx hb dJ6_bitCount_0f7a4_23 rfl hl (by decide) rfl (fun ls hl => ?_))
  refine lv_iload_n hx hb dJ6_bitCount_0f7a4_24 rfl (lv_at hl 0 rfl) (lv_iload_n hx hb dJ6_bitCount_0f7a4_25 rfl (lv_at hl 0 rfl) (lv_iconst (v := 4) hx hb dJ6_bitCount_0f7a4_26 (by decide) (lv_iushr hx hb dJ6_bitCount_0f7a4_27 rfl (lv_topi fun v_8 ev_8 => lv_iadd hx hb dJ6_bitCount_0f7a4_28 (lv_topi fun v_9 ev_9 => lv_ldcw (v := 252645135) hx hb hown k_2 dJ6_bitCount_0f7a4_29 (lv_iand hx hb dJ6_bitCount_0f7a4_32 (lv_topi fun v_10 ev_10 => lv_istore_n (lv' := [(0, .int v_10)]) hx hb dJ6_bitCount_0f7a4_33 rfl hl (by decide) rfl (fun ls hl => ?_))))))))
  refine lv_iload_n hx hb dJ6_bitCount_0f7a4_34 rfl (lv_at hl 0 rfl) (lv_iload_n hx hb dJ6_bitCount_0f7a4_35 rfl (lv_at hl 0 rfl) (lv_bipush (v := 8) hx hb dJ6_bitCount_0f7a4_36 (by decide) (lv_iushr hx hb dJ6_bitCount_0f7a4_38 rfl (lv_topi fun v_11 ev_11 => lv_iadd hx hb dJ6_bitCount_0f7a4_39 (lv_topi fun v_12 ev_12 => lv_istore_n (lv' := [(0, .int v_12)]) hx hb dJ6_bitCount_0f7a4_40 rfl hl (by decide) rfl (fun ls hl => ?_))))))
  refine lv_iload_n hx hb dJ6_bitCount_0f7a4_41 rfl (lv_at hl 0 rfl) (lv_iload_n hx hb dJ6_bitCount_0f7a4_42 rfl (lv_at hl 0 rfl) (lv_bipush (v := 16) hx hb dJ6_bitCount_0f7a4_43 (by decide) (lv_iushr hx hb dJ6_bitCount_0f7a4_45 rfl (lv_topi fun v_13 ev_13 => lv_iadd hx hb dJ6_bitCount_0f7a4_46 (lv_topi fun v_14 ev_14 => lv_istore_n (lv' := [(0, .int v_14)]) hx hb dJ6_bitCount_0f7a4_47 rfl hl (by decide) rfl (fun ls hl => ?_))))))
  refine lv_iload_n hx hb dJ6_bitCount_0f7a4_48 rfl (lv_at hl 0 rfl) (lv_bipush (v := 63) hx hb dJ6_bitCount_0f7a4_49 (by decide) (lv_iand hx hb dJ6_bitCount_0f7a4_51 (lv_topi fun v_15 ev_15 => ?_)))
  have tv_15 := q_and (k := 6) ev_15 (by decide) (by decide)
  exact q_iret hx hb hr hlocks hS dJ6_bitCount_0f7a4_52 ⟨hP, za_t_bitCount⟩
