def zo_t_takeInto : List Cond := [.code yX4_takeInto cX4_takeInto 5 (some .boolean), .fieldLink RX4 28 "BowWalk$Reader" "token" "I", .fieldLink RX4 34 "BowWalk$Reader" "number" "I", .methodLink RX4 124 yX4_refuse, .instanceMethod yX4_refuse, .selects RX4 yX4_refuse yX4_refuse, .initialized RX4, .methodLink RX4 78 yX4_step, .instanceMethod yX4_step, .selects RX4 yX4_step yX4_step]
def zw_t_takeInto : List Cond := zo_t_takeInto ++ (zw_t_refuse ++ (zw_t_step ++ (wsX40 ++ [])))
theorem gz_t_takeInto : zw_t_takeInto.all goodWord = true := p1_ga (by decide +kernel) (p1_ga gz_t_refuse (p1_ga gz_t_step (p1_ga gk_X4 p1_g0)))
theorem iz_t_takeInto : ∀ w ∈ zw_t_takeInto, w ∈ lw_tbl := p1_ia (p1_all [640, 311, 313, 613, 615, 7, 105, 573, 575, 1] (by decide +kernel)) (p1_ia iz_t_refuse (p1_ia iz_t_step (p1_ia ik_X4 p1_i0)))
def zW_t_takeInto (p0 : Nat) (f_p0 : List Value) (p0_text : Nat) (c_p0_text : ClassId) (b_p0_text : Nat → Int32) (p0_words : Nat) (c_p0_words : ClassId) (b_p0_words : Nat → Int64) (p1 : Nat) (c_p1 : ClassId) (b_p1 : Nat → Int32) (n_p1 : Nat) : va_W := [(p0, .inr (4, f_p0)), (p0_text, .inl (c_p0_text, 1600, .inl b_p0_text)), (p0_words, .inl (c_p0_words, 22, .inr (.inl b_p0_words))), (p1, .inl (c_p1, n_p1, .inl b_p1))]
def zT_t_takeInto (c_p0_text : ClassId) (c_p0_words : ClassId) (c_p1 : ClassId) : List (ClassId × FieldType) := [(c_p0_text, .byte), (c_p0_words, .long), (c_p1, .int)]
def zA_t_takeInto (p0 : Nat) (p0_text : Nat) (p0_words : Nat) (p1 : Nat) : List Nat := [p0, p0_text, p0_words, p1]
theorem za_t_takeInto {p0 : Nat} {f_p0 : List Value} {p0_text : Nat} {c_p0_text : ClassId} {b_p0_text : Nat → Int32} {p0_words : Nat} {c_p0_words : ClassId} {b_p0_words : Nat → Int64} {p1 : Nat} {c_p1 : ClassId} {b_p1 : Nat → Int32} {n_p1 : Nat} : (zW_t_takeInto p0 f_p0 p0_text c_p0_text b_p0_text p0_words c_p0_words b_p0_words p1 c_p1 b_p1 n_p1).map Prod.fst = (zA_t_takeInto p0 p0_text p0_words p1) := rfl
def zG_t_takeInto (p0 : Nat) (f_p0 : List Value) (p0_text : Nat) (c_p0_text : ClassId) (b_p0_text : Nat → Int32) (p0_words : Nat) (c_p0_words : ClassId) (b_p0_words : Nat → Int64) (p1 : Nat) (c_p1 : ClassId) (b_p1 : Nat → Int32) (n_p1 : Nat) (a2 : Int32) (a3 : Int32) (a4 : Int32) (lo : Int) (hi : Int) (r : Int32) (X : va_W → Prop) : Prop := ∃ (y_p0 : List Value) (y_p1 : Nat → Int32), ((r = 1 ∧ (True)) ∨ (r = 0 ∧ (True))) ∧ OKX4 y_p0 ∧ q_fr [3, 4, 5, 6, 7, 9, 10] f_p0 y_p0 ∧ (q_rg n_p1 (lo) hi y_p1) ∧ X (zW_t_takeInto p0 y_p0 p0_text c_p0_text b_p0_text p0_words c_p0_words b_p0_words p1 c_p1 y_p1 n_p1)
theorem zm_t_takeInto {p0 : Nat} {f_p0 : List Value} {p0_text : Nat} {c_p0_text : ClassId} {b_p0_text : Nat → Int32} {p0_words : Nat} {c_p0_words : ClassId} {b_p0_words : Nat → Int64} {p1 : Nat} {c_p1 : ClassId} {b_p1 : Nat → Int32} {n_p1 : Nat} {a2 : Int32} {a3 : Int32} {a4 : Int32} {lo : Int} {hi : Int} : ∀ (r : Int32), ∀ X Y : va_W → Prop, (∀ w, X w → Y w) → zG_t_takeInto p0 f_p0 p0_text c_p0_text b_p0_text p0_words c_p0_words b_p0_words p1 c_p1 b_p1 n_p1 a2 a3 a4 lo hi r X → zG_t_takeInto p0 f_p0 p0_text c_p0_text b_p0_text p0_words c_p0_words b_p0_words p1 c_p1 b_p1 n_p1 a2 a3 a4 lo hi r Y := fun r X Y h h1 => by obtain ⟨x0, x1, x2, x3, x4, x5, hx⟩ := h1; exact ⟨x0, x1, x2, x3, x4, x5, h _ hx⟩
set_option maxHeartbeats 4000000 in
set_option maxRecDepth 100000 in
theorem t_takeInto (l : Launch) (dC : Nat → ClassId) (dI : Nat → Nat → Nat) (sz : Nat) (p0 : Nat) (f_p0 : List Value) (p0_text : Nat) (c_p0_text : ClassId) (b_p0_text : Nat → Int32) (p0_words : Nat) (c_p0_words : ClassId) (b_p0_words : Nat → Int64) (p1 : Nat) (c_p1 : ClassId) (b_p1 : Nat → Int32) (n_p1 : Nat) (a2 : Int32) (a3 : Int32) (a4 : Int32) (lo : Int) (hi : Int) (ho_p0 : OKX4 f_p0) (fr_p0_0 : q_rf f_p0 0 p0_words) (fr_p0_1 : q_rf f_p0 1 p0_text) (hr_p1 : q_rg n_p1 (lo) hi b_p1) (hi2 : 0 ≤ a2.toInt ∧ a2.toInt < (n_p1 : Int)) (hl3 : lo ≤ a3.toInt) (hm4 : a4.toInt ≤ hi) : Met l yX4_takeInto zw_t_takeInto ({ frames := 6, cells := 0, slots := 0, locals := 126 }) (va_Pc [.ref p0, .ref p1, .int a2, .int a3, .int a4] (q_pre (dC, dI) (zW_t_takeInto p0 f_p0 p0_text c_p0_text b_p0_text p0_words c_p0_words b_p0_words p1 c_p1 b_p1 n_p1) (zT_t_takeInto c_p0_text c_p0_words c_p1) q_ex sz)) (q_Qi (dC, dI) (zG_t_takeInto p0 f_p0 p0_text c_p0_text b_p0_text p0_words c_p0_words b_p0_words p1 c_p1 b_p1 n_p1 a2 a3 a4 lo hi) (zA_t_takeInto p0 p0_text p0_words p1) (va_A (zW_t_takeInto p0 f_p0 p0_text c_p0_text b_p0_text p0_words c_p0_words b_p0_words p1 c_p1 b_p1 n_p1) sz)) 0 0 (va_A (zW_t_takeInto p0 f_p0 p0_text c_p0_text b_p0_text p0_words c_p0_words b_p0_words p1 c_p1 b_p1 n_p1) sz) := by
  refine Met.ofW (cc := cX4_takeInto) (maxL := 5) (ret := (some .boolean)) (by decide) rfl ?_
  intro p e s m args below meth c s₁ B hml hv
  obtain ⟨rfl, hsz, hP, hK, hD0, hE⟩ := hv
  have hx := B.exec
  have hb := B.bytes
  have hr := B.returns
  have hts := atoms_spec (ws := zw_t_takeInto) B.pre
  have hown : s.vm.findClass RX4 = some m.cls := findClass_of_methodNamed B.named
  have hlocks := B.notSynchronized
  subst hsz
  have hD := hD0.self (sz := s.heap.size)
  generalize hAe : va_A (zW_t_takeInto p0 f_p0 p0_text c_p0_text b_p0_text p0_words c_p0_words b_p0_words p1 c_p1 b_p1 n_p1) s.heap.size = A at hD hE ⊢
  have hA : ∀ q : Nat, s.heap.size ≤ q → A q := fun q h => by rw [← hAe]; exact Or.inr h
  have hDa : q_DA A (zA_t_takeInto p0 p0_text p0_words p1) := q_DA.mk hD za_t_takeInto
  clear hAe hD0 hD
  have hS : va_S A s.heap s.heap [] := va_S.rf
  have m_0 : (.fieldLink RX4 28 "BowWalk$Reader" "token" "I" : Cond) ∈ zw_t_takeInto := List.mem_append_left _ (List.mem_of_getElem? (i := 1) rfl)
  have k_0 := hts _ m_0
  have m_1 : (.fieldLink RX4 34 "BowWalk$Reader" "number" "I" : Cond) ∈ zw_t_takeInto := List.mem_append_left _ (List.mem_of_getElem? (i := 2) rfl)
  have k_1 := hts _ m_1
  have m_2 : (.methodLink RX4 124 yX4_refuse : Cond) ∈ zw_t_takeInto := List.mem_append_left _ (List.mem_of_getElem? (i := 3) rfl)
  have k_2 := hts _ m_2
  have m_3 : (.instanceMethod yX4_refuse : Cond) ∈ zw_t_takeInto := List.mem_append_left _ (List.mem_of_getElem? (i := 4) rfl)
  have k_3 := hts _ m_3
  have m_4 : (.selects RX4 yX4_refuse yX4_refuse : Cond) ∈ zw_t_takeInto := List.mem_append_left _ (List.mem_of_getElem? (i := 5) rfl)
  have k_4 := hts _ m_4
  have m_5 : (.initialized RX4 : Cond) ∈ zw_t_takeInto := List.mem_append_left _ (List.mem_of_getElem? (i := 6) rfl)
  have k_5 := hts _ m_5
  have m_6 : (.methodLink RX4 78 yX4_step : Cond) ∈ zw_t_takeInto := List.mem_append_left _ (List.mem_of_getElem? (i := 7) rfl)
  have k_6 := hts _ m_6
  have m_7 : (.instanceMethod yX4_step : Cond) ∈ zw_t_takeInto := List.mem_append_left _ (List.mem_of_getElem? (i := 8) rfl)
  have k_7 := hts _ m_7
  have m_8 : (.selects RX4 yX4_step yX4_step : Cond) ∈ zw_t_takeInto := List.mem_append_left _ (List.mem_of_getElem? (i := 9) rfl)
  have k_8 := hts _ m_8
  have g_t_refuse : ∀ w ∈ zw_t_refuse, w ∈ zw_t_takeInto := fun w h => List.mem_append_right _ (List.mem_append_left _ h)
  have g_t_step : ∀ w ∈ zw_t_step, w ∈ zw_t_takeInto := fun w h => List.mem_append_right _ (List.mem_append_right _ (List.mem_append_left _ h))
  have i_X4 : ∀ w ∈ u_ws RX4 TX4 11, w ∈ zw_t_takeInto := fun w h => List.mem_append_right _ (List.mem_append_right _ (List.mem_append_right _ (List.mem_append_left _ h)))
  have lt_0 : (0 : Int32).toInt = 0 := by decide
  have lt_1 : (1 : Int32).toInt = 1 := by decide
  have lt_2 : (2 : Int32).toInt = 2 := by decide
  have lt_3 : (3 : Int32).toInt = 3 := by decide
  have lt_4 : (4 : Int32).toInt = 4 := by decide
  have hl := lv_entry ([.ref p0, .ref p1, .int a2, .int a3, .int a4]) (n := 5) (Nat.le_of_ble_eq_true rfl)
  rw [lg_entry_eq]
  generalize (lg_sl ([.ref p0, .ref p1, .int a2, .int a3, .int a4]) ++ List.replicate (5 - (lg_sl ([.ref p0, .ref p1, .int a2, .int a3, .int a4])).length) Slot.unset).toArray = ls at hl ⊢
  have hl : lv_has ls 5 [(0, .ref p0), (1, .ref p1), (2, .int a2), (3, .int a3), (4, .int a4)] := hl
  refine lv_aload_n hx hb dX4_takeInto_0 rfl (lv_at hl 0 rfl) ?_
  obtain ⟨v_1, fv_1⟩ := OKX4_g4 ho_p0
  refine qg_X4_4 hx hb hts i_X4 hown hK hP 0 rfl k_0 fv_1 dX4_takeInto_1 (lv_iconst (v := 3) hx hb dX4_takeInto_4 (by decide) ?_)
  refine lv_icmp_eq (tgt := 14) hx hb dX4_takeInto_5 (by decide) (fun c_2 => ?_) (fun c_2 => ?_)
  · have tc_2 := q_eq c_2
    refine lv_aload_n hx hb dX4_takeInto_14 rfl (lv_at hl 0 rfl) ?_
    obtain ⟨v_3, fv_3⟩ := OKX4_g6 ho_p0
    refine qg_X4_6 hx hb hts i_X4 hown hK hP 0 rfl k_1 fv_3 dX4_takeInto_15 (lv_iload_n hx hb dX4_takeInto_18 rfl (lv_at hl 3 rfl) ?_)
    refine lv_icmp_lt (tgt := 31) hx hb dX4_takeInto_19 (by decide) (fun c_4 => ?_) (fun c_4 => ?_)
    · have tc_4 := q_lt c_4
      refine lv_aload_n hx hb dX4_takeInto_31 rfl (lv_at hl 0 rfl) (lv_iconst (v := 4) hx hb dX4_takeInto_32 (by decide) ?_)
      refine q_cVi (As := [.int 4]) (rest := []) q_w0 trivial hK hP hDa za_t_takeInto hS hA [0] [] (by decide +kernel) ⟨hx, hb, hml, hown, hts⟩ (t_refuse l dC dI s.heap.size p0 f_p0 4 ho_p0) rfl rfl (cwV 1 hts (p1_gV m_2 m_3 m_4 m_5 g_t_refuse gz_t_refuse) rfl rfl rfl (by decide +kernel) ⟨by decide, by decide⟩) (va_recv hK hP (ci := 4) (q0 := 0) rfl rfl) zm_t_refuse rfl hl.1 rfl (Nat.le_of_ble_eq_true rfl) dX4_takeInto_33 ⟨by decide, by decide⟩ (fun r_5 H6 lo6 hG6 hS6 => ?_)
      obtain ⟨o_7, z_8, ho_9, hf_10, hQ6⟩ := hG6
      have hP6 : va_P (dC, dI) vwCl (zW_t_takeInto p0 o_7 p0_text c_p0_text b_p0_text p0_words c_p0_words b_p0_words p1 c_p1 b_p1 n_p1) H6 := hQ6
      clear hQ6 hP hS
      rcases z_8 with ⟨rfl, z_8⟩ | ⟨rfl, z_8⟩
      · exact z_8.elim
      · exact q_zret hx hb hr hlocks (by decide) hS6 dX4_takeInto_36 ⟨o_7, b_p1, (Or.inr ⟨rfl, by first | trivial | omega⟩), ho_9, (q_fr.rf.tr hf_10 (by decide)), hr_p1, hP6, za_t_takeInto⟩
    · have tc_4 := q_geN c_4
      refine lv_aload_n hx hb dX4_takeInto_22 rfl (lv_at hl 0 rfl) (qg_X4_6 hx hb hts i_X4 hown hK hP 0 rfl k_1 fv_3 dX4_takeInto_23 (lv_iload hx hb dX4_takeInto_26 (lv_at hl 4 rfl) ?_))
      refine lv_icmp_le (tgt := 37) hx hb dX4_takeInto_28 (by decide) (fun c_11 => ?_) (fun c_11 => ?_)
      · have tc_11 := q_le c_11
        refine lv_aload_n hx hb dX4_takeInto_37 rfl (lv_at hl 1 rfl) (lv_iload_n hx hb dX4_takeInto_38 rfl (lv_at hl 2 rfl) (lv_aload_n hx hb dX4_takeInto_39 rfl (lv_at hl 0 rfl) (qg_X4_6 hx hb hts i_X4 hown hK hP 0 rfl k_1 fv_3 dX4_takeInto_40 (q_ist hx hb hK hP hDa za_t_takeInto hS 3 2 rfl rfl (q_in (by omega) (by omega)) dX4_takeInto_43 (fun H12 lo12 g12 eg12 (hP12 : va_P (dC, dI) vwCl (zW_t_takeInto p0 f_p0 p0_text c_p0_text b_p0_text p0_words c_p0_words b_p0_words p1 c_p1 g12 n_p1) H12) hS12 => ?_)))))
        clear hP hS
        have hr_g12 := q_up' hr_p1 eg12 ⟨by omega, by omega⟩
        refine lv_aload_n hx hb dX4_takeInto_44 rfl (lv_at hl 0 rfl) ?_
        refine q_cVv (As := []) (rest := []) q_exw hE hK hP12 hDa za_t_takeInto hS12 hA [0, 1, 2] [0, 1] (by decide +kernel) ⟨hx, hb, hml, hown, hts⟩ (t_step l dC dI H12.size p0 f_p0 p0_text c_p0_text b_p0_text p0_words c_p0_words b_p0_words ho_p0 fr_p0_0 fr_p0_1) rfl rfl (cwV 0 hts (p1_gV m_6 m_7 m_8 m_5 g_t_step gz_t_step) rfl rfl rfl (by decide +kernel) ⟨by decide, by decide⟩) (va_recv hK hP12 (ci := 4) (q0 := 0) rfl rfl) zm_t_step rfl hl.1 rfl (Nat.le_of_ble_eq_true rfl) dX4_takeInto_45 ⟨by decide, by decide⟩ (fun H14 lo14 hG14 hS14 => ?_)
        obtain ⟨o_15, ho_16, hf_17, hQ14⟩ := hG14
        have hP14 : va_P (dC, dI) vwCl (zW_t_takeInto p0 o_15 p0_text c_p0_text b_p0_text p0_words c_p0_words b_p0_words p1 c_p1 g12 n_p1) H14 := hQ14
        clear hQ14 hP12 hS12
        refine lv_iconst (v := 1) hx hb dX4_takeInto_48 (by decide) ?_
        exact q_zret hx hb hr hlocks (by decide) hS14 dX4_takeInto_49 ⟨o_15, g12, (Or.inl ⟨rfl, by first | trivial | omega⟩), ho_16, (q_fr.rf.tr hf_17 (by decide)), hr_g12, hP14, za_t_takeInto⟩
      · have tc_11 := q_gtN c_11
        refine lv_aload_n hx hb dX4_takeInto_31 rfl (lv_at hl 0 rfl) (lv_iconst (v := 4) hx hb dX4_takeInto_32 (by decide) ?_)
        refine q_cVi (As := [.int 4]) (rest := []) q_w0 trivial hK hP hDa za_t_takeInto hS hA [0] [] (by decide +kernel) ⟨hx, hb, hml, hown, hts⟩ (t_refuse l dC dI s.heap.size p0 f_p0 4 ho_p0) rfl rfl (cwV 1 hts (p1_gV m_2 m_3 m_4 m_5 g_t_refuse gz_t_refuse) rfl rfl rfl (by decide +kernel) ⟨by decide, by decide⟩) (va_recv hK hP (ci := 4) (q0 := 0) rfl rfl) zm_t_refuse rfl hl.1 rfl (Nat.le_of_ble_eq_true rfl) dX4_takeInto_33 ⟨by decide, by decide⟩ (fun r_18 H19 lo19 hG19 hS19 => ?_)
        obtain ⟨o_20, z_21, ho_22, hf_23, hQ19⟩ := hG19
        have hP19 : va_P (dC, dI) vwCl (zW_t_takeInto p0 o_20 p0_text c_p0_text b_p0_text p0_words c_p0_words b_p0_words p1 c_p1 b_p1 n_p1) H19 := hQ19
        clear hQ19 hP hS
        rcases z_21 with ⟨rfl, z_21⟩ | ⟨rfl, z_21⟩
        · exact z_21.elim
        · exact q_zret hx hb hr hlocks (by decide) hS19 dX4_takeInto_36 ⟨o_20, b_p1, (Or.inr ⟨rfl, by first | trivial | omega⟩), ho_22, (q_fr.rf.tr hf_23 (by decide)), hr_p1, hP19, za_t_takeInto⟩
  · have tc_2 := q_neN c_2
    refine lv_aload_n hx hb dX4_takeInto_8 rfl (lv_at hl 0 rfl) (lv_iconst (v := 2) hx hb dX4_takeInto_9 (by decide) ?_)
    refine q_cVi (As := [.int 2]) (rest := []) q_w0 trivial hK hP hDa za_t_takeInto hS hA [0] [] (by decide +kernel) ⟨hx, hb, hml, hown, hts⟩ (t_refuse l dC dI s.heap.size p0 f_p0 2 ho_p0) rfl rfl (cwV 1 hts (p1_gV m_2 m_3 m_4 m_5 g_t_refuse gz_t_refuse) rfl rfl rfl (by decide +kernel) ⟨by decide, by decide⟩) (va_recv hK hP (ci := 4) (q0 := 0) rfl rfl) zm_t_refuse rfl hl.1 rfl (Nat.le_of_ble_eq_true rfl) dX4_takeInto_10 ⟨by decide, by decide⟩ (fun r_24 H25 lo25 hG25 hS25 => ?_)
    obtain ⟨o_26, z_27, ho_28, hf_29, hQ25⟩ := hG25
    have hP25 : va_P (dC, dI) vwCl (zW_t_takeInto p0 o_26 p0_text c_p0_text b_p0_text p0_words c_p0_words b_p0_words p1 c_p1 b_p1 n_p1) H25 := hQ25
    clear hQ25 hP hS
    rcases z_27 with ⟨rfl, z_27⟩ | ⟨rfl, z_27⟩
    · exact z_27.elim
    · exact q_zret hx hb hr hlocks (by decide) hS25 dX4_takeInto_13 ⟨o_26, b_p1, (Or.inr ⟨rfl, by first | trivial | omega⟩), ho_28, (q_fr.rf.tr hf_29 (by decide)), hr_p1, hP25, za_t_takeInto⟩
