def zo_t_putToken : List Cond := [.code yX4_putToken cX4_putToken 2 (some .boolean), .fieldLink RX4 44 "BowWalk$Reader" "draft" "LBowWalk$Shop;", .fieldLink RX4 89 "BowWalk$Shop" "laws" "LBowWalk$Laws;", .methodLink RX4 238 yX3_put, .instanceMethod yX3_put, .selects RX3 yX3_put yX3_put, .initialized RX3, .methodLink RX4 124 yX4_refuse, .instanceMethod yX4_refuse, .selects RX4 yX4_refuse yX4_refuse, .initialized RX4]
def zw_t_putToken : List Cond := zo_t_putToken ++ (zw_t_put ++ (zw_t_refuse ++ (wsX40 ++ (wsX50 ++ []))))
theorem gz_t_putToken : zw_t_putToken.all goodWord = true := p1_ga (by decide +kernel) (p1_ga gz_t_put (p1_ga gz_t_refuse (p1_ga gk_X4 (p1_ga gk_X5 p1_g0))))
theorem iz_t_putToken : ∀ w ∈ zw_t_putToken, w ∈ lw_tbl := p1_ia (p1_all [679, 315, 213, 680, 681, 682, 107, 613, 615, 7, 105] (by decide +kernel)) (p1_ia iz_t_put (p1_ia iz_t_refuse (p1_ia ik_X4 (p1_ia ik_X5 p1_i0))))
def zW_t_putToken (p0 : Nat) (f_p0 : List Value) (p0_draft : Nat) (f_p0_draft : List Value) (p0_draft_laws : Nat) (f_p0_draft_laws : List Value) (p0_draft_laws_code : Nat) (c_p0_draft_laws_code : ClassId) (b_p0_draft_laws_code : Nat → Int32) : va_W := [(p0, .inr (4, f_p0)), (p0_draft, .inr (5, f_p0_draft)), (p0_draft_laws, .inr (3, f_p0_draft_laws)), (p0_draft_laws_code, .inl (c_p0_draft_laws_code, 600, .inl b_p0_draft_laws_code))]
def zT_t_putToken (c_p0_draft_laws_code : ClassId) : List (ClassId × FieldType) := [(c_p0_draft_laws_code, .int)]
def zA_t_putToken (p0 : Nat) (p0_draft : Nat) (p0_draft_laws : Nat) (p0_draft_laws_code : Nat) : List Nat := [p0, p0_draft, p0_draft_laws, p0_draft_laws_code]
theorem za_t_putToken {p0 : Nat} {f_p0 : List Value} {p0_draft : Nat} {f_p0_draft : List Value} {p0_draft_laws : Nat} {f_p0_draft_laws : List Value} {p0_draft_laws_code : Nat} {c_p0_draft_laws_code : ClassId} {b_p0_draft_laws_code : Nat → Int32} : (zW_t_putToken p0 f_p0 p0_draft f_p0_draft p0_draft_laws f_p0_draft_laws p0_draft_laws_code c_p0_draft_laws_code b_p0_draft_laws_code).map Prod.fst = (zA_t_putToken p0 p0_draft p0_draft_laws p0_draft_laws_code) := rfl
def zG_t_putToken (p0 : Nat) (f_p0 : List Value) (p0_draft : Nat) (f_p0_draft : List Value) (p0_draft_laws : Nat) (f_p0_draft_laws : List Value) (p0_draft_laws_code : Nat) (c_p0_draft_laws_code : ClassId) (b_p0_draft_laws_code : Nat → Int32) (a1 : Int32) (r : Int32) (X : va_W → Prop) : Prop := ∃ (y_p0 : List Value) (y_p0_draft_laws : List Value) (y_p0_draft_laws_code : Nat → Int32), ((r = 1 ∧ (True)) ∨ (r = 0 ∧ (True))) ∧ OKX4 y_p0 ∧ q_fr [9, 10] f_p0 y_p0 ∧ OKX3 y_p0_draft_laws ∧ q_fr [3] f_p0_draft_laws y_p0_draft_laws ∧ X (zW_t_putToken p0 y_p0 p0_draft f_p0_draft p0_draft_laws y_p0_draft_laws p0_draft_laws_code c_p0_draft_laws_code y_p0_draft_laws_code)
theorem zm_t_putToken {p0 : Nat} {f_p0 : List Value} {p0_draft : Nat} {f_p0_draft : List Value} {p0_draft_laws : Nat} {f_p0_draft_laws : List Value} {p0_draft_laws_code : Nat} {c_p0_draft_laws_code : ClassId} {b_p0_draft_laws_code : Nat → Int32} {a1 : Int32} : ∀ (r : Int32), ∀ X Y : va_W → Prop, (∀ w, X w → Y w) → zG_t_putToken p0 f_p0 p0_draft f_p0_draft p0_draft_laws f_p0_draft_laws p0_draft_laws_code c_p0_draft_laws_code b_p0_draft_laws_code a1 r X → zG_t_putToken p0 f_p0 p0_draft f_p0_draft p0_draft_laws f_p0_draft_laws p0_draft_laws_code c_p0_draft_laws_code b_p0_draft_laws_code a1 r Y := fun r X Y h h1 => by obtain ⟨x0, x1, x2, x3, x4, x5, x6, x7, hx⟩ := h1; exact ⟨x0, x1, x2, x3, x4, x5, x6, x7, h _ hx⟩
set_option maxHeartbeats 4000000 in
set_option maxRecDepth 100000 in
theorem t_putToken (l : Launch) (dC : Nat → ClassId) (dI : Nat → Nat → Nat) (sz : Nat) (p0 : Nat) (f_p0 : List Value) (p0_draft : Nat) (f_p0_draft : List Value) (p0_draft_laws : Nat) (f_p0_draft_laws : List Value) (p0_draft_laws_code : Nat) (c_p0_draft_laws_code : ClassId) (b_p0_draft_laws_code : Nat → Int32) (a1 : Int32) (ho_p0 : OKX4 f_p0) (fr_p0_8 : q_rf f_p0 8 p0_draft) (ho_p0_draft : OKX5 f_p0_draft) (fr_p0_draft_12 : q_rf f_p0_draft 12 p0_draft_laws) (ho_p0_draft_laws : OKX3 f_p0_draft_laws) (fr_p0_draft_laws_0 : q_rf f_p0_draft_laws 0 p0_draft_laws_code) : Met l yX4_putToken zw_t_putToken ({ frames := 1, cells := 0, slots := 0, locals := 21 }) (va_Pc [.ref p0, .int a1] (q_pre (dC, dI) (zW_t_putToken p0 f_p0 p0_draft f_p0_draft p0_draft_laws f_p0_draft_laws p0_draft_laws_code c_p0_draft_laws_code b_p0_draft_laws_code) (zT_t_putToken c_p0_draft_laws_code) q_E0 sz)) (q_Qi (dC, dI) (zG_t_putToken p0 f_p0 p0_draft f_p0_draft p0_draft_laws f_p0_draft_laws p0_draft_laws_code c_p0_draft_laws_code b_p0_draft_laws_code a1) (zA_t_putToken p0 p0_draft p0_draft_laws p0_draft_laws_code) (va_A (zW_t_putToken p0 f_p0 p0_draft f_p0_draft p0_draft_laws f_p0_draft_laws p0_draft_laws_code c_p0_draft_laws_code b_p0_draft_laws_code) sz)) 0 0 (va_A (zW_t_putToken p0 f_p0 p0_draft f_p0_draft p0_draft_laws f_p0_draft_laws p0_draft_laws_code c_p0_draft_laws_code b_p0_draft_laws_code) sz) := by
  refine Met.ofW (cc := cX4_putToken) (maxL := 2) (ret := (some .boolean)) (by decide) rfl ?_
  intro p e s m args below meth c s₁ B hml hv
  obtain ⟨rfl, hsz, hP, hK, hD0, hE⟩ := hv
  have hx := B.exec
  have hb := B.bytes
  have hr := B.returns
  have hts := atoms_spec (ws := zw_t_putToken) B.pre
  have hown : s.vm.findClass RX4 = some m.cls := findClass_of_methodNamed B.named
  have hlocks := B.notSynchronized
  subst hsz
  have hD := hD0.self (sz := s.heap.size)
  generalize hAe : va_A (zW_t_putToken p0 f_p0 p0_draft f_p0_draft p0_draft_laws f_p0_draft_laws p0_draft_laws_code c_p0_draft_laws_code b_p0_draft_laws_code) s.heap.size = A at hD hE ⊢
  have hA : ∀ q : Nat, s.heap.size ≤ q → A q := fun q h => by rw [← hAe]; exact Or.inr h
  have hDa : q_DA A (zA_t_putToken p0 p0_draft p0_draft_laws p0_draft_laws_code) := q_DA.mk hD za_t_putToken
  clear hAe hD0 hD
  have hS : va_S A s.heap s.heap [] := va_S.rf
  have m_0 : (.fieldLink RX4 44 "BowWalk$Reader" "draft" "LBowWalk$Shop;" : Cond) ∈ zw_t_putToken := List.mem_append_left _ (List.mem_of_getElem? (i := 1) rfl)
  have k_0 := hts _ m_0
  have m_1 : (.fieldLink RX4 89 "BowWalk$Shop" "laws" "LBowWalk$Laws;" : Cond) ∈ zw_t_putToken := List.mem_append_left _ (List.mem_of_getElem? (i := 2) rfl)
  have k_1 := hts _ m_1
  have m_2 : (.methodLink RX4 238 yX3_put : Cond) ∈ zw_t_putToken := List.mem_append_left _ (List.mem_of_getElem? (i := 3) rfl)
  have k_2 := hts _ m_2
  have m_3 : (.instanceMethod yX3_put : Cond) ∈ zw_t_putToken := List.mem_append_left _ (List.mem_of_getElem? (i := 4) rfl)
  have k_3 := hts _ m_3
  have m_4 : (.selects RX3 yX3_put yX3_put : Cond) ∈ zw_t_putToken := List.mem_append_left _ (List.mem_of_getElem? (i := 5) rfl)
  have k_4 := hts _ m_4
  have m_5 : (.initialized RX3 : Cond) ∈ zw_t_putToken := List.mem_append_left _ (List.mem_of_getElem? (i := 6) rfl)
  have k_5 := hts _ m_5
  have m_6 : (.methodLink RX4 124 yX4_refuse : Cond) ∈ zw_t_putToken := List.mem_append_left _ (List.mem_of_getElem? (i := 7) rfl)
  have k_6 := hts _ m_6
  have m_7 : (.instanceMethod yX4_refuse : Cond) ∈ zw_t_putToken := List.mem_append_left _ (List.mem_of_getElem? (i := 8) rfl)
  have k_7 := hts _ m_7
  have m_8 : (.selects RX4 yX4_refuse yX4_refuse : Cond) ∈ zw_t_putToken := List.mem_append_left _ (List.mem_of_getElem? (i := 9) rfl)
  have k_8 := hts _ m_8
  have m_9 : (.initialized RX4 : Cond) ∈ zw_t_putToken := List.mem_append_left _ (List.mem_of_getElem? (i := 10) rfl)
  have k_9 := hts _ m_9
  have g_t_put : ∀ w ∈ zw_t_put, w ∈ zw_t_putToken := fun w h => List.mem_append_right _ (List.mem_append_left _ h)
  have g_t_refuse : ∀ w ∈ zw_t_refuse, w ∈ zw_t_putToken := fun w h => List.mem_append_right _ (List.mem_append_right _ (List.mem_append_left _ h))
  have i_X4 : ∀ w ∈ u_ws RX4 TX4 11, w ∈ zw_t_putToken := fun w h => List.mem_append_right _ (List.mem_append_right _ (List.mem_append_right _ (List.mem_append_left _ h)))
  have i_X5 : ∀ w ∈ u_ws RX5 TX5 15, w ∈ zw_t_putToken := fun w h => List.mem_append_right _ (List.mem_append_right _ (List.mem_append_right _ (List.mem_append_right _ (List.mem_append_left _ h))))
  have lt_0 : (0 : Int32).toInt = 0 := by decide
  have lt_1 : (1 : Int32).toInt = 1 := by decide
  have lt_2 : (2 : Int32).toInt = 2 := by decide
  have hl := lv_entry ([.ref p0, .int a1]) (n := 2) (Nat.le_of_ble_eq_true rfl)
  rw [lg_entry_eq]
  generalize (lg_sl ([.ref p0, .int a1]) ++ List.replicate (2 - (lg_sl ([.ref p0, .int a1])).length) Slot.unset).toArray = ls at hl ⊢
  have hl : lv_has ls 2 [(0, .ref p0), (1, .int a1)] := hl
  refine lv_aload_n hx hb dX4_putToken_0 rfl (lv_at hl 0 rfl) (qg_X4_8 hx hb hts i_X4 hown hK hP 0 rfl k_0 fr_p0_8 dX4_putToken_1 (qg_X5_12 hx hb hts i_X5 hown hK hP 1 rfl k_1 fr_p0_draft_12 dX4_putToken_4 (lv_iload_n hx hb dX4_putToken_7 rfl (lv_at hl 1 rfl) ?_)))
  refine q_cVi (As := [.int a1]) (rest := []) q_w0 trivial hK hP hDa za_t_putToken hS hA [2, 3] [0] (by decide +kernel) ⟨hx, hb, hml, hown, hts⟩ (t_put l dC dI s.heap.size p0_draft_laws f_p0_draft_laws p0_draft_laws_code c_p0_draft_laws_code b_p0_draft_laws_code a1 ho_p0_draft_laws fr_p0_draft_laws_0) rfl rfl (cwV 1 hts (p1_gV m_2 m_3 m_4 m_5 g_t_put gz_t_put) rfl rfl rfl (by decide +kernel) ⟨by decide, by decide⟩) (va_recv hK hP (ci := 3) (q0 := 2) rfl rfl) zm_t_put rfl hl.1 rfl (Nat.le_of_ble_eq_true rfl) dX4_putToken_8 ⟨by decide, by decide⟩ (fun r_1 H2 lo2 hG2 hS2 => ?_)
  obtain ⟨o_3, o_4, z_5, ho_6, hf_7, hQ2⟩ := hG2
  have hP2 : va_P (dC, dI) vwCl (zW_t_putToken p0 f_p0 p0_draft f_p0_draft p0_draft_laws o_3 p0_draft_laws_code c_p0_draft_laws_code o_4) H2 := hQ2
  clear hQ2 hP hS
  rcases z_5 with ⟨rfl, z_5⟩ | ⟨rfl, z_5⟩
  · refine lv_if_ne (tgt := 22) hx hb dX4_putToken_11 (by decide) (fun c_8 => ?_) (fun c_8 => absurd c_8 (by decide))
    refine lv_iconst (v := 1) hx hb dX4_putToken_22 (by decide) (lv_goto (tgt := 27) hx hb dX4_putToken_23 (by decide) ?_)
    exact q_zret hx hb hr hlocks (by decide) hS2 dX4_putToken_27 ⟨f_p0, o_3, o_4, (Or.inl ⟨rfl, by first | trivial | omega⟩), ho_p0, q_fr.rf, ho_6, (q_fr.rf.tr hf_7 (by decide)), hP2, za_t_putToken⟩
  · refine lv_if_ne (tgt := 22) hx hb dX4_putToken_11 (by decide) (fun c_9 => absurd c_9 (by decide)) (fun c_9 => ?_)
    refine lv_aload_n hx hb dX4_putToken_14 rfl (lv_at hl 0 rfl) (lv_iconst (v := 2) hx hb dX4_putToken_15 (by decide) ?_)
    refine q_cVi (As := [.int 2]) (rest := []) q_w0 trivial hK hP2 hDa za_t_putToken hS2 hA [0] [] (by decide +kernel) ⟨hx, hb, hml, hown, hts⟩ (t_refuse l dC dI H2.size p0 f_p0 2 ho_p0) rfl rfl (cwV 1 hts (p1_gV m_6 m_7 m_8 m_9 g_t_refuse gz_t_refuse) rfl rfl rfl (by decide +kernel) ⟨by decide, by decide⟩) (va_recv hK hP2 (ci := 4) (q0 := 0) rfl rfl) zm_t_refuse rfl hl.1 rfl (Nat.le_of_ble_eq_true rfl) dX4_putToken_16 ⟨by decide, by decide⟩ (fun r_10 H11 lo11 hG11 hS11 => ?_)
    obtain ⟨o_12, z_13, ho_14, hf_15, hQ11⟩ := hG11
    have hP11 : va_P (dC, dI) vwCl (zW_t_putToken p0 o_12 p0_draft f_p0_draft p0_draft_laws o_3 p0_draft_laws_code c_p0_draft_laws_code o_4) H11 := hQ11
    clear hQ11 hP2 hS2
    rcases z_13 with ⟨rfl, z_13⟩ | ⟨rfl, z_13⟩
    · exact z_13.elim
    · refine lv_if_eq (tgt := 26) hx hb dX4_putToken_19 (by decide) (fun c_16 => ?_) (fun c_16 => absurd c_16 (by decide))
      refine lv_iconst (v := 0) hx hb dX4_putToken_26 (by decide) ?_
      exact q_zret hx hb hr hlocks (by decide) hS11 dX4_putToken_27 ⟨o_12, o_3, o_4, (Or.inr ⟨rfl, by first | trivial | omega⟩), ho_14, (q_fr.rf.tr hf_15 (by decide)), ho_6, (q_fr.rf.tr hf_7 (by decide)), hP11, za_t_putToken⟩
def zo_t_readUnit7 : List Cond := [.code yX4_readUnit cX4_readUnit 5 (some .boolean), .fieldLink RX4 28 "BowWalk$Reader" "token" "I", .methodLink RX4 232 yX6_isUnitWord, .static yX6_isUnitWord, .initialized RX6, .fieldLink RX4 44 "BowWalk$Reader" "draft" "LBowWalk$Shop;", .fieldLink RX4 89 "BowWalk$Shop" "laws" "LBowWalk$Laws;", .fieldLink RX4 235 "BowWalk$Laws" "units" "I", .methodLink RX4 124 yX4_refuse, .instanceMethod yX4_refuse, .selects RX4 yX4_refuse yX4_refuse, .initialized RX4, .methodLink RX4 214 yX4_putToken, .instanceMethod yX4_putToken, .selects RX4 yX4_putToken yX4_putToken, .methodLink RX4 78 yX4_step, .instanceMethod yX4_step, .selects RX4 yX4_step yX4_step, .fieldLink RX4 34 "BowWalk$Reader" "number" "I"]
def zw_t_readUnit7 : List Cond := zo_t_readUnit7 ++ (zw_t_isUnitWord ++ (zw_t_refuse ++ (zw_t_putToken ++ (zw_t_step ++ (wsX40 ++ (wsX50 ++ (wsX30 ++ [])))))))
theorem gz_t_readUnit7 : zw_t_readUnit7.all goodWord = true := p1_ga (by decide +kernel) (p1_ga gz_t_isUnitWord (p1_ga gz_t_refuse (p1_ga gz_t_putToken (p1_ga gz_t_step (p1_ga gk_X4 (p1_ga gk_X5 (p1_ga gk_X3 p1_g0)))))))
theorem iz_t_readUnit7 : ∀ w ∈ zw_t_readUnit7, w ∈ lw_tbl := p1_ia (p1_all [672, 311, 673, 674, 118, 315, 213, 156, 613, 615, 7, 105, 676, 678, 21, 573, 575, 1, 313] (by decide +kernel)) (p1_ia iz_t_isUnitWord (p1_ia iz_t_refuse (p1_ia iz_t_putToken (p1_ia iz_t_step (p1_ia ik_X4 (p1_ia ik_X5 (p1_ia ik_X3 p1_i0)))))))
def zW_t_readUnit7 (p0 : Nat) (f_p0 : List Value) (p0_draft : Nat) (f_p0_draft : List Value) (p0_draft_laws : Nat) (f_p0_draft_laws : List Value) (p0_draft_laws_code : Nat) (c_p0_draft_laws_code : ClassId) (b_p0_draft_laws_code : Nat → Int32) (p0_text : Nat) (c_p0_text : ClassId) (b_p0_text : Nat → Int32) (p0_words : Nat) (c_p0_words : ClassId) (b_p0_words : Nat → Int64) : va_W := [(p0, .inr (4, f_p0)), (p0_draft, .inr (5, f_p0_draft)), (p0_draft_laws, .inr (3, f_p0_draft_laws)), (p0_draft_laws_code, .inl (c_p0_draft_laws_code, 600, .inl b_p0_draft_laws_code)), (p0_text, .inl (c_p0_text, 1600, .inl b_p0_text)), (p0_words, .inl (c_p0_words, 22, .inr (.inl b_p0_words)))]
def zT_t_readUnit7 (c_p0_draft_laws_code : ClassId) (c_p0_text : ClassId) (c_p0_words : ClassId) : List (ClassId × FieldType) := [(c_p0_draft_laws_code, .int), (c_p0_text, .byte), (c_p0_words, .long)]
def zA_t_readUnit7 (p0 : Nat) (p0_draft : Nat) (p0_draft_laws : Nat) (p0_draft_laws_code : Nat) (p0_text : Nat) (p0_words : Nat) : List Nat := [p0, p0_draft, p0_draft_laws, p0_draft_laws_code, p0_text, p0_words]
theorem za_t_readUnit7 {p0 : Nat} {f_p0 : List Value} {p0_draft : Nat} {f_p0_draft : List Value} {p0_draft_laws : Nat} {f_p0_draft_laws : List Value} {p0_draft_laws_code : Nat} {c_p0_draft_laws_code : ClassId} {b_p0_draft_laws_code : Nat → Int32} {p0_text : Nat} {c_p0_text : ClassId} {b_p0_text : Nat → Int32} {p0_words : Nat} {c_p0_words : ClassId} {b_p0_words : Nat → Int64} : (zW_t_readUnit7 p0 f_p0 p0_draft f_p0_draft p0_draft_laws f_p0_draft_laws p0_draft_laws_code c_p0_draft_laws_code b_p0_draft_laws_code p0_text c_p0_text b_p0_text p0_words c_p0_words b_p0_words).map Prod.fst = (zA_t_readUnit7 p0 p0_draft p0_draft_laws p0_draft_laws_code p0_text p0_words) := rfl
def zG_t_readUnit7 (p0 : Nat) (f_p0 : List Value) (p0_draft : Nat) (f_p0_draft : List Value) (p0_draft_laws : Nat) (f_p0_draft_laws : List Value) (p0_draft_laws_code : Nat) (c_p0_draft_laws_code : ClassId) (b_p0_draft_laws_code : Nat → Int32) (p0_text : Nat) (c_p0_text : ClassId) (b_p0_text : Nat → Int32) (p0_words : Nat) (c_p0_words : ClassId) (b_p0_words : Nat → Int64) (r : Int32) (X : va_W → Prop) : Prop := ∃ (y_p0 : List Value) (y_p0_draft_laws : List Value) (y_p0_draft_laws_code : Nat → Int32), ((r = 1 ∧ (True)) ∨ (r = 0 ∧ (True))) ∧ OKX4 y_p0 ∧ q_fr [3, 4, 5, 6, 7, 9, 10] f_p0 y_p0 ∧ OKX3 y_p0_draft_laws ∧ q_fr [3, 5] f_p0_draft_laws y_p0_draft_laws ∧ X (zW_t_readUnit7 p0 y_p0 p0_draft f_p0_draft p0_draft_laws y_p0_draft_laws p0_draft_laws_code c_p0_draft_laws_code y_p0_draft_laws_code p0_text c_p0_text b_p0_text p0_words c_p0_words b_p0_words)
theorem zm_t_readUnit7 {p0 : Nat} {f_p0 : List Value} {p0_draft : Nat} {f_p0_draft : List Value} {p0_draft_laws : Nat} {f_p0_draft_laws : List Value} {p0_draft_laws_code : Nat} {c_p0_draft_laws_code : ClassId} {b_p0_draft_laws_code : Nat → Int32} {p0_text : Nat} {c_p0_text : ClassId} {b_p0_text : Nat → Int32} {p0_words : Nat} {c_p0_words : ClassId} {b_p0_words : Nat → Int64} : ∀ (r : Int32), ∀ X Y : va_W → Prop, (∀ w, X w → Y w) → zG_t_readUnit7 p0 f_p0 p0_draft f_p0_draft p0_draft_laws f_p0_draft_laws p0_draft_laws_code c_p0_draft_laws_code b_p0_draft_laws_code p0_text c_p0_text b_p0_text p0_words c_p0_words b_p0_words r X → zG_t_readUnit7 p0 f_p0 p0_draft f_p0_draft p0_draft_laws f_p0_draft_laws p0_draft_laws_code c_p0_draft_laws_code b_p0_draft_laws_code p0_text c_p0_text b_p0_text p0_words c_p0_words b_p0_words r Y := fun r X Y h h1 => by obtain ⟨x0, x1, x2, x3, x4, x5, x6, x7, hx⟩ := h1; exact ⟨x0, x1, x2, x3, x4, x5, x6, x7, h _ hx⟩
set_option maxHeartbeats 4000000 in
set_option maxRecDepth 100000 in
theorem t_readUnit7 (l : Launch) (dC : Nat → ClassId) (dI : Nat → Nat → Nat) (sz : Nat) (p0 : Nat) (f_p0 : List Value) (p0_draft : Nat) (f_p0_draft : List Value) (p0_draft_laws : Nat) (f_p0_draft_laws : List Value) (p0_draft_laws_code : Nat) (c_p0_draft_laws_code : ClassId) (b_p0_draft_laws_code : Nat → Int32) (p0_text : Nat) (c_p0_text : ClassId) (b_p0_text : Nat → Int32) (p0_words : Nat) (c_p0_words : ClassId) (b_p0_words : Nat → Int64) (ho_p0 : OKX4 f_p0) (fr_p0_0 : q_rf f_p0 0 p0_words) (fr_p0_1 : q_rf f_p0 1 p0_text) (fr_p0_8 : q_rf f_p0 8 p0_draft) (ho_p0_draft : OKX5 f_p0_draft) (fr_p0_draft_12 : q_rf f_p0_draft 12 p0_draft_laws) (ho_p0_draft_laws : OKX3 f_p0_draft_laws) (fr_p0_draft_laws_0 : q_rf f_p0_draft_laws 0 p0_draft_laws_code) : Met l yX4_readUnit zw_t_readUnit7 ({ frames := 6, cells := 0, slots := 0, locals := 126 }) (va_Pc [.ref p0, .int 7] (q_pre (dC, dI) (zW_t_readUnit7 p0 f_p0 p0_draft f_p0_draft p0_draft_laws f_p0_draft_laws p0_draft_laws_code c_p0_draft_laws_code b_p0_draft_laws_code p0_text c_p0_text b_p0_text p0_words c_p0_words b_p0_words) (zT_t_readUnit7 c_p0_draft_laws_code c_p0_text c_p0_words) q_ex sz)) (q_Qi (dC, dI) (zG_t_readUnit7 p0 f_p0 p0_draft f_p0_draft p0_draft_laws f_p0_draft_laws p0_draft_laws_code c_p0_draft_laws_code b_p0_draft_laws_code p0_text c_p0_text b_p0_text p0_words c_p0_words b_p0_words) (zA_t_readUnit7 p0 p0_draft p0_draft_laws p0_draft_laws_code p0_text p0_words) (va_A (zW_t_readUnit7 p0 f_p0 p0_draft f_p0_draft p0_draft_laws f_p0_draft_laws p0_draft_laws_code c_p0_draft_laws_code b_p0_draft_laws_code p0_text c_p0_text b_p0_text p0_words c_p0_words b_p0_words) sz)) 0 0 (va_A (zW_t_readUnit7 p0 f_p0 p0_draft f_p0_draft p0_draft_laws f_p0_draft_laws p0_draft_laws_code c_p0_draft_laws_code b_p0_draft_laws_code p0_text c_p0_text b_p0_text p0_words c_p0_words b_p0_words) sz) := by
  refine Met.ofW (cc := cX4_readUnit) (maxL := 5) (ret := (some .boolean)) (by decide) rfl ?_
  intro p e s m args below meth c s₁ B hml hv
  obtain ⟨rfl, hsz, hP, hK, hD0, hE⟩ := hv
  have hx := B.exec
  have hb := B.bytes
  have hr := B.returns
  have hts := atoms_spec (ws := zw_t_readUnit7) B.pre
  have hown : s.vm.findClass RX4 = some m.cls := findClass_of_methodNamed B.named
  have hlocks := B.notSynchronized
  subst hsz
  have hD := hD0.self (sz := s.heap.size)
  generalize hAe : va_A (zW_t_readUnit7 p0 f_p0 p0_draft f_p0_draft p0_draft_laws f_p0_draft_laws p0_draft_laws_code c_p0_draft_laws_code b_p0_draft_laws_code p0_text c_p0_text b_p0_text p0_words c_p0_words b_p0_words) s.heap.size = A at hD hE ⊢
  have hA : ∀ q : Nat, s.heap.size ≤ q → A q := fun q h => by rw [← hAe]; exact Or.inr h
  have hDa : q_DA A (zA_t_readUnit7 p0 p0_draft p0_draft_laws p0_draft_laws_code p0_text p0_words) := q_DA.mk hD za_t_readUnit7
  clear hAe hD0 hD
  have hS : va_S A s.heap s.heap [] := va_S.rf
  have m_0 : (.fieldLink RX4 28 "BowWalk$Reader" "token" "I" : Cond) ∈ zw_t_readUnit7 := List.mem_append_left _ (List.mem_of_getElem? (i := 1) rfl)
  have k_0 := hts _ m_0
  have m_1 : (.methodLink RX4 232 yX6_isUnitWord : Cond) ∈ zw_t_readUnit7 := List.mem_append_left _ (List.mem_of_getElem? (i := 2) rfl)
  have k_1 := hts _ m_1
  have m_2 : (.static yX6_isUnitWord : Cond) ∈ zw_t_readUnit7 := List.mem_append_left _ (List.mem_of_getElem? (i := 3) rfl)
  have k_2 := hts _ m_2
  have m_3 : (.initialized RX6 : Cond) ∈ zw_t_readUnit7 := List.mem_append_left _ (List.mem_of_getElem? (i := 4) rfl)
  have k_3 := hts _ m_3
  have m_4 : (.fieldLink RX4 44 "BowWalk$Reader" "draft" "LBowWalk$Shop;" : Cond) ∈ zw_t_readUnit7 := List.mem_append_left _ (List.mem_of_getElem? (i := 5) rfl)
  have k_4 := hts _ m_4
  have m_5 : (.fieldLink RX4 89 "BowWalk$Shop" "laws" "LBowWalk$Laws;" : Cond) ∈ zw_t_readUnit7 := List.mem_append_left _ (List.mem_of_getElem? (i := 6) rfl)
  have k_5 := hts _ m_5
  have m_6 : (.fieldLink RX4 235 "BowWalk$Laws" "units" "I" : Cond) ∈ zw_t_readUnit7 := List.mem_append_left _ (List.mem_of_getElem? (i := 7) rfl)
  have k_6 := hts _ m_6
  have m_7 : (.methodLink RX4 124 yX4_refuse : Cond) ∈ zw_t_readUnit7 := List.mem_append_left _ (List.mem_of_getElem? (i := 8) rfl)
  have k_7 := hts _ m_7
  have m_8 : (.instanceMethod yX4_refuse : Cond) ∈ zw_t_readUnit7 := List.mem_append_left _ (List.mem_of_getElem? (i := 9) rfl)
  have k_8 := hts _ m_8
  have m_9 : (.selects RX4 yX4_refuse yX4_refuse : Cond) ∈ zw_t_readUnit7 := List.mem_append_left _ (List.mem_of_getElem? (i := 10) rfl)
  have k_9 := hts _ m_9
  have m_10 : (.initialized RX4 : Cond) ∈ zw_t_readUnit7 := List.mem_append_left _ (List.mem_of_getElem? (i := 11) rfl)
  have k_10 := hts _ m_10
  have m_11 : (.methodLink RX4 214 yX4_putToken : Cond) ∈ zw_t_readUnit7 := List.mem_append_left _ (List.mem_of_getElem? (i := 12) rfl)
  have k_11 := hts _ m_11
  have m_12 : (.instanceMethod yX4_putToken : Cond) ∈ zw_t_readUnit7 := List.mem_append_left _ (List.mem_of_getElem? (i := 13) rfl)
  have k_12 := hts _ m_12
  have m_13 : (.selects RX4 yX4_putToken yX4_putToken : Cond) ∈ zw_t_readUnit7 := List.mem_append_left _ (List.mem_of_getElem? (i := 14) rfl)
  have k_13 := hts _ m_13
  have m_14 : (.methodLink RX4 78 yX4_step : Cond) ∈ zw_t_readUnit7 := List.mem_append_left _ (List.mem_of_getElem? (i := 15) rfl)
  have k_14 := hts _ m_14
  have m_15 : (.instanceMethod yX4_step : Cond) ∈ zw_t_readUnit7 := List.mem_append_left _ (List.mem_of_getElem? (i := 16) rfl)
  have k_15 := hts _ m_15
  have m_16 : (.selects RX4 yX4_step yX4_step : Cond) ∈ zw_t_readUnit7 := List.mem_append_left _ (List.mem_of_getElem? (i := 17) rfl)
  have k_16 := hts _ m_16
  have m_17 : (.fieldLink RX4 34 "BowWalk$Reader" "number" "I" : Cond) ∈ zw_t_readUnit7 := List.mem_append_left _ (List.mem_of_getElem? (i := 18) rfl)
  have k_17 := hts _ m_17
  have g_t_isUnitWord : ∀ w ∈ zw_t_isUnitWord, w ∈ zw_t_readUnit7 := fun w h => List.mem_append_right _ (List.mem_append_left _ h)
  have g_t_refuse : ∀ w ∈ zw_t_refuse, w ∈ zw_t_readUnit7 := fun w h => List.mem_append_right _ (List.mem_append_right _ (List.mem_append_left _ h))
  have g_t_putToken : ∀ w ∈ zw_t_putToken, w ∈ zw_t_readUnit7 := fun w h => List.mem_append_right _ (List.mem_append_right _ (List.mem_append_right _ (List.mem_append_left _ h)))
  have g_t_step : ∀ w ∈ zw_t_step, w ∈ zw_t_readUnit7 := fun w h => List.mem_append_right _ (List.mem_append_right _ (List.mem_append_right _ (List.mem_append_right _ (List.mem_append_left _ h))))
  have i_X4 : ∀ w ∈ u_ws RX4 TX4 11, w ∈ zw_t_readUnit7 := fun w h => List.mem_append_right _ (List.mem_append_right _ (List.mem_append_right _ (List.mem_append_right _ (List.mem_append_right _ (List.mem_append_left _ h)))))
  have i_X5 : ∀ w ∈ u_ws RX5 TX5 15, w ∈ zw_t_readUnit7 := fun w h => List.mem_append_right _ (List.mem_append_right _ (List.mem_append_right _ (List.mem_append_right _ (List.mem_append_right _ (List.mem_append_right _ (List.mem_append_left _ h))))))
  have i_X3 : ∀ w ∈ u_ws RX3 TX3 6, w ∈ zw_t_readUnit7 := fun w h => List.mem_append_right _ (List.mem_append_right _ (List.mem_append_right _ (List.mem_append_right _ (List.mem_append_right _ (List.mem_append_right _ (List.mem_append_right _ (List.mem_append_left _ h)))))))
  have lt_0 : (0 : Int32).toInt = 0 := by decide
  have lt_1 : (1 : Int32).toInt = 1 := by decide
  have lt_2 : (2 : Int32).toInt = 2 := by decide
  have lt_3 : (3 : Int32).toInt = 3 := by decide
  have lt_6 : (6 : Int32).toInt = 6 := by decide
  have lt_7 : (7 : Int32).toInt = 7 := by decide
  have lt_40 : (40 : Int32).toInt = 40 := by decide
  have lt_60 : (60 : Int32).toInt = 60 := by decide
  have lt_1000 : (1000 : Int32).toInt = 1000 := by decide
  have hl := lv_entry ([.ref p0, .int 7]) (n := 5) (Nat.le_of_ble_eq_true rfl)
  rw [lg_entry_eq]
  generalize (lg_sl ([.ref p0, .int 7]) ++ List.replicate (5 - (lg_sl ([.ref p0, .int 7])).length) Slot.unset).toArray = ls at hl ⊢
  have hl : lv_has ls 5 [(0, .ref p0), (1, .int 7)] := hl
  refine lv_aload_n hx hb dX4_readUnit_0 rfl (lv_at hl 0 rfl) ?_
  obtain ⟨v_1, fv_1⟩ := OKX4_g4 ho_p0
  refine qg_X4_4 hx hb hts i_X4 hown hK hP 0 rfl k_0 fv_1 dX4_readUnit_1 (lv_iconst (v := 3) hx hb dX4_readUnit_4 (by decide) ?_)
  refine lv_icmp_ne (tgt := 12) hx hb dX4_readUnit_5 (by decide) (fun c_2 => ?_) (fun c_2 => ?_)
  · have tc_2 := q_ne c_2
    refine lv_iconst (v := 0) hx hb dX4_readUnit_12 (by decide) (lv_istore_n (lv' := [(2, .int 0), (0, .ref p0), (1, .int 7)]) hx hb dX4_readUnit_13 rfl hl (by decide) rfl (fun ls hl => ?_))
    refine lv_aload_n hx hb dX4_readUnit_14 rfl (lv_at hl 1 rfl) (qg_X4_4 hx hb hts i_X4 hown hK hP 0 rfl k_0 fv_1 dX4_readUnit_15 (lv_bipush (v := 40) hx hb dX4_readUnit_18 (by decide) ?_))
    refine lv_icmp_ne (tgt := 27) hx hb dX4_readUnit_20 (by decide) (fun c_3 => ?_) (fun c_3 => ?_)
    · have tc_3 := q_ne c_3
      refine lv_iconst (v := 0) hx hb dX4_readUnit_27 (by decide) (lv_istore_n (lv' := [(3, .int 0), (2, .int 0), (0, .ref p0), (1, .int 7)]) hx hb dX4_readUnit_28 rfl hl (by decide) rfl (fun ls hl => ?_))
      refine lv_iload_n hx hb dX4_readUnit_29 rfl (lv_at hl 1 rfl) (lv_if_ne (tgt := 53) hx hb dX4_readUnit_30 (by decide) (fun c_4 => absurd c_4 (by decide)) (fun c_4 => ?_))
      refine lv_iload_n hx hb dX4_readUnit_33 rfl (lv_at hl 0 rfl) (lv_if_ne (tgt := 53) hx hb dX4_readUnit_34 (by decide) (fun c_5 => absurd c_5 (by decide)) (fun c_5 => ?_))
      refine lv_aload_n hx hb dX4_readUnit_37 rfl (lv_at hl 2 rfl) (qg_X4_4 hx hb hts i_X4 hown hK hP 0 rfl k_0 fv_1 dX4_readUnit_38 ?_)
      refine q_cSi (As := [.int v_1]) (rest := []) q_w0 trivial hK hP hDa za_t_readUnit7 hS hA [] [] (by decide +kernel) ⟨hx, hb, hml, hown, hts⟩ (t_isUnitWord l dC dI s.heap.size v_1) rfl rfl (va_cwS 1 hts (p1_gS m_1 m_2 m_3 g_t_isUnitWord gz_t_isUnitWord) rfl rfl rfl (by decide +kernel) ⟨by decide, by decide⟩) zm_t_isUnitWord rfl hl.1 rfl (Nat.le_of_ble_eq_true rfl) dX4_readUnit_41 ⟨by decide, by decide⟩ (fun r_6 H7 lo7 hG7 hS7 => ?_)
      obtain ⟨z_8, hQ7⟩ := hG7
      have hP7 : va_P (dC, dI) vwCl (zW_t_readUnit7 p0 f_p0 p0_draft f_p0_draft p0_draft_laws f_p0_draft_laws p0_draft_laws_code c_p0_draft_laws_code b_p0_draft_laws_code p0_text c_p0_text b_p0_text p0_words c_p0_words b_p0_words) H7 := hQ7
      clear hQ7 hP hS
      rcases z_8 with ⟨rfl, z_8⟩ | ⟨rfl, z_8⟩
      · refine lv_if_ne (tgt := 53) hx hb dX4_readUnit_44 (by decide) (fun c_9 => ?_) (fun c_9 => absurd c_9 (by decide))
        refine lv_aload_n hx hb dX4_readUnit_53 rfl (lv_at hl 2 rfl) (qg_X4_8 hx hb hts i_X4 hown hK hP7 0 rfl k_4 fr_p0_8 dX4_readUnit_54 (qg_X5_12 hx hb hts i_X5 hown hK hP7 1 rfl k_5 fr_p0_draft_12 dX4_readUnit_57 ?_))
        obtain ⟨v_10, fv_10⟩ := OKX3_g5 ho_p0_draft_laws
        refine qg_X3_5 hx hb hts i_X3 hown hK hP7 2 rfl k_6 fv_10 dX4_readUnit_60 (lv_bipush (v := 60) hx hb dX4_readUnit_63 (by decide) ?_)
        refine lv_icmp_ge (tgt := 78) hx hb dX4_readUnit_65 (by decide) (fun c_11 => ?_) (fun c_11 => ?_)
        · have tc_11 := q_ge c_11
          refine lv_aload_n hx hb dX4_readUnit_78 rfl (lv_at hl 2 rfl) (lv_iconst (v := 2) hx hb dX4_readUnit_79 (by decide) ?_)
          refine q_cVi (As := [.int 2]) (rest := []) q_w0 trivial hK hP7 hDa za_t_readUnit7 hS7 hA [0] [] (by decide +kernel) ⟨hx, hb, hml, hown, hts⟩ (t_refuse l dC dI H7.size p0 f_p0 2 ho_p0) rfl rfl (cwV 1 hts (p1_gV m_7 m_8 m_9 m_10 g_t_refuse gz_t_refuse) rfl rfl rfl (by decide +kernel) ⟨by decide, by decide⟩) (va_recv hK hP7 (ci := 4) (q0 := 0) rfl rfl) zm_t_refuse rfl hl.1 rfl (Nat.le_of_ble_eq_true rfl) dX4_readUnit_80 ⟨by decide, by decide⟩ (fun r_12 H13 lo13 hG13 hS13 => ?_)
          obtain ⟨o_14, z_15, ho_16, hf_17, hQ13⟩ := hG13
          have hP13 : va_P (dC, dI) vwCl (zW_t_readUnit7 p0 o_14 p0_draft f_p0_draft p0_draft_laws f_p0_draft_laws p0_draft_laws_code c_p0_draft_laws_code b_p0_draft_laws_code p0_text c_p0_text b_p0_text p0_words c_p0_words b_p0_words) H13 := hQ13
          clear hQ13 hP7 hS7
          rcases z_15 with ⟨rfl, z_15⟩ | ⟨rfl, z_15⟩
          · exact z_15.elim
          · exact q_zret hx hb hr hlocks (by decide) hS13 dX4_readUnit_83 ⟨o_14, f_p0_draft_laws, b_p0_draft_laws_code, (Or.inr ⟨rfl, by first | trivial | omega⟩), ho_16, (q_fr.rf.tr hf_17 (by decide)), ho_p0_draft_laws, q_fr.rf, hP13, za_t_readUnit7⟩
        · have tc_11 := q_ltN c_11
          refine lv_iload_n hx hb dX4_readUnit_68 rfl (lv_at hl 0 rfl) (lv_if_eq (tgt := 84) hx hb dX4_readUnit_69 (by decide) (fun c_18 => ?_) (fun c_18 => absurd c_18 (by decide)))
          refine lv_aload_n hx hb dX4_readUnit_84 rfl (lv_at hl 2 rfl) (qg_X4_8 hx hb hts i_X4 hown hK hP7 0 rfl k_4 fr_p0_8 dX4_readUnit_85 (qg_X5_12 hx hb hts i_X5 hown hK hP7 1 rfl k_5 fr_p0_draft_12 dX4_readUnit_88 (lv_dup hx hb dX4_readUnit_91 rfl (qg_X3_5 hx hb hts i_X3 hown hK hP7 2 rfl k_6 fv_10 dX4_readUnit_92 (lv_iconst (v := 1) hx hb dX4_readUnit_95 (by decide) (lv_iadd hx hb dX4_readUnit_96 (lv_topi fun v_19 ev_19 => ?_)))))))
          have tv_19 := q_add ev_19 (by have z0 := q_rng v_10; omega) (by have z0 := q_rng v_10; omega)
          refine qp_X3_5 hx hb hts i_X3 hown hK hP7 hDa za_t_readUnit7 hS7 2 rfl k_6 (OKX3_l ho_p0_draft_laws) dX4_readUnit_97 (fun H20 lo20 fs20 efs20 (hP20 : va_P (dC, dI) vwCl (zW_t_readUnit7 p0 f_p0 p0_draft f_p0_draft p0_draft_laws fs20 p0_draft_laws_code c_p0_draft_laws_code b_p0_draft_laws_code p0_text c_p0_text b_p0_text p0_words c_p0_words b_p0_words) H20) hS20 => ?_)
          have ho20 := OKX3_p5 ho_p0_draft_laws efs20
          clear hP7 hS7
          refine lv_iload_n hx hb dX4_readUnit_100 rfl (lv_at hl 1 rfl) (lv_if_eq (tgt := 115) hx hb dX4_readUnit_101 (by decide) (fun c_21 => ?_) (fun c_21 => absurd c_21 (by decide)))
          refine lv_aload_n hx hb dX4_readUnit_115 rfl (lv_at hl 2 rfl) (qg_X4_4 hx hb hts i_X4 hown hK hP20 0 rfl k_0 fv_1 dX4_readUnit_116 (lv_istore (lv' := [(4, .int v_1), (3, .int 0), (2, .int 0), (0, .ref p0), (1, .int 7)]) hx hb dX4_readUnit_119 hl (by decide) rfl (fun ls hl => ?_)))
          refine lv_iload_n hx hb dX4_readUnit_121 rfl (lv_at hl 1 rfl) (lv_if_ne (tgt := 136) hx hb dX4_readUnit_122 (by decide) (fun c_22 => absurd c_22 (by decide)) (fun c_22 => ?_))
          refine lv_aload_n hx hb dX4_readUnit_125 rfl (lv_at hl 3 rfl) (lv_iload hx hb dX4_readUnit_126 (lv_at hl 0 rfl) ?_)
          refine q_cVi (As := [.int v_1]) (rest := []) q_w0 trivial hK hP20 hDa za_t_readUnit7 hS20 hA [0, 1, 2, 3] [0] (by decide +kernel) ⟨hx, hb, hml, hown, hts⟩ (t_putToken l dC dI H20.size p0 f_p0 p0_draft f_p0_draft p0_draft_laws fs20 p0_draft_laws_code c_p0_draft_laws_code b_p0_draft_laws_code v_1 ho_p0 fr_p0_8 ho_p0_draft fr_p0_draft_12 ho20 ((q_sn efs20 (by decide) fr_p0_draft_laws_0))) rfl rfl (cwV 1 hts (p1_gV m_11 m_12 m_13 m_10 g_t_putToken gz_t_putToken) rfl rfl rfl (by decide +kernel) ⟨by decide, by decide⟩) (va_recv hK hP20 (ci := 4) (q0 := 0) rfl rfl) zm_t_putToken rfl hl.1 rfl (Nat.le_of_ble_eq_true rfl) dX4_readUnit_128 ⟨by decide, by decide⟩ (fun r_23 H24 lo24 hG24 hS24 => ?_)
          obtain ⟨o_25, o_26, o_27, z_28, ho_29, hf_30, ho_31, hf_32, hQ24⟩ := hG24
          have hP24 : va_P (dC, dI) vwCl (zW_t_readUnit7 p0 o_25 p0_draft f_p0_draft p0_draft_laws o_26 p0_draft_laws_code c_p0_draft_laws_code o_27 p0_text c_p0_text b_p0_text p0_words c_p0_words b_p0_words) H24 := hQ24
          clear hQ24 hP20 hS20
          rcases z_28 with ⟨rfl, z_28⟩ | ⟨rfl, z_28⟩
          · refine lv_if_ne (tgt := 136) hx hb dX4_readUnit_131 (by decide) (fun c_33 => ?_) (fun c_33 => absurd c_33 (by decide))
            refine lv_aload_n hx hb dX4_readUnit_136 rfl (lv_at hl 3 rfl) ?_
            refine q_cVv (As := []) (rest := []) q_exw hE hK hP24 hDa za_t_readUnit7 hS24 hA [0, 4, 5] [1, 2] (by decide +kernel) ⟨hx, hb, hml, hown, hts⟩ (t_step l dC dI H24.size p0 o_25 p0_text c_p0_text b_p0_text p0_words c_p0_words b_p0_words ho_29 ((hf_30.u (by decide) fr_p0_0)) ((hf_30.u (by decide) fr_p0_1))) rfl rfl (cwV 0 hts (p1_gV m_14 m_15 m_16 m_10 g_t_step gz_t_step) rfl rfl rfl (by decide +kernel) ⟨by decide, by decide⟩) (va_recv hK hP24 (ci := 4) (q0 := 0) rfl rfl) zm_t_step rfl hl.1 rfl (Nat.le_of_ble_eq_true rfl) dX4_readUnit_137 ⟨by decide, by decide⟩ (fun H35 lo35 hG35 hS35 => ?_)
            obtain ⟨o_36, ho_37, hf_38, hQ35⟩ := hG35
            have hP35 : va_P (dC, dI) vwCl (zW_t_readUnit7 p0 o_36 p0_draft f_p0_draft p0_draft_laws o_26 p0_draft_laws_code c_p0_draft_laws_code o_27 p0_text c_p0_text b_p0_text p0_words c_p0_words b_p0_words) H35 := hQ35
            clear hQ35 hP24 hS24
            refine lv_iload_n hx hb dX4_readUnit_140 rfl (lv_at hl 1 rfl) (lv_if_eq (tgt := 163) hx hb dX4_readUnit_141 (by decide) (fun c_39 => ?_) (fun c_39 => absurd c_39 (by decide)))
            refine lv_iconst (v := 1) hx hb dX4_readUnit_163 (by decide) (lv_goto (tgt := 168) hx hb dX4_readUnit_164 (by decide) ?_)
            exact q_zret hx hb hr hlocks (by decide) hS35 dX4_readUnit_168 ⟨o_36, o_26, o_27, (Or.inl ⟨rfl, by first | trivial | omega⟩), ho_37, ((q_fr.rf.tr hf_30 (by decide)).tr hf_38 (by decide)), ho_31, ((q_fr.rf.st efs20 (by decide)).tr hf_32 (by decide)), hP35, za_t_readUnit7⟩
          · refine lv_if_ne (tgt := 136) hx hb dX4_readUnit_131 (by decide) (fun c_40 => absurd c_40 (by decide)) (fun c_40 => ?_)
            refine lv_iconst (v := 0) hx hb dX4_readUnit_134 (by decide) ?_
            exact q_zret hx hb hr hlocks (by decide) hS24 dX4_readUnit_135 ⟨o_25, o_26, o_27, (Or.inr ⟨rfl, by first | trivial | omega⟩), ho_29, (q_fr.rf.tr hf_30 (by decide)), ho_31, ((q_fr.rf.st efs20 (by decide)).tr hf_32 (by decide)), hP24, za_t_readUnit7⟩
      · refine lv_if_ne (tgt := 53) hx hb dX4_readUnit_44 (by decide) (fun c_41 => absurd c_41 (by decide)) (fun c_41 => ?_)
        refine lv_aload_n hx hb dX4_readUnit_47 rfl (lv_at hl 2 rfl) (lv_iconst (v := 2) hx hb dX4_readUnit_48 (by decide) ?_)
        refine q_cVi (As := [.int 2]) (rest := []) q_w0 trivial hK hP7 hDa za_t_readUnit7 hS7 hA [0] [] (by decide +kernel) ⟨hx, hb, hml, hown, hts⟩ (t_refuse l dC dI H7.size p0 f_p0 2 ho_p0) rfl rfl (cwV 1 hts (p1_gV m_7 m_8 m_9 m_10 g_t_refuse gz_t_refuse) rfl rfl rfl (by decide +kernel) ⟨by decide, by decide⟩) (va_recv hK hP7 (ci := 4) (q0 := 0) rfl rfl) zm_t_refuse rfl hl.1 rfl (Nat.le_of_ble_eq_true rfl) dX4_readUnit_49 ⟨by decide, by decide⟩ (fun r_42 H43 lo43 hG43 hS43 => ?_)
        obtain ⟨o_44, z_45, ho_46, hf_47, hQ43⟩ := hG43
        have hP43 : va_P (dC, dI) vwCl (zW_t_readUnit7 p0 o_44 p0_draft f_p0_draft p0_draft_laws f_p0_draft_laws p0_draft_laws_code c_p0_draft_laws_code b_p0_draft_laws_code p0_text c_p0_text b_p0_text p0_words c_p0_words b_p0_words) H43 := hQ43
        clear hQ43 hP7 hS7
        rcases z_45 with ⟨rfl, z_45⟩ | ⟨rfl, z_45⟩
        · exact z_45.elim
        · exact q_zret hx hb hr hlocks (by decide) hS43 dX4_readUnit_52 ⟨o_44, f_p0_draft_laws, b_p0_draft_laws_code, (Or.inr ⟨rfl, by first | trivial | omega⟩), ho_46, (q_fr.rf.tr hf_47 (by decide)), ho_p0_draft_laws, q_fr.rf, hP43, za_t_readUnit7⟩
    · have tc_3 := q_eqN c_3
      refine lv_iconst (v := 1) hx hb dX4_readUnit_23 (by decide) (lv_goto (tgt := 28) hx hb dX4_readUnit_24 (by decide) (lv_istore_n (lv' := [(3, .int 1), (2, .int 0), (0, .ref p0), (1, .int 7)]) hx hb dX4_readUnit_28 rfl hl (by decide) rfl (fun ls hl => ?_)))
      refine lv_iload_n hx hb dX4_readUnit_29 rfl (lv_at hl 1 rfl) (lv_if_ne (tgt := 53) hx hb dX4_readUnit_30 (by decide) (fun c_48 => absurd c_48 (by decide)) (fun c_48 => ?_))
      refine lv_iload_n hx hb dX4_readUnit_33 rfl (lv_at hl 0 rfl) (lv_if_ne (tgt := 53) hx hb dX4_readUnit_34 (by decide) (fun c_49 => ?_) (fun c_49 => absurd c_49 (by decide)))
      refine lv_aload_n hx hb dX4_readUnit_53 rfl (lv_at hl 2 rfl) (qg_X4_8 hx hb hts i_X4 hown hK hP 0 rfl k_4 fr_p0_8 dX4_readUnit_54 (qg_X5_12 hx hb hts i_X5 hown hK hP 1 rfl k_5 fr_p0_draft_12 dX4_readUnit_57 ?_))
      obtain ⟨v_50, fv_50⟩ := OKX3_g5 ho_p0_draft_laws
      refine qg_X3_5 hx hb hts i_X3 hown hK hP 2 rfl k_6 fv_50 dX4_readUnit_60 (lv_bipush (v := 60) hx hb dX4_readUnit_63 (by decide) ?_)
      refine lv_icmp_ge (tgt := 78) hx hb dX4_readUnit_65 (by decide) (fun c_51 => ?_) (fun c_51 => ?_)
      · have tc_51 := q_ge c_51
        refine lv_aload_n hx hb dX4_readUnit_78 rfl (lv_at hl 2 rfl) (lv_iconst (v := 2) hx hb dX4_readUnit_79 (by decide) ?_)
        refine q_cVi (As := [.int 2]) (rest := []) q_w0 trivial hK hP hDa za_t_readUnit7 hS hA [0] [] (by decide +kernel) ⟨hx, hb, hml, hown, hts⟩ (t_refuse l dC dI s.heap.size p0 f_p0 2 ho_p0) rfl rfl (cwV 1 hts (p1_gV m_7 m_8 m_9 m_10 g_t_refuse gz_t_refuse) rfl rfl rfl (by decide +kernel) ⟨by decide, by decide⟩) (va_recv hK hP (ci := 4) (q0 := 0) rfl rfl) zm_t_refuse rfl hl.1 rfl (Nat.le_of_ble_eq_true rfl) dX4_readUnit_80 ⟨by decide, by decide⟩ (fun r_52 H53 lo53 hG53 hS53 => ?_)
        obtain ⟨o_54, z_55, ho_56, hf_57, hQ53⟩ := hG53
        have hP53 : va_P (dC, dI) vwCl (zW_t_readUnit7 p0 o_54 p0_draft f_p0_draft p0_draft_laws f_p0_draft_laws p0_draft_laws_code c_p0_draft_laws_code b_p0_draft_laws_code p0_text c_p0_text b_p0_text p0_words c_p0_words b_p0_words) H53 := hQ53
        clear hQ53 hP hS
        rcases z_55 with ⟨rfl, z_55⟩ | ⟨rfl, z_55⟩
        · exact z_55.elim
        · exact q_zret hx hb hr hlocks (by decide) hS53 dX4_readUnit_83 ⟨o_54, f_p0_draft_laws, b_p0_draft_laws_code, (Or.inr ⟨rfl, by first | trivial | omega⟩), ho_56, (q_fr.rf.tr hf_57 (by decide)), ho_p0_draft_laws, q_fr.rf, hP53, za_t_readUnit7⟩
      · have tc_51 := q_ltN c_51
        refine lv_iload_n hx hb dX4_readUnit_68 rfl (lv_at hl 0 rfl) (lv_if_eq (tgt := 84) hx hb dX4_readUnit_69 (by decide) (fun c_58 => absurd c_58 (by decide)) (fun c_58 => ?_))
        refine lv_iload_n hx hb dX4_readUnit_72 rfl (lv_at hl 3 rfl) (lv_bipush (v := 6) hx hb dX4_readUnit_73 (by decide) (lv_icmp_le (tgt := 84) hx hb dX4_readUnit_75 (by decide) (fun c_59 => absurd c_59 (by decide)) (fun c_59 => ?_)))
        refine lv_aload_n hx hb dX4_readUnit_78 rfl (lv_at hl 2 rfl) (lv_iconst (v := 2) hx hb dX4_readUnit_79 (by decide) ?_)
        refine q_cVi (As := [.int 2]) (rest := []) q_w0 trivial hK hP hDa za_t_readUnit7 hS hA [0] [] (by decide +kernel) ⟨hx, hb, hml, hown, hts⟩ (t_refuse l dC dI s.heap.size p0 f_p0 2 ho_p0) rfl rfl (cwV 1 hts (p1_gV m_7 m_8 m_9 m_10 g_t_refuse gz_t_refuse) rfl rfl rfl (by decide +kernel) ⟨by decide, by decide⟩) (va_recv hK hP (ci := 4) (q0 := 0) rfl rfl) zm_t_refuse rfl hl.1 rfl (Nat.le_of_ble_eq_true rfl) dX4_readUnit_80 ⟨by decide, by decide⟩ (fun r_60 H61 lo61 hG61 hS61 => ?_)
        obtain ⟨o_62, z_63, ho_64, hf_65, hQ61⟩ := hG61
        have hP61 : va_P (dC, dI) vwCl (zW_t_readUnit7 p0 o_62 p0_draft f_p0_draft p0_draft_laws f_p0_draft_laws p0_draft_laws_code c_p0_draft_laws_code b_p0_draft_laws_code p0_text c_p0_text b_p0_text p0_words c_p0_words b_p0_words) H61 := hQ61
        clear hQ61 hP hS
        rcases z_63 with ⟨rfl, z_63⟩ | ⟨rfl, z_63⟩
        · exact z_63.elim
        · exact q_zret hx hb hr hlocks (by decide) hS61 dX4_readUnit_83 ⟨o_62, f_p0_draft_laws, b_p0_draft_laws_code, (Or.inr ⟨rfl, by first | trivial | omega⟩), ho_64, (q_fr.rf.tr hf_65 (by decide)), ho_p0_draft_laws, q_fr.rf, hP61, za_t_readUnit7⟩
  · have tc_2 := q_eqN c_2
    refine lv_iconst (v := 1) hx hb dX4_readUnit_8 (by decide) (lv_goto (tgt := 13) hx hb dX4_readUnit_9 (by decide) (lv_istore_n (lv' := [(2, .int 1), (0, .ref p0), (1, .int 7)]) hx hb dX4_readUnit_13 rfl hl (by decide) rfl (fun ls hl => ?_)))
    refine lv_aload_n hx hb dX4_readUnit_14 rfl (lv_at hl 1 rfl) (qg_X4_4 hx hb hts i_X4 hown hK hP 0 rfl k_0 fv_1 dX4_readUnit_15 (lv_bipush (v := 40) hx hb dX4_readUnit_18 (by decide) (lv_icmp_ne (tgt := 27) hx hb dX4_readUnit_20 (by decide) (fun c_66 => ?_) (fun c_66 => by exfalso; have t9 := q_eqN c_66; omega))))
    have tc_66 := q_ne c_66
    refine lv_iconst (v := 0) hx hb dX4_readUnit_27 (by decide) (lv_istore_n (lv' := [(3, .int 0), (2, .int 1), (0, .ref p0), (1, .int 7)]) hx hb dX4_readUnit_28 rfl hl (by decide) rfl (fun ls hl => ?_))
    refine lv_iload_n hx hb dX4_readUnit_29 rfl (lv_at hl 1 rfl) (lv_if_ne (tgt := 53) hx hb dX4_readUnit_30 (by decide) (fun c_67 => ?_) (fun c_67 => absurd c_67 (by decide)))
    refine lv_aload_n hx hb dX4_readUnit_53 rfl (lv_at hl 2 rfl) (qg_X4_8 hx hb hts i_X4 hown hK hP 0 rfl k_4 fr_p0_8 dX4_readUnit_54 (qg_X5_12 hx hb hts i_X5 hown hK hP 1 rfl k_5 fr_p0_draft_12 dX4_readUnit_57 ?_))
    obtain ⟨v_68, fv_68⟩ := OKX3_g5 ho_p0_draft_laws
    refine qg_X3_5 hx hb hts i_X3 hown hK hP 2 rfl k_6 fv_68 dX4_readUnit_60 (lv_bipush (v := 60) hx hb dX4_readUnit_63 (by decide) ?_)
    refine lv_icmp_ge (tgt := 78) hx hb dX4_readUnit_65 (by decide) (fun c_69 => ?_) (fun c_69 => ?_)
    · have tc_69 := q_ge c_69
      refine lv_aload_n hx hb dX4_readUnit_78 rfl (lv_at hl 2 rfl) (lv_iconst (v := 2) hx hb dX4_readUnit_79 (by decide) ?_)
      refine q_cVi (As := [.int 2]) (rest := []) q_w0 trivial hK hP hDa za_t_readUnit7 hS hA [0] [] (by decide +kernel) ⟨hx, hb, hml, hown, hts⟩ (t_refuse l dC dI s.heap.size p0 f_p0 2 ho_p0) rfl rfl (cwV 1 hts (p1_gV m_7 m_8 m_9 m_10 g_t_refuse gz_t_refuse) rfl rfl rfl (by decide +kernel) ⟨by decide, by decide⟩) (va_recv hK hP (ci := 4) (q0 := 0) rfl rfl) zm_t_refuse rfl hl.1 rfl (Nat.le_of_ble_eq_true rfl) dX4_readUnit_80 ⟨by decide, by decide⟩ (fun r_70 H71 lo71 hG71 hS71 => ?_)
      obtain ⟨o_72, z_73, ho_74, hf_75, hQ71⟩ := hG71
      have hP71 : va_P (dC, dI) vwCl (zW_t_readUnit7 p0 o_72 p0_draft f_p0_draft p0_draft_laws f_p0_draft_laws p0_draft_laws_code c_p0_draft_laws_code b_p0_draft_laws_code p0_text c_p0_text b_p0_text p0_words c_p0_words b_p0_words) H71 := hQ71
      clear hQ71 hP hS
      rcases z_73 with ⟨rfl, z_73⟩ | ⟨rfl, z_73⟩
      · exact z_73.elim
      · exact q_zret hx hb hr hlocks (by decide) hS71 dX4_readUnit_83 ⟨o_72, f_p0_draft_laws, b_p0_draft_laws_code, (Or.inr ⟨rfl, by first | trivial | omega⟩), ho_74, (q_fr.rf.tr hf_75 (by decide)), ho_p0_draft_laws, q_fr.rf, hP71, za_t_readUnit7⟩
    · have tc_69 := q_ltN c_69
      refine lv_iload_n hx hb dX4_readUnit_68 rfl (lv_at hl 0 rfl) (lv_if_eq (tgt := 84) hx hb dX4_readUnit_69 (by decide) (fun c_76 => ?_) (fun c_76 => absurd c_76 (by decide)))
      refine lv_aload_n hx hb dX4_readUnit_84 rfl (lv_at hl 2 rfl) (qg_X4_8 hx hb hts i_X4 hown hK hP 0 rfl k_4 fr_p0_8 dX4_readUnit_85 (qg_X5_12 hx hb hts i_X5 hown hK hP 1 rfl k_5 fr_p0_draft_12 dX4_readUnit_88 (lv_dup hx hb dX4_readUnit_91 rfl (qg_X3_5 hx hb hts i_X3 hown hK hP 2 rfl k_6 fv_68 dX4_readUnit_92 (lv_iconst (v := 1) hx hb dX4_readUnit_95 (by decide) (lv_iadd hx hb dX4_readUnit_96 (lv_topi fun v_77 ev_77 => ?_)))))))
      have tv_77 := q_add ev_77 (by have z0 := q_rng v_68; omega) (by have z0 := q_rng v_68; omega)
      refine qp_X3_5 hx hb hts i_X3 hown hK hP hDa za_t_readUnit7 hS 2 rfl k_6 (OKX3_l ho_p0_draft_laws) dX4_readUnit_97 (fun H78 lo78 fs78 efs78 (hP78 : va_P (dC, dI) vwCl (zW_t_readUnit7 p0 f_p0 p0_draft f_p0_draft p0_draft_laws fs78 p0_draft_laws_code c_p0_draft_laws_code b_p0_draft_laws_code p0_text c_p0_text b_p0_text p0_words c_p0_words b_p0_words) H78) hS78 => ?_)
      have ho78 := OKX3_p5 ho_p0_draft_laws efs78
      clear hP hS
      refine lv_iload_n hx hb dX4_readUnit_100 rfl (lv_at hl 1 rfl) (lv_if_eq (tgt := 115) hx hb dX4_readUnit_101 (by decide) (fun c_79 => absurd c_79 (by decide)) (fun c_79 => ?_))
      refine lv_sipush (v := 1000) hx hb dX4_readUnit_104 (by decide) (lv_aload_n hx hb dX4_readUnit_107 rfl (lv_at hl 2 rfl) ?_)
      obtain ⟨v_80, fv_80⟩ := OKX4_g6 ho_p0
      refine qg_X4_6 hx hb hts i_X4 hown hK hP78 0 rfl k_17 fv_80 dX4_readUnit_108 (lv_iadd hx hb dX4_readUnit_111 (lv_topi fun v_81 ev_81 => lv_goto (tgt := 119) hx hb dX4_readUnit_112 (by decide) (lv_istore (lv' := [(4, .int v_81), (3, .int 0), (2, .int 1), (0, .ref p0), (1, .int 7)]) hx hb dX4_readUnit_119 hl (by decide) rfl (fun ls hl => ?_))))
      refine lv_iload_n hx hb dX4_readUnit_121 rfl (lv_at hl 1 rfl) (lv_if_ne (tgt := 136) hx hb dX4_readUnit_122 (by decide) (fun c_82 => absurd c_82 (by decide)) (fun c_82 => ?_))
      refine lv_aload_n hx hb dX4_readUnit_125 rfl (lv_at hl 3 rfl) (lv_iload hx hb dX4_readUnit_126 (lv_at hl 0 rfl) ?_)
      refine q_cVi (As := [.int v_81]) (rest := []) q_w0 trivial hK hP78 hDa za_t_readUnit7 hS78 hA [0, 1, 2, 3] [0] (by decide +kernel) ⟨hx, hb, hml, hown, hts⟩ (t_putToken l dC dI H78.size p0 f_p0 p0_draft f_p0_draft p0_draft_laws fs78 p0_draft_laws_code c_p0_draft_laws_code b_p0_draft_laws_code v_81 ho_p0 fr_p0_8 ho_p0_draft fr_p0_draft_12 ho78 ((q_sn efs78 (by decide) fr_p0_draft_laws_0))) rfl rfl (cwV 1 hts (p1_gV m_11 m_12 m_13 m_10 g_t_putToken gz_t_putToken) rfl rfl rfl (by decide +kernel) ⟨by decide, by decide⟩) (va_recv hK hP78 (ci := 4) (q0 := 0) rfl rfl) zm_t_putToken rfl hl.1 rfl (Nat.le_of_ble_eq_true rfl) dX4_readUnit_128 ⟨by decide, by decide⟩ (fun r_83 H84 lo84 hG84 hS84 => ?_)
      obtain ⟨o_85, o_86, o_87, z_88, ho_89, hf_90, ho_91, hf_92, hQ84⟩ := hG84
      have hP84 : va_P (dC, dI) vwCl (zW_t_readUnit7 p0 o_85 p0_draft f_p0_draft p0_draft_laws o_86 p0_draft_laws_code c_p0_draft_laws_code o_87 p0_text c_p0_text b_p0_text p0_words c_p0_words b_p0_words) H84 := hQ84
      clear hQ84 hP78 hS78
      rcases z_88 with ⟨rfl, z_88⟩ | ⟨rfl, z_88⟩
      · refine lv_if_ne (tgt := 136) hx hb dX4_readUnit_131 (by decide) (fun c_93 => ?_) (fun c_93 => absurd c_93 (by decide))
        refine lv_aload_n hx hb dX4_readUnit_136 rfl (lv_at hl 3 rfl) ?_
        refine q_cVv (As := []) (rest := []) q_exw hE hK hP84 hDa za_t_readUnit7 hS84 hA [0, 4, 5] [1, 2] (by decide +kernel) ⟨hx, hb, hml, hown, hts⟩ (t_step l dC dI H84.size p0 o_85 p0_text c_p0_text b_p0_text p0_words c_p0_words b_p0_words ho_89 ((hf_90.u (by decide) fr_p0_0)) ((hf_90.u (by decide) fr_p0_1))) rfl rfl (cwV 0 hts (p1_gV m_14 m_15 m_16 m_10 g_t_step gz_t_step) rfl rfl rfl (by decide +kernel) ⟨by decide, by decide⟩) (va_recv hK hP84 (ci := 4) (q0 := 0) rfl rfl) zm_t_step rfl hl.1 rfl (Nat.le_of_ble_eq_true rfl) dX4_readUnit_137 ⟨by decide, by decide⟩ (fun H95 lo95 hG95 hS95 => ?_)
        obtain ⟨o_96, ho_97, hf_98, hQ95⟩ := hG95
        have hP95 : va_P (dC, dI) vwCl (zW_t_readUnit7 p0 o_96 p0_draft f_p0_draft p0_draft_laws o_86 p0_draft_laws_code c_p0_draft_laws_code o_87 p0_text c_p0_text b_p0_text p0_words c_p0_words b_p0_words) H95 := hQ95
        clear hQ95 hP84 hS84
        refine lv_iload_n hx hb dX4_readUnit_140 rfl (lv_at hl 1 rfl) (lv_if_eq (tgt := 163) hx hb dX4_readUnit_141 (by decide) (fun c_99 => ?_) (fun c_99 => absurd c_99 (by decide)))
        refine lv_iconst (v := 1) hx hb dX4_readUnit_163 (by decide) (lv_goto (tgt := 168) hx hb dX4_readUnit_164 (by decide) ?_)
        exact q_zret hx hb hr hlocks (by decide) hS95 dX4_readUnit_168 ⟨o_96, o_86, o_87, (Or.inl ⟨rfl, by first | trivial | omega⟩), ho_97, ((q_fr.rf.tr hf_90 (by decide)).tr hf_98 (by decide)), ho_91, ((q_fr.rf.st efs78 (by decide)).tr hf_92 (by decide)), hP95, za_t_readUnit7⟩
      · refine lv_if_ne (tgt := 136) hx hb dX4_readUnit_131 (by decide) (fun c_100 => absurd c_100 (by decide)) (fun c_100 => ?_)
        refine lv_iconst (v := 0) hx hb dX4_readUnit_134 (by decide) ?_
        exact q_zret hx hb hr hlocks (by decide) hS84 dX4_readUnit_135 ⟨o_85, o_86, o_87, (Or.inr ⟨rfl, by first | trivial | omega⟩), ho_89, (q_fr.rf.tr hf_90 (by decide)), ho_91, ((q_fr.rf.st efs78 (by decide)).tr hf_92 (by decide)), hP84, za_t_readUnit7⟩
def zo_t_readTerm7 : List Cond := [.code yX4_readTerm cX4_readTerm 5 (some .boolean), .fieldLink RX4 28 "BowWalk$Reader" "token" "I", .methodLink RX4 78 yX4_step, .instanceMethod yX4_step, .selects RX4 yX4_step yX4_step, .initialized RX4, .methodLink RX4 229 yX4_readUnit, .instanceMethod yX4_readUnit, .selects RX4 yX4_readUnit yX4_readUnit, .methodLink RX4 214 yX4_putToken, .instanceMethod yX4_putToken, .selects RX4 yX4_putToken yX4_putToken]
def zw_t_readTerm7 : List Cond := zo_t_readTerm7 ++ (zw_t_step ++ (zw_t_readUnit7 ++ (zw_t_putToken ++ (wsX40 ++ []))))
theorem gz_t_readTerm7 : zw_t_readTerm7.all goodWord = true := p1_ga (by decide +kernel) (p1_ga gz_t_step (p1_ga gz_t_readUnit7 (p1_ga gz_t_putToken (p1_ga gk_X4 p1_g0))))
theorem iz_t_readTerm7 : ∀ w ∈ zw_t_readTerm7, w ∈ lw_tbl := p1_ia (p1_all [668, 311, 573, 575, 1, 105, 669, 671, 20, 676, 678, 21] (by decide +kernel)) (p1_ia iz_t_step (p1_ia iz_t_readUnit7 (p1_ia iz_t_putToken (p1_ia ik_X4 p1_i0))))
def zW_t_readTerm7 (p0 : Nat) (f_p0 : List Value) (p0_draft : Nat) (f_p0_draft : List Value) (p0_draft_laws : Nat) (f_p0_draft_laws : List Value) (p0_draft_laws_code : Nat) (c_p0_draft_laws_code : ClassId) (b_p0_draft_laws_code : Nat → Int32) (p0_text : Nat) (c_p0_text : ClassId) (b_p0_text : Nat → Int32) (p0_words : Nat) (c_p0_words : ClassId) (b_p0_words : Nat → Int64) : va_W := [(p0, .inr (4, f_p0)), (p0_draft, .inr (5, f_p0_draft)), (p0_draft_laws, .inr (3, f_p0_draft_laws)), (p0_draft_laws_code, .inl (c_p0_draft_laws_code, 600, .inl b_p0_draft_laws_code)), (p0_text, .inl (c_p0_text, 1600, .inl b_p0_text)), (p0_words, .inl (c_p0_words, 22, .inr (.inl b_p0_words)))]
def zT_t_readTerm7 (c_p0_draft_laws_code : ClassId) (c_p0_text : ClassId) (c_p0_words : ClassId) : List (ClassId × FieldType) := [(c_p0_draft_laws_code, .int), (c_p0_text, .byte), (c_p0_words, .long)]
def zA_t_readTerm7 (p0 : Nat) (p0_draft : Nat) (p0_draft_laws : Nat) (p0_draft_laws_code : Nat) (p0_text : Nat) (p0_words : Nat) : List Nat := [p0, p0_draft, p0_draft_laws, p0_draft_laws_code, p0_text, p0_words]
theorem za_t_readTerm7 {p0 : Nat} {f_p0 : List Value} {p0_draft : Nat} {f_p0_draft : List Value} {p0_draft_laws : Nat} {f_p0_draft_laws : List Value} {p0_draft_laws_code : Nat} {c_p0_draft_laws_code : ClassId} {b_p0_draft_laws_code : Nat → Int32} {p0_text : Nat} {c_p0_text : ClassId} {b_p0_text : Nat → Int32} {p0_words : Nat} {c_p0_words : ClassId} {b_p0_words : Nat → Int64} : (zW_t_readTerm7 p0 f_p0 p0_draft f_p0_draft p0_draft_laws f_p0_draft_laws p0_draft_laws_code c_p0_draft_laws_code b_p0_draft_laws_code p0_text c_p0_text b_p0_text p0_words c_p0_words b_p0_words).map Prod.fst = (zA_t_readTerm7 p0 p0_draft p0_draft_laws p0_draft_laws_code p0_text p0_words) := rfl
def zG_t_readTerm7 (p0 : Nat) (f_p0 : List Value) (p0_draft : Nat) (f_p0_draft : List Value) (p0_draft_laws : Nat) (f_p0_draft_laws : List Value) (p0_draft_laws_code : Nat) (c_p0_draft_laws_code : ClassId) (b_p0_draft_laws_code : Nat → Int32) (p0_text : Nat) (c_p0_text : ClassId) (b_p0_text : Nat → Int32) (p0_words : Nat) (c_p0_words : ClassId) (b_p0_words : Nat → Int64) (r : Int32) (X : va_W → Prop) : Prop := ∃ (y_p0 : List Value) (y_p0_draft_laws : List Value) (y_p0_draft_laws_code : Nat → Int32), ((r = 1 ∧ (True)) ∨ (r = 0 ∧ (True))) ∧ OKX4 y_p0 ∧ q_fr [3, 4, 5, 6, 7, 9, 10] f_p0 y_p0 ∧ OKX3 y_p0_draft_laws ∧ q_fr [3, 5] f_p0_draft_laws y_p0_draft_laws ∧ X (zW_t_readTerm7 p0 y_p0 p0_draft f_p0_draft p0_draft_laws y_p0_draft_laws p0_draft_laws_code c_p0_draft_laws_code y_p0_draft_laws_code p0_text c_p0_text b_p0_text p0_words c_p0_words b_p0_words)
theorem zm_t_readTerm7 {p0 : Nat} {f_p0 : List Value} {p0_draft : Nat} {f_p0_draft : List Value} {p0_draft_laws : Nat} {f_p0_draft_laws : List Value} {p0_draft_laws_code : Nat} {c_p0_draft_laws_code : ClassId} {b_p0_draft_laws_code : Nat → Int32} {p0_text : Nat} {c_p0_text : ClassId} {b_p0_text : Nat → Int32} {p0_words : Nat} {c_p0_words : ClassId} {b_p0_words : Nat → Int64} : ∀ (r : Int32), ∀ X Y : va_W → Prop, (∀ w, X w → Y w) → zG_t_readTerm7 p0 f_p0 p0_draft f_p0_draft p0_draft_laws f_p0_draft_laws p0_draft_laws_code c_p0_draft_laws_code b_p0_draft_laws_code p0_text c_p0_text b_p0_text p0_words c_p0_words b_p0_words r X → zG_t_readTerm7 p0 f_p0 p0_draft f_p0_draft p0_draft_laws f_p0_draft_laws p0_draft_laws_code c_p0_draft_laws_code b_p0_draft_laws_code p0_text c_p0_text b_p0_text p0_words c_p0_words b_p0_words r Y := fun r X Y h h1 => by obtain ⟨x0, x1, x2, x3, x4, x5, x6, x7, hx⟩ := h1; exact ⟨x0, x1, x2, x3, x4, x5, x6, x7, h _ hx⟩
set_option maxHeartbeats 4000000 in
set_option maxRecDepth 100000 in
theorem t_readTerm7 (l : Launch) (dC : Nat → ClassId) (dI : Nat → Nat → Nat) (sz : Nat) (p0 : Nat) (f_p0 : List Value) (p0_draft : Nat) (f_p0_draft : List Value) (p0_draft_laws : Nat) (f_p0_draft_laws : List Value) (p0_draft_laws_code : Nat) (c_p0_draft_laws_code : ClassId) (b_p0_draft_laws_code : Nat → Int32) (p0_text : Nat) (c_p0_text : ClassId) (b_p0_text : Nat → Int32) (p0_words : Nat) (c_p0_words : ClassId) (b_p0_words : Nat → Int64) (ho_p0 : OKX4 f_p0) (fr_p0_0 : q_rf f_p0 0 p0_words) (fr_p0_1 : q_rf f_p0 1 p0_text) (fr_p0_8 : q_rf f_p0 8 p0_draft) (ho_p0_draft : OKX5 f_p0_draft) (fr_p0_draft_12 : q_rf f_p0_draft 12 p0_draft_laws) (ho_p0_draft_laws : OKX3 f_p0_draft_laws) (fr_p0_draft_laws_0 : q_rf f_p0_draft_laws 0 p0_draft_laws_code) : Met l yX4_readTerm zw_t_readTerm7 ({ frames := 7, cells := 0, slots := 0, locals := 150 }) (va_Pc [.ref p0, .int 7] (q_pre (dC, dI) (zW_t_readTerm7 p0 f_p0 p0_draft f_p0_draft p0_draft_laws f_p0_draft_laws p0_draft_laws_code c_p0_draft_laws_code b_p0_draft_laws_code p0_text c_p0_text b_p0_text p0_words c_p0_words b_p0_words) (zT_t_readTerm7 c_p0_draft_laws_code c_p0_text c_p0_words) q_ex sz)) (q_Qi (dC, dI) (zG_t_readTerm7 p0 f_p0 p0_draft f_p0_draft p0_draft_laws f_p0_draft_laws p0_draft_laws_code c_p0_draft_laws_code b_p0_draft_laws_code p0_text c_p0_text b_p0_text p0_words c_p0_words b_p0_words) (zA_t_readTerm7 p0 p0_draft p0_draft_laws p0_draft_laws_code p0_text p0_words) (va_A (zW_t_readTerm7 p0 f_p0 p0_draft f_p0_draft p0_draft_laws f_p0_draft_laws p0_draft_laws_code c_p0_draft_laws_code b_p0_draft_laws_code p0_text c_p0_text b_p0_text p0_words c_p0_words b_p0_words) sz)) 0 0 (va_A (zW_t_readTerm7 p0 f_p0 p0_draft f_p0_draft p0_draft_laws f_p0_draft_laws p0_draft_laws_code c_p0_draft_laws_code b_p0_draft_laws_code p0_text c_p0_text b_p0_text p0_words c_p0_words b_p0_words) sz) := by
  refine Met.ofW (cc := cX4_readTerm) (maxL := 5) (ret := (some .boolean)) (by decide) rfl ?_
  intro p e s m args below meth c s₁ B hml hv
  obtain ⟨rfl, hsz, hP, hK, hD0, hE⟩ := hv
  have hx := B.exec
  have hb := B.bytes
  have hr := B.returns
  have hts := atoms_spec (ws := zw_t_readTerm7) B.pre
  have hown : s.vm.findClass RX4 = some m.cls := findClass_of_methodNamed B.named
  have hlocks := B.notSynchronized
  subst hsz
  have hD := hD0.self (sz := s.heap.size)
  generalize hAe : va_A (zW_t_readTerm7 p0 f_p0 p0_draft f_p0_draft p0_draft_laws f_p0_draft_laws p0_draft_laws_code c_p0_draft_laws_code b_p0_draft_laws_code p0_text c_p0_text b_p0_text p0_words c_p0_words b_p0_words) s.heap.size = A at hD hE ⊢
  have hA : ∀ q : Nat, s.heap.size ≤ q → A q := fun q h => by rw [← hAe]; exact Or.inr h
  have hDa : q_DA A (zA_t_readTerm7 p0 p0_draft p0_draft_laws p0_draft_laws_code p0_text p0_words) := q_DA.mk hD za_t_readTerm7
  clear hAe hD0 hD
  have hS : va_S A s.heap s.heap [] := va_S.rf
  have m_0 : (.fieldLink RX4 28 "BowWalk$Reader" "token" "I" : Cond) ∈ zw_t_readTerm7 := List.mem_append_left _ (List.mem_of_getElem? (i := 1) rfl)
  have k_0 := hts _ m_0
  have m_1 : (.methodLink RX4 78 yX4_step : Cond) ∈ zw_t_readTerm7 := List.mem_append_left _ (List.mem_of_getElem? (i := 2) rfl)
  have k_1 := hts _ m_1
  have m_2 : (.instanceMethod yX4_step : Cond) ∈ zw_t_readTerm7 := List.mem_append_left _ (List.mem_of_getElem? (i := 3) rfl)
  have k_2 := hts _ m_2
  have m_3 : (.selects RX4 yX4_step yX4_step : Cond) ∈ zw_t_readTerm7 := List.mem_append_left _ (List.mem_of_getElem? (i := 4) rfl)
  have k_3 := hts _ m_3
  have m_4 : (.initialized RX4 : Cond) ∈ zw_t_readTerm7 := List.mem_append_left _ (List.mem_of_getElem? (i := 5) rfl)
  have k_4 := hts _ m_4
  have m_5 : (.methodLink RX4 229 yX4_readUnit : Cond) ∈ zw_t_readTerm7 := List.mem_append_left _ (List.mem_of_getElem? (i := 6) rfl)
  have k_5 := hts _ m_5
  have m_6 : (.instanceMethod yX4_readUnit : Cond) ∈ zw_t_readTerm7 := List.mem_append_left _ (List.mem_of_getElem? (i := 7) rfl)
  have k_6 := hts _ m_6
  have m_7 : (.selects RX4 yX4_readUnit yX4_readUnit : Cond) ∈ zw_t_readTerm7 := List.mem_append_left _ (List.mem_of_getElem? (i := 8) rfl)
  have k_7 := hts _ m_7
  have m_8 : (.methodLink RX4 214 yX4_putToken : Cond) ∈ zw_t_readTerm7 := List.mem_append_left _ (List.mem_of_getElem? (i := 9) rfl)
  have k_8 := hts _ m_8
  have m_9 : (.instanceMethod yX4_putToken : Cond) ∈ zw_t_readTerm7 := List.mem_append_left _ (List.mem_of_getElem? (i := 10) rfl)
  have k_9 := hts _ m_9
  have m_10 : (.selects RX4 yX4_putToken yX4_putToken : Cond) ∈ zw_t_readTerm7 := List.mem_append_left _ (List.mem_of_getElem? (i := 11) rfl)
  have k_10 := hts _ m_10
  have g_t_step : ∀ w ∈ zw_t_step, w ∈ zw_t_readTerm7 := fun w h => List.mem_append_right _ (List.mem_append_left _ h)
  have g_t_readUnit7 : ∀ w ∈ zw_t_readUnit7, w ∈ zw_t_readTerm7 := fun w h => List.mem_append_right _ (List.mem_append_right _ (List.mem_append_left _ h))
  have g_t_putToken : ∀ w ∈ zw_t_putToken, w ∈ zw_t_readTerm7 := fun w h => List.mem_append_right _ (List.mem_append_right _ (List.mem_append_right _ (List.mem_append_left _ h)))
  have i_X4 : ∀ w ∈ u_ws RX4 TX4 11, w ∈ zw_t_readTerm7 := fun w h => List.mem_append_right _ (List.mem_append_right _ (List.mem_append_right _ (List.mem_append_right _ (List.mem_append_left _ h))))
  have lt_0 : (0 : Int32).toInt = 0 := by decide
  have lt_1 : (1 : Int32).toInt = 1 := by decide
  have lt_7 : (7 : Int32).toInt = 7 := by decide
  have lt_42 : (42 : Int32).toInt = 42 := by decide
  have lt_47 : (47 : Int32).toInt = 47 := by decide
  have lt_60 : (60 : Int32).toInt = 60 := by decide
  have hl := lv_entry ([.ref p0, .int 7]) (n := 5) (Nat.le_of_ble_eq_true rfl)
  rw [lg_entry_eq]
  generalize (lg_sl ([.ref p0, .int 7]) ++ List.replicate (5 - (lg_sl ([.ref p0, .int 7])).length) Slot.unset).toArray = ls at hl ⊢
  have hl : lv_has ls 5 [(0, .ref p0), (1, .int 7)] := hl
  have jn_2 : ∀ (fz_p0 : List Value) (fz_p0_draft_laws : List Value) (bz_p0_draft_laws_code : Nat → Int32) (j_1 : Int32) (H : Heap) (locs : List Loc) (ls : Array Slot) (ho_fz_p0 : OKX4 fz_p0) (hf_fz_p0 : q_fr [3, 4, 5, 6, 7, 9, 10] f_p0 fz_p0) (fr_fz_p0_0 : q_rf fz_p0 0 p0_words) (fr_fz_p0_1 : q_rf fz_p0 1 p0_text) (fr_fz_p0_8 : q_rf fz_p0 8 p0_draft) (ho_fz_p0_draft_laws : OKX3 fz_p0_draft_laws) (hf_fz_p0_draft_laws : q_fr [3, 5] f_p0_draft_laws fz_p0_draft_laws) (fr_fz_p0_draft_laws_0 : q_rf fz_p0_draft_laws 0 p0_draft_laws_code) (tj_1 : (0) ≤ j_1.toInt ∧ j_1.toInt ≤ 1), va_P (dC, dI) vwCl (zW_t_readTerm7 p0 fz_p0 p0_draft f_p0_draft p0_draft_laws fz_p0_draft_laws p0_draft_laws_code c_p0_draft_laws_code bz_p0_draft_laws_code p0_text c_p0_text b_p0_text p0_words c_p0_words b_p0_words) H → va_S A s.heap H locs → lv_has ls 5 [(0, .ref p0), (1, .int 7)] → W p l e (headSpec zw_t_readTerm7 { frames := 7, cells := 0, slots := 0, locals := 150 }).room s m ([.ref p0, .int 7] : List Value).toArray below meth c H locs 0 0 (MQ below (q_Qi (dC, dI) (zG_t_readTerm7 p0 f_p0 p0_draft f_p0_draft p0_draft_laws f_p0_draft_laws p0_draft_laws_code c_p0_draft_laws_code b_p0_draft_laws_code p0_text c_p0_text b_p0_text p0_words c_p0_words b_p0_words) (zA_t_readTerm7 p0 p0_draft p0_draft_laws p0_draft_laws_code p0_text p0_words) A) ([.ref p0, .int 7] : List Value).toArray s 0 0 A) (F0 m 5 ls [.int j_1]) := by
    intro fz_p0 fz_p0_draft_laws bz_p0_draft_laws_code j_1 H3 lo3 ls ho_fz_p0 hf_fz_p0 fr_fz_p0_0 fr_fz_p0_1 fr_fz_p0_8 ho_fz_p0_draft_laws hf_fz_p0_draft_laws fr_fz_p0_draft_laws_0 tj_1 hP3 hS3 hl
    refine lv_istore_n (lv' := [(2, .int j_1), (0, .ref p0), (1, .int 7)]) hx hb dX4_readTerm_5 rfl hl (by decide) rfl (fun ls hl => ?_)
    refine lv_iconst (v := 0) hx hb dX4_readTerm_6 (by decide) (lv_istore_n (lv' := [(3, .int 0), (2, .int j_1), (0, .ref p0), (1, .int 7)]) hx hb dX4_readTerm_7 rfl hl (by decide) rfl (fun ls hl => ?_))
    have key8 : ∀ (fu8 : Nat) (rd : Int32) (n : Int32) (fz_p0 : List Value) (fz_p0_draft_laws : List Value) (bz_p0_draft_laws_code : Nat → Int32) (H : Heap) (locs : List Loc) (ls : Array Slot) (hfu8 : 60 - n.toInt ≤ (fu8 : Int)) (trd : (0) ≤ rd.toInt ∧ rd.toInt ≤ 1) (tn : (0) ≤ n.toInt ∧ n.toInt ≤ 60) (ho_fz_p0 : OKX4 fz_p0) (hf_fz_p0 : q_fr [3, 4, 5, 6, 7, 9, 10] f_p0 fz_p0) (fr_fz_p0_0 : q_rf fz_p0 0 p0_words) (fr_fz_p0_1 : q_rf fz_p0 1 p0_text) (fr_fz_p0_8 : q_rf fz_p0 8 p0_draft) (ho_fz_p0_draft_laws : OKX3 fz_p0_draft_laws) (hf_fz_p0_draft_laws : q_fr [3, 5] f_p0_draft_laws fz_p0_draft_laws) (fr_fz_p0_draft_laws_0 : q_rf fz_p0_draft_laws 0 p0_draft_laws_code), va_P (dC, dI) vwCl (zW_t_readTerm7 p0 fz_p0 p0_draft f_p0_draft p0_draft_laws fz_p0_draft_laws p0_draft_laws_code c_p0_draft_laws_code bz_p0_draft_laws_code p0_text c_p0_text b_p0_text p0_words c_p0_words b_p0_words) H → va_S A s.heap H locs → lv_has ls 5 [(3, .int n), (2, .int rd), (0, .ref p0), (1, .int 7)] → W p l e (headSpec zw_t_readTerm7 { frames := 7, cells := 0, slots := 0, locals := 150 }).room s m ([.ref p0, .int 7] : List Value).toArray below meth c H locs 0 0 (MQ below (q_Qi (dC, dI) (zG_t_readTerm7 p0 f_p0 p0_draft f_p0_draft p0_draft_laws f_p0_draft_laws p0_draft_laws_code c_p0_draft_laws_code b_p0_draft_laws_code p0_text c_p0_text b_p0_text p0_words c_p0_words b_p0_words) (zA_t_readTerm7 p0 p0_draft p0_draft_laws p0_draft_laws_code p0_text p0_words) A) ([.ref p0, .int 7] : List Value).toArray s 0 0 A) (F0 m 8 ls []) := by
      intro fu8
      induction fu8 using Nat.strongRecOn with
      | ind fu8 ih8 =>
        intro rd n fz_p0 fz_p0_draft_laws bz_p0_draft_laws_code H4 lo4 ls hfu8 trd tn ho_fz_p0 hf_fz_p0 fr_fz_p0_0 fr_fz_p0_1 fr_fz_p0_8 ho_fz_p0_draft_laws hf_fz_p0_draft_laws fr_fz_p0_draft_laws_0 hP4 hS4 hl
        refine lv_iload_n hx hb dX4_readTerm_8 rfl (lv_at hl 0 rfl) (lv_bipush (v := 60) hx hb dX4_readTerm_9 (by decide) ?_)
        refine lv_icmp_ge (tgt := 75) hx hb dX4_readTerm_11 (by decide) (fun c_5 => ?_) (fun c_5 => ?_)
        · have tc_5 := q_ge c_5
          refine lv_iload_n hx hb dX4_readTerm_75 rfl (lv_at hl 1 rfl) ?_
          rcases q_c2 (i := rd) (by omega) (by omega) with hb_6 | hb_6
          · exact q_zret hx hb hr hlocks (by rw [hb_6]; decide) hS4 dX4_readTerm_76 ⟨fz_p0, fz_p0_draft_laws, bz_p0_draft_laws_code, (Or.inr ⟨hb_6, by first | trivial | omega⟩), ho_fz_p0, hf_fz_p0, ho_fz_p0_draft_laws, hf_fz_p0_draft_laws, hP4, za_t_readTerm7⟩
          · exact q_zret hx hb hr hlocks (by rw [hb_6]; decide) hS4 dX4_readTerm_76 ⟨fz_p0, fz_p0_draft_laws, bz_p0_draft_laws_code, (Or.inl ⟨hb_6, by first | trivial | omega⟩), ho_fz_p0, hf_fz_p0, ho_fz_p0_draft_laws, hf_fz_p0_draft_laws, hP4, za_t_readTerm7⟩
        · have tc_5 := q_ltN c_5
          refine lv_iload_n hx hb dX4_readTerm_14 rfl (lv_at hl 1 rfl) ?_
          refine lv_if_eq (tgt := 75) hx hb dX4_readTerm_15 (by decide) (fun c_7 => ?_) (fun c_7 => ?_)
          · have tc_7 := q_eq c_7
            refine lv_iload_n hx hb dX4_readTerm_75 rfl (lv_at hl 1 rfl) ?_
            rcases q_c2 (i := rd) (by omega) (by omega) with hb_8 | hb_8
            · exact q_zret hx hb hr hlocks (by rw [hb_8]; decide) hS4 dX4_readTerm_76 ⟨fz_p0, fz_p0_draft_laws, bz_p0_draft_laws_code, (Or.inr ⟨hb_8, by first | trivial | omega⟩), ho_fz_p0, hf_fz_p0, ho_fz_p0_draft_laws, hf_fz_p0_draft_laws, hP4, za_t_readTerm7⟩
            · exact q_zret hx hb hr hlocks (by rw [hb_8]; decide) hS4 dX4_readTerm_76 ⟨fz_p0, fz_p0_draft_laws, bz_p0_draft_laws_code, (Or.inl ⟨hb_8, by first | trivial | omega⟩), ho_fz_p0, hf_fz_p0, ho_fz_p0_draft_laws, hf_fz_p0_draft_laws, hP4, za_t_readTerm7⟩
          · have tc_7 := q_neN c_7
            refine lv_aload_n hx hb dX4_readTerm_18 rfl (lv_at hl 2 rfl) ?_
            obtain ⟨v_9, fv_9⟩ := OKX4_g4 ho_fz_p0
            refine qg_X4_4 hx hb hts i_X4 hown hK hP4 0 rfl k_0 fv_9 dX4_readTerm_19 (lv_bipush (v := 42) hx hb dX4_readTerm_22 (by decide) ?_)
            refine lv_icmp_eq (tgt := 36) hx hb dX4_readTerm_24 (by decide) (fun c_10 => ?_) (fun c_10 => ?_)
            · have tc_10 := q_eq c_10
              refine lv_aload_n hx hb dX4_readTerm_36 rfl (lv_at hl 2 rfl) (qg_X4_4 hx hb hts i_X4 hown hK hP4 0 rfl k_0 fv_9 dX4_readTerm_37 (lv_istore (lv' := [(4, .int v_9), (3, .int n), (2, .int rd), (0, .ref p0), (1, .int 7)]) hx hb dX4_readTerm_40 hl (by decide) rfl (fun ls hl => ?_)))
              refine lv_aload_n hx hb dX4_readTerm_42 rfl (lv_at hl 3 rfl) ?_
              refine q_cVv (As := []) (rest := []) q_exw hE hK hP4 hDa za_t_readTerm7 hS4 hA [0, 4, 5] [1, 2] (by decide +kernel) ⟨hx, hb, hml, hown, hts⟩ (t_step l dC dI H4.size p0 fz_p0 p0_text c_p0_text b_p0_text p0_words c_p0_words b_p0_words ho_fz_p0 fr_fz_p0_0 fr_fz_p0_1) rfl rfl (cwV 0 hts (p1_gV m_1 m_2 m_3 m_4 g_t_step gz_t_step) rfl rfl rfl (by decide +kernel) ⟨by decide, by decide⟩) (va_recv hK hP4 (ci := 4) (q0 := 0) rfl rfl) zm_t_step rfl hl.1 rfl (Nat.le_of_ble_eq_true rfl) dX4_readTerm_43 ⟨by decide, by decide⟩ (fun H12 lo12 hG12 hS12 => ?_)
              obtain ⟨o_13, ho_14, hf_15, hQ12⟩ := hG12
              have hP12 : va_P (dC, dI) vwCl (zW_t_readTerm7 p0 o_13 p0_draft f_p0_draft p0_draft_laws fz_p0_draft_laws p0_draft_laws_code c_p0_draft_laws_code bz_p0_draft_laws_code p0_text c_p0_text b_p0_text p0_words c_p0_words b_p0_words) H12 := hQ12
              clear hQ12 hP4 hS4
              refine lv_aload_n hx hb dX4_readTerm_46 rfl (lv_at hl 3 rfl) (lv_iload_n hx hb dX4_readTerm_47 rfl (lv_at hl 4 rfl) ?_)
              refine q_cVi (As := [.int 7]) (rest := []) q_exw hE hK hP12 hDa za_t_readTerm7 hS12 hA [0, 1, 2, 3, 4, 5] [0, 1, 2] (by decide +kernel) ⟨hx, hb, hml, hown, hts⟩ (t_readUnit7 l dC dI H12.size p0 o_13 p0_draft f_p0_draft p0_draft_laws fz_p0_draft_laws p0_draft_laws_code c_p0_draft_laws_code bz_p0_draft_laws_code p0_text c_p0_text b_p0_text p0_words c_p0_words b_p0_words ho_14 ((hf_15.u (by decide) fr_fz_p0_0)) ((hf_15.u (by decide) fr_fz_p0_1)) ((hf_15.u (by decide) fr_fz_p0_8)) ho_p0_draft fr_p0_draft_12 ho_fz_p0_draft_laws fr_fz_p0_draft_laws_0) rfl rfl (cwV 1 hts (p1_gV m_5 m_6 m_7 m_4 g_t_readUnit7 gz_t_readUnit7) rfl rfl rfl (by decide +kernel) ⟨by decide, by decide⟩) (va_recv hK hP12 (ci := 4) (q0 := 0) rfl rfl) zm_t_readUnit7 rfl hl.1 rfl (Nat.le_of_ble_eq_true rfl) dX4_readTerm_48 ⟨by decide, by decide⟩ (fun r_16 H17 lo17 hG17 hS17 => ?_)
              obtain ⟨o_18, o_19, o_20, z_21, ho_22, hf_23, ho_24, hf_25, hQ17⟩ := hG17
              have hP17 : va_P (dC, dI) vwCl (zW_t_readTerm7 p0 o_18 p0_draft f_p0_draft p0_draft_laws o_19 p0_draft_laws_code c_p0_draft_laws_code o_20 p0_text c_p0_text b_p0_text p0_words c_p0_words b_p0_words) H17 := hQ17
              clear hQ17 hP12 hS12
              rcases z_21 with ⟨rfl, z_21⟩ | ⟨rfl, z_21⟩
              · refine lv_if_eq (tgt := 67) hx hb dX4_readTerm_51 (by decide) (fun c_26 => absurd c_26 (by decide)) (fun c_26 => ?_)
                refine lv_aload_n hx hb dX4_readTerm_54 rfl (lv_at hl 3 rfl) (lv_iload hx hb dX4_readTerm_55 (lv_at hl 0 rfl) ?_)
                refine q_cVi (As := [.int v_9]) (rest := []) q_w0 trivial hK hP17 hDa za_t_readTerm7 hS17 hA [0, 1, 2, 3] [0] (by decide +kernel) ⟨hx, hb, hml, hown, hts⟩ (t_putToken l dC dI H17.size p0 o_18 p0_draft f_p0_draft p0_draft_laws o_19 p0_draft_laws_code c_p0_draft_laws_code o_20 v_9 ho_22 ((hf_23.u (by decide) (hf_15.u (by decide) fr_fz_p0_8))) ho_p0_draft fr_p0_draft_12 ho_24 ((hf_25.u (by decide) fr_fz_p0_draft_laws_0))) rfl rfl (cwV 1 hts (p1_gV m_8 m_9 m_10 m_4 g_t_putToken gz_t_putToken) rfl rfl rfl (by decide +kernel) ⟨by decide, by decide⟩) (va_recv hK hP17 (ci := 4) (q0 := 0) rfl rfl) zm_t_putToken rfl hl.1 rfl (Nat.le_of_ble_eq_true rfl) dX4_readTerm_57 ⟨by decide, by decide⟩ (fun r_27 H28 lo28 hG28 hS28 => ?_)
                obtain ⟨o_29, o_30, o_31, z_32, ho_33, hf_34, ho_35, hf_36, hQ28⟩ := hG28
                have hP28 : va_P (dC, dI) vwCl (zW_t_readTerm7 p0 o_29 p0_draft f_p0_draft p0_draft_laws o_30 p0_draft_laws_code c_p0_draft_laws_code o_31 p0_text c_p0_text b_p0_text p0_words c_p0_words b_p0_words) H28 := hQ28
                clear hQ28 hP17 hS17
                rcases z_32 with ⟨rfl, z_32⟩ | ⟨rfl, z_32⟩
                · refine lv_if_eq (tgt := 67) hx hb dX4_readTerm_60 (by decide) (fun c_37 => absurd c_37 (by decide)) (fun c_37 => ?_)
                  refine lv_iconst (v := 1) hx hb dX4_readTerm_63 (by decide) (lv_goto (tgt := 68) hx hb dX4_readTerm_64 (by decide) (lv_istore_n (lv' := [(2, .int 1), (4, .int v_9), (3, .int n), (0, .ref p0), (1, .int 7)]) hx hb dX4_readTerm_68 rfl hl (by decide) rfl (fun ls hl => ?_)))
                  obtain ⟨v_38, ev_38⟩ : ∃ y : Int32, y = n + 1 := ⟨_, rfl⟩
                  have tv_38 := q_add ev_38 (by omega) (by omega)
                  refine lv_iinc (v := v_38) (lv' := [(3, .int v_38), (2, .int 1), (4, .int v_9), (0, .ref p0), (1, .int 7)]) hx hb dX4_readTerm_69 hl (k := 2) rfl (by rw [ev_38]; rfl) (by decide) rfl (fun ls hl => ?_)
                  refine lv_goto (tgt := 8) hx hb dX4_readTerm_72 (by decide) ?_
                  exact ih8 (fu8 - 1) (by omega) 1 v_38 o_29 o_30 o_31 _ _ _ (by omega) (by omega) (by omega) ho_33 (((hf_fz_p0.tr hf_15 (by decide)).tr hf_23 (by decide)).tr hf_34 (by decide)) (hf_34.u (by decide) (hf_23.u (by decide) (hf_15.u (by decide) fr_fz_p0_0))) (hf_34.u (by decide) (hf_23.u (by decide) (hf_15.u (by decide) fr_fz_p0_1))) (hf_34.u (by decide) (hf_23.u (by decide) (hf_15.u (by decide) fr_fz_p0_8))) ho_35 ((hf_fz_p0_draft_laws.tr hf_25 (by decide)).tr hf_36 (by decide)) (hf_36.u (by decide) (hf_25.u (by decide) fr_fz_p0_draft_laws_0)) hP28 hS28 (lv_sub hl [0, 1, 3, 4] rfl)
                · refine lv_if_eq (tgt := 67) hx hb dX4_readTerm_60 (by decide) (fun c_39 => ?_) (fun c_39 => absurd c_39 (by decide))
                  refine lv_iconst (v := 0) hx hb dX4_readTerm_67 (by decide) (lv_istore_n (lv' := [(2, .int 0), (4, .int v_9), (3, .int n), (0, .ref p0), (1, .int 7)]) hx hb dX4_readTerm_68 rfl hl (by decide) rfl (fun ls hl => ?_))
                  obtain ⟨v_40, ev_40⟩ : ∃ y : Int32, y = n + 1 := ⟨_, rfl⟩
                  have tv_40 := q_add ev_40 (by omega) (by omega)
                  refine lv_iinc (v := v_40) (lv' := [(3, .int v_40), (2, .int 0), (4, .int v_9), (0, .ref p0), (1, .int 7)]) hx hb dX4_readTerm_69 hl (k := 2) rfl (by rw [ev_40]; rfl) (by decide) rfl (fun ls hl => ?_)
                  refine lv_goto (tgt := 8) hx hb dX4_readTerm_72 (by decide) ?_
                  exact ih8 (fu8 - 1) (by omega) 0 v_40 o_29 o_30 o_31 _ _ _ (by omega) (by omega) (by omega) ho_33 (((hf_fz_p0.tr hf_15 (by decide)).tr hf_23 (by decide)).tr hf_34 (by decide)) (hf_34.u (by decide) (hf_23.u (by decide) (hf_15.u (by decide) fr_fz_p0_0))) (hf_34.u (by decide) (hf_23.u (by decide) (hf_15.u (by decide) fr_fz_p0_1))) (hf_34.u (by decide) (hf_23.u (by decide) (hf_15.u (by decide) fr_fz_p0_8))) ho_35 ((hf_fz_p0_draft_laws.tr hf_25 (by decide)).tr hf_36 (by decide)) (hf_36.u (by decide) (hf_25.u (by decide) fr_fz_p0_draft_laws_0)) hP28 hS28 (lv_sub hl [0, 1, 3, 4] rfl)
              · refine lv_if_eq (tgt := 67) hx hb dX4_readTerm_51 (by decide) (fun c_41 => ?_) (fun c_41 => absurd c_41 (by decide))
                refine lv_iconst (v := 0) hx hb dX4_readTerm_67 (by decide) (lv_istore_n (lv' := [(2, .int 0), (4, .int v_9), (3, .int n), (0, .ref p0), (1, .int 7)]) hx hb dX4_readTerm_68 rfl hl (by decide) rfl (fun ls hl => ?_))
                obtain ⟨v_42, ev_42⟩ : ∃ y : Int32, y = n + 1 := ⟨_, rfl⟩
                have tv_42 := q_add ev_42 (by omega) (by omega)
                refine lv_iinc (v := v_42) (lv' := [(3, .int v_42), (2, .int 0), (4, .int v_9), (0, .ref p0), (1, .int 7)]) hx hb dX4_readTerm_69 hl (k := 2) rfl (by rw [ev_42]; rfl) (by decide) rfl (fun ls hl => ?_)
                refine lv_goto (tgt := 8) hx hb dX4_readTerm_72 (by decide) ?_
                exact ih8 (fu8 - 1) (by omega) 0 v_42 o_18 o_19 o_20 _ _ _ (by omega) (by omega) (by omega) ho_22 ((hf_fz_p0.tr hf_15 (by decide)).tr hf_23 (by decide)) (hf_23.u (by decide) (hf_15.u (by decide) fr_fz_p0_0)) (hf_23.u (by decide) (hf_15.u (by decide) fr_fz_p0_1)) (hf_23.u (by decide) (hf_15.u (by decide) fr_fz_p0_8)) ho_24 (hf_fz_p0_draft_laws.tr hf_25 (by decide)) (hf_25.u (by decide) fr_fz_p0_draft_laws_0) hP17 hS17 (lv_sub hl [0, 1, 3, 4] rfl)
            · have tc_10 := q_neN c_10
              refine lv_aload_n hx hb dX4_readTerm_27 rfl (lv_at hl 2 rfl) (qg_X4_4 hx hb hts i_X4 hown hK hP4 0 rfl k_0 fv_9 dX4_readTerm_28 (lv_bipush (v := 47) hx hb dX4_readTerm_31 (by decide) ?_))
              refine lv_icmp_ne (tgt := 75) hx hb dX4_readTerm_33 (by decide) (fun c_43 => ?_) (fun c_43 => ?_)
              · have tc_43 := q_ne c_43
                refine lv_iload_n hx hb dX4_readTerm_75 rfl (lv_at hl 1 rfl) ?_
                rcases q_c2 (i := rd) (by omega) (by omega) with hb_44 | hb_44
                · exact q_zret hx hb hr hlocks (by rw [hb_44]; decide) hS4 dX4_readTerm_76 ⟨fz_p0, fz_p0_draft_laws, bz_p0_draft_laws_code, (Or.inr ⟨hb_44, by first | trivial | omega⟩), ho_fz_p0, hf_fz_p0, ho_fz_p0_draft_laws, hf_fz_p0_draft_laws, hP4, za_t_readTerm7⟩
                · exact q_zret hx hb hr hlocks (by rw [hb_44]; decide) hS4 dX4_readTerm_76 ⟨fz_p0, fz_p0_draft_laws, bz_p0_draft_laws_code, (Or.inl ⟨hb_44, by first | trivial | omega⟩), ho_fz_p0, hf_fz_p0, ho_fz_p0_draft_laws, hf_fz_p0_draft_laws, hP4, za_t_readTerm7⟩
              · have tc_43 := q_eqN c_43
                refine lv_aload_n hx hb dX4_readTerm_36 rfl (lv_at hl 2 rfl) (qg_X4_4 hx hb hts i_X4 hown hK hP4 0 rfl k_0 fv_9 dX4_readTerm_37 (lv_istore (lv' := [(4, .int v_9), (3, .int n), (2, .int rd), (0, .ref p0), (1, .int 7)]) hx hb dX4_readTerm_40 hl (by decide) rfl (fun ls hl => ?_)))
                refine lv_aload_n hx hb dX4_readTerm_42 rfl (lv_at hl 3 rfl) ?_
                refine q_cVv (As := []) (rest := []) q_exw hE hK hP4 hDa za_t_readTerm7 hS4 hA [0, 4, 5] [1, 2] (by decide +kernel) ⟨hx, hb, hml, hown, hts⟩ (t_step l dC dI H4.size p0 fz_p0 p0_text c_p0_text b_p0_text p0_words c_p0_words b_p0_words ho_fz_p0 fr_fz_p0_0 fr_fz_p0_1) rfl rfl (cwV 0 hts (p1_gV m_1 m_2 m_3 m_4 g_t_step gz_t_step) rfl rfl rfl (by decide +kernel) ⟨by decide, by decide⟩) (va_recv hK hP4 (ci := 4) (q0 := 0) rfl rfl) zm_t_step rfl hl.1 rfl (Nat.le_of_ble_eq_true rfl) dX4_readTerm_43 ⟨by decide, by decide⟩ (fun H46 lo46 hG46 hS46 => ?_)
                obtain ⟨o_47, ho_48, hf_49, hQ46⟩ := hG46
                have hP46 : va_P (dC, dI) vwCl (zW_t_readTerm7 p0 o_47 p0_draft f_p0_draft p0_draft_laws fz_p0_draft_laws p0_draft_laws_code c_p0_draft_laws_code bz_p0_draft_laws_code p0_text c_p0_text b_p0_text p0_words c_p0_words b_p0_words) H46 := hQ46
                clear hQ46 hP4 hS4
                refine lv_aload_n hx hb dX4_readTerm_46 rfl (lv_at hl 3 rfl) (lv_iload_n hx hb dX4_readTerm_47 rfl (lv_at hl 4 rfl) ?_)
                refine q_cVi (As := [.int 7]) (rest := []) q_exw hE hK hP46 hDa za_t_readTerm7 hS46 hA [0, 1, 2, 3, 4, 5] [0, 1, 2] (by decide +kernel) ⟨hx, hb, hml, hown, hts⟩ (t_readUnit7 l dC dI H46.size p0 o_47 p0_draft f_p0_draft p0_draft_laws fz_p0_draft_laws p0_draft_laws_code c_p0_draft_laws_code bz_p0_draft_laws_code p0_text c_p0_text b_p0_text p0_words c_p0_words b_p0_words ho_48 ((hf_49.u (by decide) fr_fz_p0_0)) ((hf_49.u (by decide) fr_fz_p0_1)) ((hf_49.u (by decide) fr_fz_p0_8)) ho_p0_draft fr_p0_draft_12 ho_fz_p0_draft_laws fr_fz_p0_draft_laws_0) rfl rfl (cwV 1 hts (p1_gV m_5 m_6 m_7 m_4 g_t_readUnit7 gz_t_readUnit7) rfl rfl rfl (by decide +kernel) ⟨by decide, by decide⟩) (va_recv hK hP46 (ci := 4) (q0 := 0) rfl rfl) zm_t_readUnit7 rfl hl.1 rfl (Nat.le_of_ble_eq_true rfl) dX4_readTerm_48 ⟨by decide, by decide⟩ (fun r_50 H51 lo51 hG51 hS51 => ?_)
                obtain ⟨o_52, o_53, o_54, z_55, ho_56, hf_57, ho_58, hf_59, hQ51⟩ := hG51
                have hP51 : va_P (dC, dI) vwCl (zW_t_readTerm7 p0 o_52 p0_draft f_p0_draft p0_draft_laws o_53 p0_draft_laws_code c_p0_draft_laws_code o_54 p0_text c_p0_text b_p0_text p0_words c_p0_words b_p0_words) H51 := hQ51
                clear hQ51 hP46 hS46
                rcases z_55 with ⟨rfl, z_55⟩ | ⟨rfl, z_55⟩
                · refine lv_if_eq (tgt := 67) hx hb dX4_readTerm_51 (by decide) (fun c_60 => absurd c_60 (by decide)) (fun c_60 => ?_)
                  refine lv_aload_n hx hb dX4_readTerm_54 rfl (lv_at hl 3 rfl) (lv_iload hx hb dX4_readTerm_55 (lv_at hl 0 rfl) ?_)
                  refine q_cVi (As := [.int v_9]) (rest := []) q_w0 trivial hK hP51 hDa za_t_readTerm7 hS51 hA [0, 1, 2, 3] [0] (by decide +kernel) ⟨hx, hb, hml, hown, hts⟩ (t_putToken l dC dI H51.size p0 o_52 p0_draft f_p0_draft p0_draft_laws o_53 p0_draft_laws_code c_p0_draft_laws_code o_54 v_9 ho_56 ((hf_57.u (by decide) (hf_49.u (by decide) fr_fz_p0_8))) ho_p0_draft fr_p0_draft_12 ho_58 ((hf_59.u (by decide) fr_fz_p0_draft_laws_0))) rfl rfl (cwV 1 hts (p1_gV m_8 m_9 m_10 m_4 g_t_putToken gz_t_putToken) rfl rfl rfl (by decide +kernel) ⟨by decide, by decide⟩) (va_recv hK hP51 (ci := 4) (q0 := 0) rfl rfl) zm_t_putToken rfl hl.1 rfl (Nat.le_of_ble_eq_true rfl) dX4_readTerm_57 ⟨by decide, by decide⟩ (fun r_61 H62 lo62 hG62 hS62 => ?_)
                  obtain ⟨o_63, o_64, o_65, z_66, ho_67, hf_68, ho_69, hf_70, hQ62⟩ := hG62
                  have hP62 : va_P (dC, dI) vwCl (zW_t_readTerm7 p0 o_63 p0_draft f_p0_draft p0_draft_laws o_64 p0_draft_laws_code c_p0_draft_laws_code o_65 p0_text c_p0_text b_p0_text p0_words c_p0_words b_p0_words) H62 := hQ62
                  clear hQ62 hP51 hS51
                  rcases z_66 with ⟨rfl, z_66⟩ | ⟨rfl, z_66⟩
                  · refine lv_if_eq (tgt := 67) hx hb dX4_readTerm_60 (by decide) (fun c_71 => absurd c_71 (by decide)) (fun c_71 => ?_)
                    refine lv_iconst (v := 1) hx hb dX4_readTerm_63 (by decide) (lv_goto (tgt := 68) hx hb dX4_readTerm_64 (by decide) (lv_istore_n (lv' := [(2, .int 1), (4, .int v_9), (3, .int n), (0, .ref p0), (1, .int 7)]) hx hb dX4_readTerm_68 rfl hl (by decide) rfl (fun ls hl => ?_)))
                    obtain ⟨v_72, ev_72⟩ : ∃ y : Int32, y = n + 1 := ⟨_, rfl⟩
                    have tv_72 := q_add ev_72 (by omega) (by omega)
                    refine lv_iinc (v := v_72) (lv' := [(3, .int v_72), (2, .int 1), (4, .int v_9), (0, .ref p0), (1, .int 7)]) hx hb dX4_readTerm_69 hl (k := 2) rfl (by rw [ev_72]; rfl) (by decide) rfl (fun ls hl => ?_)
                    refine lv_goto (tgt := 8) hx hb dX4_readTerm_72 (by decide) ?_
                    exact ih8 (fu8 - 1) (by omega) 1 v_72 o_63 o_64 o_65 _ _ _ (by omega) (by omega) (by omega) ho_67 (((hf_fz_p0.tr hf_49 (by decide)).tr hf_57 (by decide)).tr hf_68 (by decide)) (hf_68.u (by decide) (hf_57.u (by decide) (hf_49.u (by decide) fr_fz_p0_0))) (hf_68.u (by decide) (hf_57.u (by decide) (hf_49.u (by decide) fr_fz_p0_1))) (hf_68.u (by decide) (hf_57.u (by decide) (hf_49.u (by decide) fr_fz_p0_8))) ho_69 ((hf_fz_p0_draft_laws.tr hf_59 (by decide)).tr hf_70 (by decide)) (hf_70.u (by decide) (hf_59.u (by decide) fr_fz_p0_draft_laws_0)) hP62 hS62 (lv_sub hl [0, 1, 3, 4] rfl)
                  · refine lv_if_eq (tgt := 67) hx hb dX4_readTerm_60 (by decide) (fun c_73 => ?_) (fun c_73 => absurd c_73 (by decide))
                    refine lv_iconst (v := 0) hx hb dX4_readTerm_67 (by decide) (lv_istore_n (lv' := [(2, .int 0), (4, .int v_9), (3, .int n), (0, .ref p0), (1, .int 7)]) hx hb dX4_readTerm_68 rfl hl (by decide) rfl (fun ls hl => ?_))
                    obtain ⟨v_74, ev_74⟩ : ∃ y : Int32, y = n + 1 := ⟨_, rfl⟩
                    have tv_74 := q_add ev_74 (by omega) (by omega)
                    refine lv_iinc (v := v_74) (lv' := [(3, .int v_74), (2, .int 0), (4, .int v_9), (0, .ref p0), (1, .int 7)]) hx hb dX4_readTerm_69 hl (k := 2) rfl (by rw [ev_74]; rfl) (by decide) rfl (fun ls hl => ?_)
                    refine lv_goto (tgt := 8) hx hb dX4_readTerm_72 (by decide) ?_
                    exact ih8 (fu8 - 1) (by omega) 0 v_74 o_63 o_64 o_65 _ _ _ (by omega) (by omega) (by omega) ho_67 (((hf_fz_p0.tr hf_49 (by decide)).tr hf_57 (by decide)).tr hf_68 (by decide)) (hf_68.u (by decide) (hf_57.u (by decide) (hf_49.u (by decide) fr_fz_p0_0))) (hf_68.u (by decide) (hf_57.u (by decide) (hf_49.u (by decide) fr_fz_p0_1))) (hf_68.u (by decide) (hf_57.u (by decide) (hf_49.u (by decide) fr_fz_p0_8))) ho_69 ((hf_fz_p0_draft_laws.tr hf_59 (by decide)).tr hf_70 (by decide)) (hf_70.u (by decide) (hf_59.u (by decide) fr_fz_p0_draft_laws_0)) hP62 hS62 (lv_sub hl [0, 1, 3, 4] rfl)
                · refine lv_if_eq (tgt := 67) hx hb dX4_readTerm_51 (by decide) (fun c_75 => ?_) (fun c_75 => absurd c_75 (by decide))
                  refine lv_iconst (v := 0) hx hb dX4_readTerm_67 (by decide) (lv_istore_n (lv' := [(2, .int 0), (4, .int v_9), (3, .int n), (0, .ref p0), (1, .int 7)]) hx hb dX4_readTerm_68 rfl hl (by decide) rfl (fun ls hl => ?_))
                  obtain ⟨v_76, ev_76⟩ : ∃ y : Int32, y = n + 1 := ⟨_, rfl⟩
                  have tv_76 := q_add ev_76 (by omega) (by omega)
                  refine lv_iinc (v := v_76) (lv' := [(3, .int v_76), (2, .int 0), (4, .int v_9), (0, .ref p0), (1, .int 7)]) hx hb dX4_readTerm_69 hl (k := 2) rfl (by rw [ev_76]; rfl) (by decide) rfl (fun ls hl => ?_)
                  refine lv_goto (tgt := 8) hx hb dX4_readTerm_72 (by decide) ?_
                  exact ih8 (fu8 - 1) (by omega) 0 v_76 o_52 o_53 o_54 _ _ _ (by omega) (by omega) (by omega) ho_56 ((hf_fz_p0.tr hf_49 (by decide)).tr hf_57 (by decide)) (hf_57.u (by decide) (hf_49.u (by decide) fr_fz_p0_0)) (hf_57.u (by decide) (hf_49.u (by decide) fr_fz_p0_1)) (hf_57.u (by decide) (hf_49.u (by decide) fr_fz_p0_8)) ho_58 (hf_fz_p0_draft_laws.tr hf_59 (by decide)) (hf_59.u (by decide) fr_fz_p0_draft_laws_0) hP51 hS51 (lv_sub hl [0, 1, 3, 4] rfl)
    exact key8 60 j_1 0 fz_p0 fz_p0_draft_laws bz_p0_draft_laws_code _ _ _ (by omega) (by omega) (by omega) ho_fz_p0 hf_fz_p0 fr_fz_p0_0 fr_fz_p0_1 fr_fz_p0_8 ho_fz_p0_draft_laws hf_fz_p0_draft_laws fr_fz_p0_draft_laws_0 hP3 hS3 (lv_sub hl [0, 1, 2, 3] rfl)
  refine lv_aload_n hx hb dX4_readTerm_0 rfl (lv_at hl 0 rfl) (lv_iload_n hx hb dX4_readTerm_1 rfl (lv_at hl 1 rfl) ?_)
  refine q_cVi (As := [.int 7]) (rest := []) q_exw hE hK hP hDa za_t_readTerm7 hS hA [0, 1, 2, 3, 4, 5] [0, 1, 2] (by decide +kernel) ⟨hx, hb, hml, hown, hts⟩ (t_readUnit7 l dC dI s.heap.size p0 f_p0 p0_draft f_p0_draft p0_draft_laws f_p0_draft_laws p0_draft_laws_code c_p0_draft_laws_code b_p0_draft_laws_code p0_text c_p0_text b_p0_text p0_words c_p0_words b_p0_words ho_p0 fr_p0_0 fr_p0_1 fr_p0_8 ho_p0_draft fr_p0_draft_12 ho_p0_draft_laws fr_p0_draft_laws_0) rfl rfl (cwV 1 hts (p1_gV m_5 m_6 m_7 m_4 g_t_readUnit7 gz_t_readUnit7) rfl rfl rfl (by decide +kernel) ⟨by decide, by decide⟩) (va_recv hK hP (ci := 4) (q0 := 0) rfl rfl) zm_t_readUnit7 rfl hl.1 rfl (Nat.le_of_ble_eq_true rfl) dX4_readTerm_2 ⟨by decide, by decide⟩ (fun r_77 H78 lo78 hG78 hS78 => ?_)
  obtain ⟨o_79, o_80, o_81, z_82, ho_83, hf_84, ho_85, hf_86, hQ78⟩ := hG78
  have hP78 : va_P (dC, dI) vwCl (zW_t_readTerm7 p0 o_79 p0_draft f_p0_draft p0_draft_laws o_80 p0_draft_laws_code c_p0_draft_laws_code o_81 p0_text c_p0_text b_p0_text p0_words c_p0_words b_p0_words) H78 := hQ78
  clear hQ78 hP hS
  rcases z_82 with ⟨rfl, z_82⟩ | ⟨rfl, z_82⟩
  · exact jn_2 o_79 o_80 o_81 1 _ _ _ ho_83 (q_fr.rf.tr hf_84 (by decide)) (hf_84.u (by decide) fr_p0_0) (hf_84.u (by decide) fr_p0_1) (hf_84.u (by decide) fr_p0_8) ho_85 (q_fr.rf.tr hf_86 (by decide)) (hf_86.u (by decide) fr_p0_draft_laws_0) (by omega) hP78 hS78 (lv_sub hl [0, 1] rfl)
  · exact jn_2 o_79 o_80 o_81 0 _ _ _ ho_83 (q_fr.rf.tr hf_84 (by decide)) (hf_84.u (by decide) fr_p0_0) (hf_84.u (by decide) fr_p0_1) (hf_84.u (by decide) fr_p0_8) ho_85 (q_fr.rf.tr hf_86 (by decide)) (hf_86.u (by decide) fr_p0_draft_laws_0) (by omega) hP78 hS78 (lv_sub hl [0, 1] rfl)
def zo_t_readSum7 : List Cond := [.code yX4_readSum cX4_readSum 5 (some .boolean), .fieldLink RX4 28 "BowWalk$Reader" "token" "I", .methodLink RX4 78 yX4_step, .instanceMethod yX4_step, .selects RX4 yX4_step yX4_step, .initialized RX4, .methodLink RX4 226 yX4_readTerm, .instanceMethod yX4_readTerm, .selects RX4 yX4_readTerm yX4_readTerm, .methodLink RX4 214 yX4_putToken, .instanceMethod yX4_putToken, .selects RX4 yX4_putToken yX4_putToken]
def zw_t_readSum7 : List Cond := zo_t_readSum7 ++ (zw_t_step ++ (zw_t_readTerm7 ++ (zw_t_putToken ++ (wsX40 ++ []))))
theorem gz_t_readSum7 : zw_t_readSum7.all goodWord = true := p1_ga (by decide +kernel) (p1_ga gz_t_step (p1_ga gz_t_readTerm7 (p1_ga gz_t_putToken (p1_ga gk_X4 p1_g0))))
theorem iz_t_readSum7 : ∀ w ∈ zw_t_readSum7, w ∈ lw_tbl := p1_ia (p1_all [664, 311, 573, 575, 1, 105, 665, 667, 19, 676, 678, 21] (by decide +kernel)) (p1_ia iz_t_step (p1_ia iz_t_readTerm7 (p1_ia iz_t_putToken (p1_ia ik_X4 p1_i0))))
def zW_t_readSum7 (p0 : Nat) (f_p0 : List Value) (p0_draft : Nat) (f_p0_draft : List Value) (p0_draft_laws : Nat) (f_p0_draft_laws : List Value) (p0_draft_laws_code : Nat) (c_p0_draft_laws_code : ClassId) (b_p0_draft_laws_code : Nat → Int32) (p0_text : Nat) (c_p0_text : ClassId) (b_p0_text : Nat → Int32) (p0_words : Nat) (c_p0_words : ClassId) (b_p0_words : Nat → Int64) : va_W := [(p0, .inr (4, f_p0)), (p0_draft, .inr (5, f_p0_draft)), (p0_draft_laws, .inr (3, f_p0_draft_laws)), (p0_draft_laws_code, .inl (c_p0_draft_laws_code, 600, .inl b_p0_draft_laws_code)), (p0_text, .inl (c_p0_text, 1600, .inl b_p0_text)), (p0_words, .inl (c_p0_words, 22, .inr (.inl b_p0_words)))]
def zT_t_readSum7 (c_p0_draft_laws_code : ClassId) (c_p0_text : ClassId) (c_p0_words : ClassId) : List (ClassId × FieldType) := [(c_p0_draft_laws_code, .int), (c_p0_text, .byte), (c_p0_words, .long)]
def zA_t_readSum7 (p0 : Nat) (p0_draft : Nat) (p0_draft_laws : Nat) (p0_draft_laws_code : Nat) (p0_text : Nat) (p0_words : Nat) : List Nat := [p0, p0_draft, p0_draft_laws, p0_draft_laws_code, p0_text, p0_words]
theorem za_t_readSum7 {p0 : Nat} {f_p0 : List Value} {p0_draft : Nat} {f_p0_draft : List Value} {p0_draft_laws : Nat} {f_p0_draft_laws : List Value} {p0_draft_laws_code : Nat} {c_p0_draft_laws_code : ClassId} {b_p0_draft_laws_code : Nat → Int32} {p0_text : Nat} {c_p0_text : ClassId} {b_p0_text : Nat → Int32} {p0_words : Nat} {c_p0_words : ClassId} {b_p0_words : Nat → Int64} : (zW_t_readSum7 p0 f_p0 p0_draft f_p0_draft p0_draft_laws f_p0_draft_laws p0_draft_laws_code c_p0_draft_laws_code b_p0_draft_laws_code p0_text c_p0_text b_p0_text p0_words c_p0_words b_p0_words).map Prod.fst = (zA_t_readSum7 p0 p0_draft p0_draft_laws p0_draft_laws_code p0_text p0_words) := rfl
def zG_t_readSum7 (p0 : Nat) (f_p0 : List Value) (p0_draft : Nat) (f_p0_draft : List Value) (p0_draft_laws : Nat) (f_p0_draft_laws : List Value) (p0_draft_laws_code : Nat) (c_p0_draft_laws_code : ClassId) (b_p0_draft_laws_code : Nat → Int32) (p0_text : Nat) (c_p0_text : ClassId) (b_p0_text : Nat → Int32) (p0_words : Nat) (c_p0_words : ClassId) (b_p0_words : Nat → Int64) (r : Int32) (X : va_W → Prop) : Prop := ∃ (y_p0 : List Value) (y_p0_draft_laws : List Value) (y_p0_draft_laws_code : Nat → Int32), ((r = 1 ∧ (True)) ∨ (r = 0 ∧ (True))) ∧ OKX4 y_p0 ∧ q_fr [3, 4, 5, 6, 7, 9, 10] f_p0 y_p0 ∧ OKX3 y_p0_draft_laws ∧ q_fr [3, 5] f_p0_draft_laws y_p0_draft_laws ∧ X (zW_t_readSum7 p0 y_p0 p0_draft f_p0_draft p0_draft_laws y_p0_draft_laws p0_draft_laws_code c_p0_draft_laws_code y_p0_draft_laws_code p0_text c_p0_text b_p0_text p0_words c_p0_words b_p0_words)
theorem zm_t_readSum7 {p0 : Nat} {f_p0 : List Value} {p0_draft : Nat} {f_p0_draft : List Value} {p0_draft_laws : Nat} {f_p0_draft_laws : List Value} {p0_draft_laws_code : Nat} {c_p0_draft_laws_code : ClassId} {b_p0_draft_laws_code : Nat → Int32} {p0_text : Nat} {c_p0_text : ClassId} {b_p0_text : Nat → Int32} {p0_words : Nat} {c_p0_words : ClassId} {b_p0_words : Nat → Int64} : ∀ (r : Int32), ∀ X Y : va_W → Prop, (∀ w, X w → Y w) → zG_t_readSum7 p0 f_p0 p0_draft f_p0_draft p0_draft_laws f_p0_draft_laws p0_draft_laws_code c_p0_draft_laws_code b_p0_draft_laws_code p0_text c_p0_text b_p0_text p0_words c_p0_words b_p0_words r X → zG_t_readSum7 p0 f_p0 p0_draft f_p0_draft p0_draft_laws f_p0_draft_laws p0_draft_laws_code c_p0_draft_laws_code b_p0_draft_laws_code p0_text c_p0_text b_p0_text p0_words c_p0_words b_p0_words r Y := fun r X Y h h1 => by obtain ⟨x0, x1, x2, x3, x4, x5, x6, x7, hx⟩ := h1; exact ⟨x0, x1, x2, x3, x4, x5, x6, x7, h _ hx⟩
set_option maxHeartbeats 4000000 in
set_option maxRecDepth 100000 in
theorem t_readSum7 (l : Launch) (dC : Nat → ClassId) (dI : Nat → Nat → Nat) (sz : Nat) (p0 : Nat) (f_p0 : List Value) (p0_draft : Nat) (f_p0_draft : List Value) (p0_draft_laws : Nat) (f_p0_draft_laws : List Value) (p0_draft_laws_code : Nat) (c_p0_draft_laws_code : ClassId) (b_p0_draft_laws_code : Nat → Int32) (p0_text : Nat) (c_p0_text : ClassId) (b_p0_text : Nat → Int32) (p0_words : Nat) (c_p0_words : ClassId) (b_p0_words : Nat → Int64) (ho_p0 : OKX4 f_p0) (fr_p0_0 : q_rf f_p0 0 p0_words) (fr_p0_1 : q_rf f_p0 1 p0_text) (fr_p0_8 : q_rf f_p0 8 p0_draft) (ho_p0_draft : OKX5 f_p0_draft) (fr_p0_draft_12 : q_rf f_p0_draft 12 p0_draft_laws) (ho_p0_draft_laws : OKX3 f_p0_draft_laws) (fr_p0_draft_laws_0 : q_rf f_p0_draft_laws 0 p0_draft_laws_code) : Met l yX4_readSum zw_t_readSum7 ({ frames := 8, cells := 0, slots := 0, locals := 174 }) (va_Pc [.ref p0, .int 7] (q_pre (dC, dI) (zW_t_readSum7 p0 f_p0 p0_draft f_p0_draft p0_draft_laws f_p0_draft_laws p0_draft_laws_code c_p0_draft_laws_code b_p0_draft_laws_code p0_text c_p0_text b_p0_text p0_words c_p0_words b_p0_words) (zT_t_readSum7 c_p0_draft_laws_code c_p0_text c_p0_words) q_ex sz)) (q_Qi (dC, dI) (zG_t_readSum7 p0 f_p0 p0_draft f_p0_draft p0_draft_laws f_p0_draft_laws p0_draft_laws_code c_p0_draft_laws_code b_p0_draft_laws_code p0_text c_p0_text b_p0_text p0_words c_p0_words b_p0_words) (zA_t_readSum7 p0 p0_draft p0_draft_laws p0_draft_laws_code p0_text p0_words) (va_A (zW_t_readSum7 p0 f_p0 p0_draft f_p0_draft p0_draft_laws f_p0_draft_laws p0_draft_laws_code c_p0_draft_laws_code b_p0_draft_laws_code p0_text c_p0_text b_p0_text p0_words c_p0_words b_p0_words) sz)) 0 0 (va_A (zW_t_readSum7 p0 f_p0 p0_draft f_p0_draft p0_draft_laws f_p0_draft_laws p0_draft_laws_code c_p0_draft_laws_code b_p0_draft_laws_code p0_text c_p0_text b_p0_text p0_words c_p0_words b_p0_words) sz) := by
  refine Met.ofW (cc := cX4_readSum) (maxL := 5) (ret := (some .boolean)) (by decide) rfl ?_
  intro p e s m args below meth c s₁ B hml hv
  obtain ⟨rfl, hsz, hP, hK, hD0, hE⟩ := hv
  have hx := B.exec
  have hb := B.bytes
  have hr := B.returns
  have hts := atoms_spec (ws := zw_t_readSum7) B.pre
  have hown : s.vm.findClass RX4 = some m.cls := findClass_of_methodNamed B.named
  have hlocks := B.notSynchronized
  subst hsz
  have hD := hD0.self (sz := s.heap.size)
  generalize hAe : va_A (zW_t_readSum7 p0 f_p0 p0_draft f_p0_draft p0_draft_laws f_p0_draft_laws p0_draft_laws_code c_p0_draft_laws_code b_p0_draft_laws_code p0_text c_p0_text b_p0_text p0_words c_p0_words b_p0_words) s.heap.size = A at hD hE ⊢
  have hA : ∀ q : Nat, s.heap.size ≤ q → A q := fun q h => by rw [← hAe]; exact Or.inr h
  have hDa : q_DA A (zA_t_readSum7 p0 p0_draft p0_draft_laws p0_draft_laws_code p0_text p0_words) := q_DA.mk hD za_t_readSum7
  clear hAe hD0 hD
  have hS : va_S A s.heap s.heap [] := va_S.rf
  have m_0 : (.fieldLink RX4 28 "BowWalk$Reader" "token" "I" : Cond) ∈ zw_t_readSum7 := List.mem_append_left _ (List.mem_of_getElem? (i := 1) rfl)
  have k_0 := hts _ m_0
  have m_1 : (.methodLink RX4 78 yX4_step : Cond) ∈ zw_t_readSum7 := List.mem_append_left _ (List.mem_of_getElem? (i := 2) rfl)
  have k_1 := hts _ m_1
  have m_2 : (.instanceMethod yX4_step : Cond) ∈ zw_t_readSum7 := List.mem_append_left _ (List.mem_of_getElem? (i := 3) rfl)
  have k_2 := hts _ m_2
  have m_3 : (.selects RX4 yX4_step yX4_step : Cond) ∈ zw_t_readSum7 := List.mem_append_left _ (List.mem_of_getElem? (i := 4) rfl)
  have k_3 := hts _ m_3
  have m_4 : (.initialized RX4 : Cond) ∈ zw_t_readSum7 := List.mem_append_left _ (List.mem_of_getElem? (i := 5) rfl)
  have k_4 := hts _ m_4
  have m_5 : (.methodLink RX4 226 yX4_readTerm : Cond) ∈ zw_t_readSum7 := List.mem_append_left _ (List.mem_of_getElem? (i := 6) rfl)
  have k_5 := hts _ m_5
  have m_6 : (.instanceMethod yX4_readTerm : Cond) ∈ zw_t_readSum7 := List.mem_append_left _ (List.mem_of_getElem? (i := 7) rfl)
  have k_6 := hts _ m_6
  have m_7 : (.selects RX4 yX4_readTerm yX4_readTerm : Cond) ∈ zw_t_readSum7 := List.mem_append_left _ (List.mem_of_getElem? (i := 8) rfl)
  have k_7 := hts _ m_7
  have m_8 : (.methodLink RX4 214 yX4_putToken : Cond) ∈ zw_t_readSum7 := List.mem_append_left _ (List.mem_of_getElem? (i := 9) rfl)
  have k_8 := hts _ m_8
  have m_9 : (.instanceMethod yX4_putToken : Cond) ∈ zw_t_readSum7 := List.mem_append_left _ (List.mem_of_getElem? (i := 10) rfl)
  have k_9 := hts _ m_9
  have m_10 : (.selects RX4 yX4_putToken yX4_putToken : Cond) ∈ zw_t_readSum7 := List.mem_append_left _ (List.mem_of_getElem? (i := 11) rfl)
  have k_10 := hts _ m_10
  have g_t_step : ∀ w ∈ zw_t_step, w ∈ zw_t_readSum7 := fun w h => List.mem_append_right _ (List.mem_append_left _ h)
  have g_t_readTerm7 : ∀ w ∈ zw_t_readTerm7, w ∈ zw_t_readSum7 := fun w h => List.mem_append_right _ (List.mem_append_right _ (List.mem_append_left _ h))
  have g_t_putToken : ∀ w ∈ zw_t_putToken, w ∈ zw_t_readSum7 := fun w h => List.mem_append_right _ (List.mem_append_right _ (List.mem_append_right _ (List.mem_append_left _ h)))
  have i_X4 : ∀ w ∈ u_ws RX4 TX4 11, w ∈ zw_t_readSum7 := fun w h => List.mem_append_right _ (List.mem_append_right _ (List.mem_append_right _ (List.mem_append_right _ (List.mem_append_left _ h))))
  have lt_0 : (0 : Int32).toInt = 0 := by decide
  have lt_1 : (1 : Int32).toInt = 1 := by decide
  have lt_7 : (7 : Int32).toInt = 7 := by decide
  have lt_43 : (43 : Int32).toInt = 43 := by decide
  have lt_45 : (45 : Int32).toInt = 45 := by decide
  have lt_60 : (60 : Int32).toInt = 60 := by decide
  have hl := lv_entry ([.ref p0, .int 7]) (n := 5) (Nat.le_of_ble_eq_true rfl)
  rw [lg_entry_eq]
  generalize (lg_sl ([.ref p0, .int 7]) ++ List.replicate (5 - (lg_sl ([.ref p0, .int 7])).length) Slot.unset).toArray = ls at hl ⊢
  have hl : lv_has ls 5 [(0, .ref p0), (1, .int 7)] := hl
  have jn_2 : ∀ (fz_p0 : List Value) (fz_p0_draft_laws : List Value) (bz_p0_draft_laws_code : Nat → Int32) (j_1 : Int32) (H : Heap) (locs : List Loc) (ls : Array Slot) (ho_fz_p0 : OKX4 fz_p0) (hf_fz_p0 : q_fr [3, 4, 5, 6, 7, 9, 10] f_p0 fz_p0) (fr_fz_p0_0 : q_rf fz_p0 0 p0_words) (fr_fz_p0_1 : q_rf fz_p0 1 p0_text) (fr_fz_p0_8 : q_rf fz_p0 8 p0_draft) (ho_fz_p0_draft_laws : OKX3 fz_p0_draft_laws) (hf_fz_p0_draft_laws : q_fr [3, 5] f_p0_draft_laws fz_p0_draft_laws) (fr_fz_p0_draft_laws_0 : q_rf fz_p0_draft_laws 0 p0_draft_laws_code) (tj_1 : (0) ≤ j_1.toInt ∧ j_1.toInt ≤ 1), va_P (dC, dI) vwCl (zW_t_readSum7 p0 fz_p0 p0_draft f_p0_draft p0_draft_laws fz_p0_draft_laws p0_draft_laws_code c_p0_draft_laws_code bz_p0_draft_laws_code p0_text c_p0_text b_p0_text p0_words c_p0_words b_p0_words) H → va_S A s.heap H locs → lv_has ls 5 [(0, .ref p0), (1, .int 7)] → W p l e (headSpec zw_t_readSum7 { frames := 8, cells := 0, slots := 0, locals := 174 }).room s m ([.ref p0, .int 7] : List Value).toArray below meth c H locs 0 0 (MQ below (q_Qi (dC, dI) (zG_t_readSum7 p0 f_p0 p0_draft f_p0_draft p0_draft_laws f_p0_draft_laws p0_draft_laws_code c_p0_draft_laws_code b_p0_draft_laws_code p0_text c_p0_text b_p0_text p0_words c_p0_words b_p0_words) (zA_t_readSum7 p0 p0_draft p0_draft_laws p0_draft_laws_code p0_text p0_words) A) ([.ref p0, .int 7] : List Value).toArray s 0 0 A) (F0 m 5 ls [.int j_1]) := by
    intro fz_p0 fz_p0_draft_laws bz_p0_draft_laws_code j_1 H3 lo3 ls ho_fz_p0 hf_fz_p0 fr_fz_p0_0 fr_fz_p0_1 fr_fz_p0_8 ho_fz_p0_draft_laws hf_fz_p0_draft_laws fr_fz_p0_draft_laws_0 tj_1 hP3 hS3 hl
    refine lv_istore_n (lv' := [(2, .int j_1), (0, .ref p0), (1, .int 7)]) hx hb dX4_readSum_5 rfl hl (by decide) rfl (fun ls hl => ?_)
    refine lv_iconst (v := 0) hx hb dX4_readSum_6 (by decide) (lv_istore_n (lv' := [(3, .int 0), (2, .int j_1), (0, .ref p0), (1, .int 7)]) hx hb dX4_readSum_7 rfl hl (by decide) rfl (fun ls hl => ?_))
    have key8 : ∀ (fu8 : Nat) (rd : Int32) (n : Int32) (fz_p0 : List Value) (fz_p0_draft_laws : List Value) (bz_p0_draft_laws_code : Nat → Int32) (H : Heap) (locs : List Loc) (ls : Array Slot) (hfu8 : 60 - n.toInt ≤ (fu8 : Int)) (trd : (0) ≤ rd.toInt ∧ rd.toInt ≤ 1) (tn : (0) ≤ n.toInt ∧ n.toInt ≤ 60) (ho_fz_p0 : OKX4 fz_p0) (hf_fz_p0 : q_fr [3, 4, 5, 6, 7, 9, 10] f_p0 fz_p0) (fr_fz_p0_0 : q_rf fz_p0 0 p0_words) (fr_fz_p0_1 : q_rf fz_p0 1 p0_text) (fr_fz_p0_8 : q_rf fz_p0 8 p0_draft) (ho_fz_p0_draft_laws : OKX3 fz_p0_draft_laws) (hf_fz_p0_draft_laws : q_fr [3, 5] f_p0_draft_laws fz_p0_draft_laws) (fr_fz_p0_draft_laws_0 : q_rf fz_p0_draft_laws 0 p0_draft_laws_code), va_P (dC, dI) vwCl (zW_t_readSum7 p0 fz_p0 p0_draft f_p0_draft p0_draft_laws fz_p0_draft_laws p0_draft_laws_code c_p0_draft_laws_code bz_p0_draft_laws_code p0_text c_p0_text b_p0_text p0_words c_p0_words b_p0_words) H → va_S A s.heap H locs → lv_has ls 5 [(3, .int n), (2, .int rd), (0, .ref p0), (1, .int 7)] → W p l e (headSpec zw_t_readSum7 { frames := 8, cells := 0, slots := 0, locals := 174 }).room s m ([.ref p0, .int 7] : List Value).toArray below meth c H locs 0 0 (MQ below (q_Qi (dC, dI) (zG_t_readSum7 p0 f_p0 p0_draft f_p0_draft p0_draft_laws f_p0_draft_laws p0_draft_laws_code c_p0_draft_laws_code b_p0_draft_laws_code p0_text c_p0_text b_p0_text p0_words c_p0_words b_p0_words) (zA_t_readSum7 p0 p0_draft p0_draft_laws p0_draft_laws_code p0_text p0_words) A) ([.ref p0, .int 7] : List Value).toArray s 0 0 A) (F0 m 8 ls []) := by
      intro fu8
      induction fu8 using Nat.strongRecOn with
      | ind fu8 ih8 =>
        intro rd n fz_p0 fz_p0_draft_laws bz_p0_draft_laws_code H4 lo4 ls hfu8 trd tn ho_fz_p0 hf_fz_p0 fr_fz_p0_0 fr_fz_p0_1 fr_fz_p0_8 ho_fz_p0_draft_laws hf_fz_p0_draft_laws fr_fz_p0_draft_laws_0 hP4 hS4 hl
        refine lv_iload_n hx hb dX4_readSum_8 rfl (lv_at hl 0 rfl) (lv_bipush (v := 60) hx hb dX4_readSum_9 (by decide) ?_)
        refine lv_icmp_ge (tgt := 75) hx hb dX4_readSum_11 (by decide) (fun c_5 => ?_) (fun c_5 => ?_)
        · have tc_5 := q_ge c_5
          refine lv_iload_n hx hb dX4_readSum_75 rfl (lv_at hl 1 rfl) ?_
          rcases q_c2 (i := rd) (by omega) (by omega) with hb_6 | hb_6
          · exact q_zret hx hb hr hlocks (by rw [hb_6]; decide) hS4 dX4_readSum_76 ⟨fz_p0, fz_p0_draft_laws, bz_p0_draft_laws_code, (Or.inr ⟨hb_6, by first | trivial | omega⟩), ho_fz_p0, hf_fz_p0, ho_fz_p0_draft_laws, hf_fz_p0_draft_laws, hP4, za_t_readSum7⟩
          · exact q_zret hx hb hr hlocks (by rw [hb_6]; decide) hS4 dX4_readSum_76 ⟨fz_p0, fz_p0_draft_laws, bz_p0_draft_laws_code, (Or.inl ⟨hb_6, by first | trivial | omega⟩), ho_fz_p0, hf_fz_p0, ho_fz_p0_draft_laws, hf_fz_p0_draft_laws, hP4, za_t_readSum7⟩
        · have tc_5 := q_ltN c_5
          refine lv_iload_n hx hb dX4_readSum_14 rfl (lv_at hl 1 rfl) ?_
          refine lv_if_eq (tgt := 75) hx hb dX4_readSum_15 (by decide) (fun c_7 => ?_) (fun c_7 => ?_)
          · have tc_7 := q_eq c_7
            refine lv_iload_n hx hb dX4_readSum_75 rfl (lv_at hl 1 rfl) ?_
            rcases q_c2 (i := rd) (by omega) (by omega) with hb_8 | hb_8
            · exact q_zret hx hb hr hlocks (by rw [hb_8]; decide) hS4 dX4_readSum_76 ⟨fz_p0, fz_p0_draft_laws, bz_p0_draft_laws_code, (Or.inr ⟨hb_8, by first | trivial | omega⟩), ho_fz_p0, hf_fz_p0, ho_fz_p0_draft_laws, hf_fz_p0_draft_laws, hP4, za_t_readSum7⟩
            · exact q_zret hx hb hr hlocks (by rw [hb_8]; decide) hS4 dX4_readSum_76 ⟨fz_p0, fz_p0_draft_laws, bz_p0_draft_laws_code, (Or.inl ⟨hb_8, by first | trivial | omega⟩), ho_fz_p0, hf_fz_p0, ho_fz_p0_draft_laws, hf_fz_p0_draft_laws, hP4, za_t_readSum7⟩
          · have tc_7 := q_neN c_7
            refine lv_aload_n hx hb dX4_readSum_18 rfl (lv_at hl 2 rfl) ?_
            obtain ⟨v_9, fv_9⟩ := OKX4_g4 ho_fz_p0
            refine qg_X4_4 hx hb hts i_X4 hown hK hP4 0 rfl k_0 fv_9 dX4_readSum_19 (lv_bipush (v := 43) hx hb dX4_readSum_22 (by decide) ?_)
            refine lv_icmp_eq (tgt := 36) hx hb dX4_readSum_24 (by decide) (fun c_10 => ?_) (fun c_10 => ?_)
            · have tc_10 := q_eq c_10
              refine lv_aload_n hx hb dX4_readSum_36 rfl (lv_at hl 2 rfl) (qg_X4_4 hx hb hts i_X4 hown hK hP4 0 rfl k_0 fv_9 dX4_readSum_37 (lv_istore (lv' := [(4, .int v_9), (3, .int n), (2, .int rd), (0, .ref p0), (1, .int 7)]) hx hb dX4_readSum_40 hl (by decide) rfl (fun ls hl => ?_)))
              refine lv_aload_n hx hb dX4_readSum_42 rfl (lv_at hl 3 rfl) ?_
              refine q_cVv (As := []) (rest := []) q_exw hE hK hP4 hDa za_t_readSum7 hS4 hA [0, 4, 5] [1, 2] (by decide +kernel) ⟨hx, hb, hml, hown, hts⟩ (t_step l dC dI H4.size p0 fz_p0 p0_text c_p0_text b_p0_text p0_words c_p0_words b_p0_words ho_fz_p0 fr_fz_p0_0 fr_fz_p0_1) rfl rfl (cwV 0 hts (p1_gV m_1 m_2 m_3 m_4 g_t_step gz_t_step) rfl rfl rfl (by decide +kernel) ⟨by decide, by decide⟩) (va_recv hK hP4 (ci := 4) (q0 := 0) rfl rfl) zm_t_step rfl hl.1 rfl (Nat.le_of_ble_eq_true rfl) dX4_readSum_43 ⟨by decide, by decide⟩ (fun H12 lo12 hG12 hS12 => ?_)
              obtain ⟨o_13, ho_14, hf_15, hQ12⟩ := hG12
              have hP12 : va_P (dC, dI) vwCl (zW_t_readSum7 p0 o_13 p0_draft f_p0_draft p0_draft_laws fz_p0_draft_laws p0_draft_laws_code c_p0_draft_laws_code bz_p0_draft_laws_code p0_text c_p0_text b_p0_text p0_words c_p0_words b_p0_words) H12 := hQ12
              clear hQ12 hP4 hS4
              refine lv_aload_n hx hb dX4_readSum_46 rfl (lv_at hl 3 rfl) (lv_iload_n hx hb dX4_readSum_47 rfl (lv_at hl 4 rfl) ?_)
              refine q_cVi (As := [.int 7]) (rest := []) q_exw hE hK hP12 hDa za_t_readSum7 hS12 hA [0, 1, 2, 3, 4, 5] [0, 1, 2] (by decide +kernel) ⟨hx, hb, hml, hown, hts⟩ (t_readTerm7 l dC dI H12.size p0 o_13 p0_draft f_p0_draft p0_draft_laws fz_p0_draft_laws p0_draft_laws_code c_p0_draft_laws_code bz_p0_draft_laws_code p0_text c_p0_text b_p0_text p0_words c_p0_words b_p0_words ho_14 ((hf_15.u (by decide) fr_fz_p0_0)) ((hf_15.u (by decide) fr_fz_p0_1)) ((hf_15.u (by decide) fr_fz_p0_8)) ho_p0_draft fr_p0_draft_12 ho_fz_p0_draft_laws fr_fz_p0_draft_laws_0) rfl rfl (cwV 1 hts (p1_gV m_5 m_6 m_7 m_4 g_t_readTerm7 gz_t_readTerm7) rfl rfl rfl (by decide +kernel) ⟨by decide, by decide⟩) (va_recv hK hP12 (ci := 4) (q0 := 0) rfl rfl) zm_t_readTerm7 rfl hl.1 rfl (Nat.le_of_ble_eq_true rfl) dX4_readSum_48 ⟨by decide, by decide⟩ (fun r_16 H17 lo17 hG17 hS17 => ?_)
              obtain ⟨o_18, o_19, o_20, z_21, ho_22, hf_23, ho_24, hf_25, hQ17⟩ := hG17
              have hP17 : va_P (dC, dI) vwCl (zW_t_readSum7 p0 o_18 p0_draft f_p0_draft p0_draft_laws o_19 p0_draft_laws_code c_p0_draft_laws_code o_20 p0_text c_p0_text b_p0_text p0_words c_p0_words b_p0_words) H17 := hQ17
              clear hQ17 hP12 hS12
              rcases z_21 with ⟨rfl, z_21⟩ | ⟨rfl, z_21⟩
              · refine lv_if_eq (tgt := 67) hx hb dX4_readSum_51 (by decide) (fun c_26 => absurd c_26 (by decide)) (fun c_26 => ?_)
                refine lv_aload_n hx hb dX4_readSum_54 rfl (lv_at hl 3 rfl) (lv_iload hx hb dX4_readSum_55 (lv_at hl 0 rfl) ?_)
                refine q_cVi (As := [.int v_9]) (rest := []) q_w0 trivial hK hP17 hDa za_t_readSum7 hS17 hA [0, 1, 2, 3] [0] (by decide +kernel) ⟨hx, hb, hml, hown, hts⟩ (t_putToken l dC dI H17.size p0 o_18 p0_draft f_p0_draft p0_draft_laws o_19 p0_draft_laws_code c_p0_draft_laws_code o_20 v_9 ho_22 ((hf_23.u (by decide) (hf_15.u (by decide) fr_fz_p0_8))) ho_p0_draft fr_p0_draft_12 ho_24 ((hf_25.u (by decide) fr_fz_p0_draft_laws_0))) rfl rfl (cwV 1 hts (p1_gV m_8 m_9 m_10 m_4 g_t_putToken gz_t_putToken) rfl rfl rfl (by decide +kernel) ⟨by decide, by decide⟩) (va_recv hK hP17 (ci := 4) (q0 := 0) rfl rfl) zm_t_putToken rfl hl.1 rfl (Nat.le_of_ble_eq_true rfl) dX4_readSum_57 ⟨by decide, by decide⟩ (fun r_27 H28 lo28 hG28 hS28 => ?_)
                obtain ⟨o_29, o_30, o_31, z_32, ho_33, hf_34, ho_35, hf_36, hQ28⟩ := hG28
                have hP28 : va_P (dC, dI) vwCl (zW_t_readSum7 p0 o_29 p0_draft f_p0_draft p0_draft_laws o_30 p0_draft_laws_code c_p0_draft_laws_code o_31 p0_text c_p0_text b_p0_text p0_words c_p0_words b_p0_words) H28 := hQ28
                clear hQ28 hP17 hS17
                rcases z_32 with ⟨rfl, z_32⟩ | ⟨rfl, z_32⟩
                · refine lv_if_eq (tgt := 67) hx hb dX4_readSum_60 (by decide) (fun c_37 => absurd c_37 (by decide)) (fun c_37 => ?_)
                  refine lv_iconst (v := 1) hx hb dX4_readSum_63 (by decide) (lv_goto (tgt := 68) hx hb dX4_readSum_64 (by decide) (lv_istore_n (lv' := [(2, .int 1), (4, .int v_9), (3, .int n), (0, .ref p0), (1, .int 7)]) hx hb dX4_readSum_68 rfl hl (by decide) rfl (fun ls hl => ?_)))
                  obtain ⟨v_38, ev_38⟩ : ∃ y : Int32, y = n + 1 := ⟨_, rfl⟩
                  have tv_38 := q_add ev_38 (by omega) (by omega)
                  refine lv_iinc (v := v_38) (lv' := [(3, .int v_38), (2, .int 1), (4, .int v_9), (0, .ref p0), (1, .int 7)]) hx hb dX4_readSum_69 hl (k := 2) rfl (by rw [ev_38]; rfl) (by decide) rfl (fun ls hl => ?_)
                  refine lv_goto (tgt := 8) hx hb dX4_readSum_72 (by decide) ?_
                  exact ih8 (fu8 - 1) (by omega) 1 v_38 o_29 o_30 o_31 _ _ _ (by omega) (by omega) (by omega) ho_33 (((hf_fz_p0.tr hf_15 (by decide)).tr hf_23 (by decide)).tr hf_34 (by decide)) (hf_34.u (by decide) (hf_23.u (by decide) (hf_15.u (by decide) fr_fz_p0_0))) (hf_34.u (by decide) (hf_23.u (by decide) (hf_15.u (by decide) fr_fz_p0_1))) (hf_34.u (by decide) (hf_23.u (by decide) (hf_15.u (by decide) fr_fz_p0_8))) ho_35 ((hf_fz_p0_draft_laws.tr hf_25 (by decide)).tr hf_36 (by decide)) (hf_36.u (by decide) (hf_25.u (by decide) fr_fz_p0_draft_laws_0)) hP28 hS28 (lv_sub hl [0, 1, 3, 4] rfl)
                · refine lv_if_eq (tgt := 67) hx hb dX4_readSum_60 (by decide) (fun c_39 => ?_) (fun c_39 => absurd c_39 (by decide))
                  refine lv_iconst (v := 0) hx hb dX4_readSum_67 (by decide) (lv_istore_n (lv' := [(2, .int 0), (4, .int v_9), (3, .int n), (0, .ref p0), (1, .int 7)]) hx hb dX4_readSum_68 rfl hl (by decide) rfl (fun ls hl => ?_))
                  obtain ⟨v_40, ev_40⟩ : ∃ y : Int32, y = n + 1 := ⟨_, rfl⟩
                  have tv_40 := q_add ev_40 (by omega) (by omega)
                  refine lv_iinc (v := v_40) (lv' := [(3, .int v_40), (2, .int 0), (4, .int v_9), (0, .ref p0), (1, .int 7)]) hx hb dX4_readSum_69 hl (k := 2) rfl (by rw [ev_40]; rfl) (by decide) rfl (fun ls hl => ?_)
                  refine lv_goto (tgt := 8) hx hb dX4_readSum_72 (by decide) ?_
                  exact ih8 (fu8 - 1) (by omega) 0 v_40 o_29 o_30 o_31 _ _ _ (by omega) (by omega) (by omega) ho_33 (((hf_fz_p0.tr hf_15 (by decide)).tr hf_23 (by decide)).tr hf_34 (by decide)) (hf_34.u (by decide) (hf_23.u (by decide) (hf_15.u (by decide) fr_fz_p0_0))) (hf_34.u (by decide) (hf_23.u (by decide) (hf_15.u (by decide) fr_fz_p0_1))) (hf_34.u (by decide) (hf_23.u (by decide) (hf_15.u (by decide) fr_fz_p0_8))) ho_35 ((hf_fz_p0_draft_laws.tr hf_25 (by decide)).tr hf_36 (by decide)) (hf_36.u (by decide) (hf_25.u (by decide) fr_fz_p0_draft_laws_0)) hP28 hS28 (lv_sub hl [0, 1, 3, 4] rfl)
              · refine lv_if_eq (tgt := 67) hx hb dX4_readSum_51 (by decide) (fun c_41 => ?_) (fun c_41 => absurd c_41 (by decide))
                refine lv_iconst (v := 0) hx hb dX4_readSum_67 (by decide) (lv_istore_n (lv' := [(2, .int 0), (4, .int v_9), (3, .int n), (0, .ref p0), (1, .int 7)]) hx hb dX4_readSum_68 rfl hl (by decide) rfl (fun ls hl => ?_))
                obtain ⟨v_42, ev_42⟩ : ∃ y : Int32, y = n + 1 := ⟨_, rfl⟩
                have tv_42 := q_add ev_42 (by omega) (by omega)
                refine lv_iinc (v := v_42) (lv' := [(3, .int v_42), (2, .int 0), (4, .int v_9), (0, .ref p0), (1, .int 7)]) hx hb dX4_readSum_69 hl (k := 2) rfl (by rw [ev_42]; rfl) (by decide) rfl (fun ls hl => ?_)
                refine lv_goto (tgt := 8) hx hb dX4_readSum_72 (by decide) ?_
                exact ih8 (fu8 - 1) (by omega) 0 v_42 o_18 o_19 o_20 _ _ _ (by omega) (by omega) (by omega) ho_22 ((hf_fz_p0.tr hf_15 (by decide)).tr hf_23 (by decide)) (hf_23.u (by decide) (hf_15.u (by decide) fr_fz_p0_0)) (hf_23.u (by decide) (hf_15.u (by decide) fr_fz_p0_1)) (hf_23.u (by decide) (hf_15.u (by decide) fr_fz_p0_8)) ho_24 (hf_fz_p0_draft_laws.tr hf_25 (by decide)) (hf_25.u (by decide) fr_fz_p0_draft_laws_0) hP17 hS17 (lv_sub hl [0, 1, 3, 4] rfl)
            · have tc_10 := q_neN c_10
              refine lv_aload_n hx hb dX4_readSum_27 rfl (lv_at hl 2 rfl) (qg_X4_4 hx hb hts i_X4 hown hK hP4 0 rfl k_0 fv_9 dX4_readSum_28 (lv_bipush (v := 45) hx hb dX4_readSum_31 (by decide) ?_))
              refine lv_icmp_ne (tgt := 75) hx hb dX4_readSum_33 (by decide) (fun c_43 => ?_) (fun c_43 => ?_)
              · have tc_43 := q_ne c_43
                refine lv_iload_n hx hb dX4_readSum_75 rfl (lv_at hl 1 rfl) ?_
                rcases q_c2 (i := rd) (by omega) (by omega) with hb_44 | hb_44
                · exact q_zret hx hb hr hlocks (by rw [hb_44]; decide) hS4 dX4_readSum_76 ⟨fz_p0, fz_p0_draft_laws, bz_p0_draft_laws_code, (Or.inr ⟨hb_44, by first | trivial | omega⟩), ho_fz_p0, hf_fz_p0, ho_fz_p0_draft_laws, hf_fz_p0_draft_laws, hP4, za_t_readSum7⟩
                · exact q_zret hx hb hr hlocks (by rw [hb_44]; decide) hS4 dX4_readSum_76 ⟨fz_p0, fz_p0_draft_laws, bz_p0_draft_laws_code, (Or.inl ⟨hb_44, by first | trivial | omega⟩), ho_fz_p0, hf_fz_p0, ho_fz_p0_draft_laws, hf_fz_p0_draft_laws, hP4, za_t_readSum7⟩
              · have tc_43 := q_eqN c_43
                refine lv_aload_n hx hb dX4_readSum_36 rfl (lv_at hl 2 rfl) (qg_X4_4 hx hb hts i_X4 hown hK hP4 0 rfl k_0 fv_9 dX4_readSum_37 (lv_istore (lv' := [(4, .int v_9), (3, .int n), (2, .int rd), (0, .ref p0), (1, .int 7)]) hx hb dX4_readSum_40 hl (by decide) rfl (fun ls hl => ?_)))
                refine lv_aload_n hx hb dX4_readSum_42 rfl (lv_at hl 3 rfl) ?_
                refine q_cVv (As := []) (rest := []) q_exw hE hK hP4 hDa za_t_readSum7 hS4 hA [0, 4, 5] [1, 2] (by decide +kernel) ⟨hx, hb, hml, hown, hts⟩ (t_step l dC dI H4.size p0 fz_p0 p0_text c_p0_text b_p0_text p0_words c_p0_words b_p0_words ho_fz_p0 fr_fz_p0_0 fr_fz_p0_1) rfl rfl (cwV 0 hts (p1_gV m_1 m_2 m_3 m_4 g_t_step gz_t_step) rfl rfl rfl (by decide +kernel) ⟨by decide, by decide⟩) (va_recv hK hP4 (ci := 4) (q0 := 0) rfl rfl) zm_t_step rfl hl.1 rfl (Nat.le_of_ble_eq_true rfl) dX4_readSum_43 ⟨by decide, by decide⟩ (fun H46 lo46 hG46 hS46 => ?_)
                obtain ⟨o_47, ho_48, hf_49, hQ46⟩ := hG46
                have hP46 : va_P (dC, dI) vwCl (zW_t_readSum7 p0 o_47 p0_draft f_p0_draft p0_draft_laws fz_p0_draft_laws p0_draft_laws_code c_p0_draft_laws_code bz_p0_draft_laws_code p0_text c_p0_text b_p0_text p0_words c_p0_words b_p0_words) H46 := hQ46
                clear hQ46 hP4 hS4
                refine lv_aload_n hx hb dX4_readSum_46 rfl (lv_at hl 3 rfl) (lv_iload_n hx hb dX4_readSum_47 rfl (lv_at hl 4 rfl) ?_)
                refine q_cVi (As := [.int 7]) (rest := []) q_exw hE hK hP46 hDa za_t_readSum7 hS46 hA [0, 1, 2, 3, 4, 5] [0, 1, 2] (by decide +kernel) ⟨hx, hb, hml, hown, hts⟩ (t_readTerm7 l dC dI H46.size p0 o_47 p0_draft f_p0_draft p0_draft_laws fz_p0_draft_laws p0_draft_laws_code c_p0_draft_laws_code bz_p0_draft_laws_code p0_text c_p0_text b_p0_text p0_words c_p0_words b_p0_words ho_48 ((hf_49.u (by decide) fr_fz_p0_0)) ((hf_49.u (by decide) fr_fz_p0_1)) ((hf_49.u (by decide) fr_fz_p0_8)) ho_p0_draft fr_p0_draft_12 ho_fz_p0_draft_laws fr_fz_p0_draft_laws_0) rfl rfl (cwV 1 hts (p1_gV m_5 m_6 m_7 m_4 g_t_readTerm7 gz_t_readTerm7) rfl rfl rfl (by decide +kernel) ⟨by decide, by decide⟩) (va_recv hK hP46 (ci := 4) (q0 := 0) rfl rfl) zm_t_readTerm7 rfl hl.1 rfl (Nat.le_of_ble_eq_true rfl) dX4_readSum_48 ⟨by decide, by decide⟩ (fun r_50 H51 lo51 hG51 hS51 => ?_)
                obtain ⟨o_52, o_53, o_54, z_55, ho_56, hf_57, ho_58, hf_59, hQ51⟩ := hG51
                have hP51 : va_P (dC, dI) vwCl (zW_t_readSum7 p0 o_52 p0_draft f_p0_draft p0_draft_laws o_53 p0_draft_laws_code c_p0_draft_laws_code o_54 p0_text c_p0_text b_p0_text p0_words c_p0_words b_p0_words) H51 := hQ51
                clear hQ51 hP46 hS46
                rcases z_55 with ⟨rfl, z_55⟩ | ⟨rfl, z_55⟩
                · refine lv_if_eq (tgt := 67) hx hb dX4_readSum_51 (by decide) (fun c_60 => absurd c_60 (by decide)) (fun c_60 => ?_)
                  refine lv_aload_n hx hb dX4_readSum_54 rfl (lv_at hl 3 rfl) (lv_iload hx hb dX4_readSum_55 (lv_at hl 0 rfl) ?_)
                  refine q_cVi (As := [.int v_9]) (rest := []) q_w0 trivial hK hP51 hDa za_t_readSum7 hS51 hA [0, 1, 2, 3] [0] (by decide +kernel) ⟨hx, hb, hml, hown, hts⟩ (t_putToken l dC dI H51.size p0 o_52 p0_draft f_p0_draft p0_draft_laws o_53 p0_draft_laws_code c_p0_draft_laws_code o_54 v_9 ho_56 ((hf_57.u (by decide) (hf_49.u (by decide) fr_fz_p0_8))) ho_p0_draft fr_p0_draft_12 ho_58 ((hf_59.u (by decide) fr_fz_p0_draft_laws_0))) rfl rfl (cwV 1 hts (p1_gV m_8 m_9 m_10 m_4 g_t_putToken gz_t_putToken) rfl rfl rfl (by decide +kernel) ⟨by decide, by decide⟩) (va_recv hK hP51 (ci := 4) (q0 := 0) rfl rfl) zm_t_putToken rfl hl.1 rfl (Nat.le_of_ble_eq_true rfl) dX4_readSum_57 ⟨by decide, by decide⟩ (fun r_61 H62 lo62 hG62 hS62 => ?_)
                  obtain ⟨o_63, o_64, o_65, z_66, ho_67, hf_68, ho_69, hf_70, hQ62⟩ := hG62
                  have hP62 : va_P (dC, dI) vwCl (zW_t_readSum7 p0 o_63 p0_draft f_p0_draft p0_draft_laws o_64 p0_draft_laws_code c_p0_draft_laws_code o_65 p0_text c_p0_text b_p0_text p0_words c_p0_words b_p0_words) H62 := hQ62
                  clear hQ62 hP51 hS51
                  rcases z_66 with ⟨rfl, z_66⟩ | ⟨rfl, z_66⟩
                  · refine lv_if_eq (tgt := 67) hx hb dX4_readSum_60 (by decide) (fun c_71 => absurd c_71 (by decide)) (fun c_71 => ?_)
                    refine lv_iconst (v := 1) hx hb dX4_readSum_63 (by decide) (lv_goto (tgt := 68) hx hb dX4_readSum_64 (by decide) (lv_istore_n (lv' := [(2, .int 1), (4, .int v_9), (3, .int n), (0, .ref p0), (1, .int 7)]) hx hb dX4_readSum_68 rfl hl (by decide) rfl (fun ls hl => ?_)))
                    obtain ⟨v_72, ev_72⟩ : ∃ y : Int32, y = n + 1 := ⟨_, rfl⟩
                    have tv_72 := q_add ev_72 (by omega) (by omega)
                    refine lv_iinc (v := v_72) (lv' := [(3, .int v_72), (2, .int 1), (4, .int v_9), (0, .ref p0), (1, .int 7)]) hx hb dX4_readSum_69 hl (k := 2) rfl (by rw [ev_72]; rfl) (by decide) rfl (fun ls hl => ?_)
                    refine lv_goto (tgt := 8) hx hb dX4_readSum_72 (by decide) ?_
                    exact ih8 (fu8 - 1) (by omega) 1 v_72 o_63 o_64 o_65 _ _ _ (by omega) (by omega) (by omega) ho_67 (((hf_fz_p0.tr hf_49 (by decide)).tr hf_57 (by decide)).tr hf_68 (by decide)) (hf_68.u (by decide) (hf_57.u (by decide) (hf_49.u (by decide) fr_fz_p0_0))) (hf_68.u (by decide) (hf_57.u (by decide) (hf_49.u (by decide) fr_fz_p0_1))) (hf_68.u (by decide) (hf_57.u (by decide) (hf_49.u (by decide) fr_fz_p0_8))) ho_69 ((hf_fz_p0_draft_laws.tr hf_59 (by decide)).tr hf_70 (by decide)) (hf_70.u (by decide) (hf_59.u (by decide) fr_fz_p0_draft_laws_0)) hP62 hS62 (lv_sub hl [0, 1, 3, 4] rfl)
                  · refine lv_if_eq (tgt := 67) hx hb dX4_readSum_60 (by decide) (fun c_73 => ?_) (fun c_73 => absurd c_73 (by decide))
                    refine lv_iconst (v := 0) hx hb dX4_readSum_67 (by decide) (lv_istore_n (lv' := [(2, .int 0), (4, .int v_9), (3, .int n), (0, .ref p0), (1, .int 7)]) hx hb dX4_readSum_68 rfl hl (by decide) rfl (fun ls hl => ?_))
                    obtain ⟨v_74, ev_74⟩ : ∃ y : Int32, y = n + 1 := ⟨_, rfl⟩
                    have tv_74 := q_add ev_74 (by omega) (by omega)
                    refine lv_iinc (v := v_74) (lv' := [(3, .int v_74), (2, .int 0), (4, .int v_9), (0, .ref p0), (1, .int 7)]) hx hb dX4_readSum_69 hl (k := 2) rfl (by rw [ev_74]; rfl) (by decide) rfl (fun ls hl => ?_)
                    refine lv_goto (tgt := 8) hx hb dX4_readSum_72 (by decide) ?_
                    exact ih8 (fu8 - 1) (by omega) 0 v_74 o_63 o_64 o_65 _ _ _ (by omega) (by omega) (by omega) ho_67 (((hf_fz_p0.tr hf_49 (by decide)).tr hf_57 (by decide)).tr hf_68 (by decide)) (hf_68.u (by decide) (hf_57.u (by decide) (hf_49.u (by decide) fr_fz_p0_0))) (hf_68.u (by decide) (hf_57.u (by decide) (hf_49.u (by decide) fr_fz_p0_1))) (hf_68.u (by decide) (hf_57.u (by decide) (hf_49.u (by decide) fr_fz_p0_8))) ho_69 ((hf_fz_p0_draft_laws.tr hf_59 (by decide)).tr hf_70 (by decide)) (hf_70.u (by decide) (hf_59.u (by decide) fr_fz_p0_draft_laws_0)) hP62 hS62 (lv_sub hl [0, 1, 3, 4] rfl)
                · refine lv_if_eq (tgt := 67) hx hb dX4_readSum_51 (by decide) (fun c_75 => ?_) (fun c_75 => absurd c_75 (by decide))
                  refine lv_iconst (v := 0) hx hb dX4_readSum_67 (by decide) (lv_istore_n (lv' := [(2, .int 0), (4, .int v_9), (3, .int n), (0, .ref p0), (1, .int 7)]) hx hb dX4_readSum_68 rfl hl (by decide) rfl (fun ls hl => ?_))
                  obtain ⟨v_76, ev_76⟩ : ∃ y : Int32, y = n + 1 := ⟨_, rfl⟩
                  have tv_76 := q_add ev_76 (by omega) (by omega)
                  refine lv_iinc (v := v_76) (lv' := [(3, .int v_76), (2, .int 0), (4, .int v_9), (0, .ref p0), (1, .int 7)]) hx hb dX4_readSum_69 hl (k := 2) rfl (by rw [ev_76]; rfl) (by decide) rfl (fun ls hl => ?_)
                  refine lv_goto (tgt := 8) hx hb dX4_readSum_72 (by decide) ?_
                  exact ih8 (fu8 - 1) (by omega) 0 v_76 o_52 o_53 o_54 _ _ _ (by omega) (by omega) (by omega) ho_56 ((hf_fz_p0.tr hf_49 (by decide)).tr hf_57 (by decide)) (hf_57.u (by decide) (hf_49.u (by decide) fr_fz_p0_0)) (hf_57.u (by decide) (hf_49.u (by decide) fr_fz_p0_1)) (hf_57.u (by decide) (hf_49.u (by decide) fr_fz_p0_8)) ho_58 (hf_fz_p0_draft_laws.tr hf_59 (by decide)) (hf_59.u (by decide) fr_fz_p0_draft_laws_0) hP51 hS51 (lv_sub hl [0, 1, 3, 4] rfl)
    exact key8 60 j_1 0 fz_p0 fz_p0_draft_laws bz_p0_draft_laws_code _ _ _ (by omega) (by omega) (by omega) ho_fz_p0 hf_fz_p0 fr_fz_p0_0 fr_fz_p0_1 fr_fz_p0_8 ho_fz_p0_draft_laws hf_fz_p0_draft_laws fr_fz_p0_draft_laws_0 hP3 hS3 (lv_sub hl [0, 1, 2, 3] rfl)
  refine lv_aload_n hx hb dX4_readSum_0 rfl (lv_at hl 0 rfl) (lv_iload_n hx hb dX4_readSum_1 rfl (lv_at hl 1 rfl) ?_)
  refine q_cVi (As := [.int 7]) (rest := []) q_exw hE hK hP hDa za_t_readSum7 hS hA [0, 1, 2, 3, 4, 5] [0, 1, 2] (by decide +kernel) ⟨hx, hb, hml, hown, hts⟩ (t_readTerm7 l dC dI s.heap.size p0 f_p0 p0_draft f_p0_draft p0_draft_laws f_p0_draft_laws p0_draft_laws_code c_p0_draft_laws_code b_p0_draft_laws_code p0_text c_p0_text b_p0_text p0_words c_p0_words b_p0_words ho_p0 fr_p0_0 fr_p0_1 fr_p0_8 ho_p0_draft fr_p0_draft_12 ho_p0_draft_laws fr_p0_draft_laws_0) rfl rfl (cwV 1 hts (p1_gV m_5 m_6 m_7 m_4 g_t_readTerm7 gz_t_readTerm7) rfl rfl rfl (by decide +kernel) ⟨by decide, by decide⟩) (va_recv hK hP (ci := 4) (q0 := 0) rfl rfl) zm_t_readTerm7 rfl hl.1 rfl (Nat.le_of_ble_eq_true rfl) dX4_readSum_2 ⟨by decide, by decide⟩ (fun r_77 H78 lo78 hG78 hS78 => ?_)
  obtain ⟨o_79, o_80, o_81, z_82, ho_83, hf_84, ho_85, hf_86, hQ78⟩ := hG78
  have hP78 : va_P (dC, dI) vwCl (zW_t_readSum7 p0 o_79 p0_draft f_p0_draft p0_draft_laws o_80 p0_draft_laws_code c_p0_draft_laws_code o_81 p0_text c_p0_text b_p0_text p0_words c_p0_words b_p0_words) H78 := hQ78
  clear hQ78 hP hS
  rcases z_82 with ⟨rfl, z_82⟩ | ⟨rfl, z_82⟩
  · exact jn_2 o_79 o_80 o_81 1 _ _ _ ho_83 (q_fr.rf.tr hf_84 (by decide)) (hf_84.u (by decide) fr_p0_0) (hf_84.u (by decide) fr_p0_1) (hf_84.u (by decide) fr_p0_8) ho_85 (q_fr.rf.tr hf_86 (by decide)) (hf_86.u (by decide) fr_p0_draft_laws_0) (by omega) hP78 hS78 (lv_sub hl [0, 1] rfl)
  · exact jn_2 o_79 o_80 o_81 0 _ _ _ ho_83 (q_fr.rf.tr hf_84 (by decide)) (hf_84.u (by decide) fr_p0_0) (hf_84.u (by decide) fr_p0_1) (hf_84.u (by decide) fr_p0_8) ho_85 (q_fr.rf.tr hf_86 (by decide)) (hf_86.u (by decide) fr_p0_draft_laws_0) (by omega) hP78 hS78 (lv_sub hl [0, 1] rfl)
def zo_t_readRelation7 : List Cond := [.code yX4_readRelation cX4_readRelation 3 (some .boolean), .methodLink RX4 223 yX4_readSum, .instanceMethod yX4_readSum, .selects RX4 yX4_readSum yX4_readSum, .initialized RX4, .fieldLink RX4 28 "BowWalk$Reader" "token" "I", .methodLink RX4 78 yX4_step, .instanceMethod yX4_step, .selects RX4 yX4_step yX4_step, .methodLink RX4 214 yX4_putToken, .instanceMethod yX4_putToken, .selects RX4 yX4_putToken yX4_putToken]
def zw_t_readRelation7 : List Cond := zo_t_readRelation7 ++ (zw_t_readSum7 ++ (zw_t_step ++ (zw_t_putToken ++ (wsX40 ++ []))))
theorem gz_t_readRelation7 : zw_t_readRelation7.all goodWord = true := p1_ga (by decide +kernel) (p1_ga gz_t_readSum7 (p1_ga gz_t_step (p1_ga gz_t_putToken (p1_ga gk_X4 p1_g0))))
theorem iz_t_readRelation7 : ∀ w ∈ zw_t_readRelation7, w ∈ lw_tbl := p1_ia (p1_all [660, 661, 663, 18, 105, 311, 573, 575, 1, 676, 678, 21] (by decide +kernel)) (p1_ia iz_t_readSum7 (p1_ia iz_t_step (p1_ia iz_t_putToken (p1_ia ik_X4 p1_i0))))
def zW_t_readRelation7 (p0 : Nat) (f_p0 : List Value) (p0_draft : Nat) (f_p0_draft : List Value) (p0_draft_laws : Nat) (f_p0_draft_laws : List Value) (p0_draft_laws_code : Nat) (c_p0_draft_laws_code : ClassId) (b_p0_draft_laws_code : Nat → Int32) (p0_text : Nat) (c_p0_text : ClassId) (b_p0_text : Nat → Int32) (p0_words : Nat) (c_p0_words : ClassId) (b_p0_words : Nat → Int64) : va_W := [(p0, .inr (4, f_p0)), (p0_draft, .inr (5, f_p0_draft)), (p0_draft_laws, .inr (3, f_p0_draft_laws)), (p0_draft_laws_code, .inl (c_p0_draft_laws_code, 600, .inl b_p0_draft_laws_code)), (p0_text, .inl (c_p0_text, 1600, .inl b_p0_text)), (p0_words, .inl (c_p0_words, 22, .inr (.inl b_p0_words)))]
def zT_t_readRelation7 (c_p0_draft_laws_code : ClassId) (c_p0_text : ClassId) (c_p0_words : ClassId) : List (ClassId × FieldType) := [(c_p0_draft_laws_code, .int), (c_p0_text, .byte), (c_p0_words, .long)]
def zA_t_readRelation7 (p0 : Nat) (p0_draft : Nat) (p0_draft_laws : Nat) (p0_draft_laws_code : Nat) (p0_text : Nat) (p0_words : Nat) : List Nat := [p0, p0_draft, p0_draft_laws, p0_draft_laws_code, p0_text, p0_words]
theorem za_t_readRelation7 {p0 : Nat} {f_p0 : List Value} {p0_draft : Nat} {f_p0_draft : List Value} {p0_draft_laws : Nat} {f_p0_draft_laws : List Value} {p0_draft_laws_code : Nat} {c_p0_draft_laws_code : ClassId} {b_p0_draft_laws_code : Nat → Int32} {p0_text : Nat} {c_p0_text : ClassId} {b_p0_text : Nat → Int32} {p0_words : Nat} {c_p0_words : ClassId} {b_p0_words : Nat → Int64} : (zW_t_readRelation7 p0 f_p0 p0_draft f_p0_draft p0_draft_laws f_p0_draft_laws p0_draft_laws_code c_p0_draft_laws_code b_p0_draft_laws_code p0_text c_p0_text b_p0_text p0_words c_p0_words b_p0_words).map Prod.fst = (zA_t_readRelation7 p0 p0_draft p0_draft_laws p0_draft_laws_code p0_text p0_words) := rfl
def zG_t_readRelation7 (p0 : Nat) (f_p0 : List Value) (p0_draft : Nat) (f_p0_draft : List Value) (p0_draft_laws : Nat) (f_p0_draft_laws : List Value) (p0_draft_laws_code : Nat) (c_p0_draft_laws_code : ClassId) (b_p0_draft_laws_code : Nat → Int32) (p0_text : Nat) (c_p0_text : ClassId) (b_p0_text : Nat → Int32) (p0_words : Nat) (c_p0_words : ClassId) (b_p0_words : Nat → Int64) (r : Int32) (X : va_W → Prop) : Prop := ∃ (y_p0 : List Value) (y_p0_draft_laws : List Value) (y_p0_draft_laws_code : Nat → Int32), ((r = 1 ∧ (True)) ∨ (r = 0 ∧ (True))) ∧ OKX4 y_p0 ∧ q_fr [3, 4, 5, 6, 7, 9, 10] f_p0 y_p0 ∧ OKX3 y_p0_draft_laws ∧ q_fr [3, 5] f_p0_draft_laws y_p0_draft_laws ∧ X (zW_t_readRelation7 p0 y_p0 p0_draft f_p0_draft p0_draft_laws y_p0_draft_laws p0_draft_laws_code c_p0_draft_laws_code y_p0_draft_laws_code p0_text c_p0_text b_p0_text p0_words c_p0_words b_p0_words)
theorem zm_t_readRelation7 {p0 : Nat} {f_p0 : List Value} {p0_draft : Nat} {f_p0_draft : List Value} {p0_draft_laws : Nat} {f_p0_draft_laws : List Value} {p0_draft_laws_code : Nat} {c_p0_draft_laws_code : ClassId} {b_p0_draft_laws_code : Nat → Int32} {p0_text : Nat} {c_p0_text : ClassId} {b_p0_text : Nat → Int32} {p0_words : Nat} {c_p0_words : ClassId} {b_p0_words : Nat → Int64} : ∀ (r : Int32), ∀ X Y : va_W → Prop, (∀ w, X w → Y w) → zG_t_readRelation7 p0 f_p0 p0_draft f_p0_draft p0_draft_laws f_p0_draft_laws p0_draft_laws_code c_p0_draft_laws_code b_p0_draft_laws_code p0_text c_p0_text b_p0_text p0_words c_p0_words b_p0_words r X → zG_t_readRelation7 p0 f_p0 p0_draft f_p0_draft p0_draft_laws f_p0_draft_laws p0_draft_laws_code c_p0_draft_laws_code b_p0_draft_laws_code p0_text c_p0_text b_p0_text p0_words c_p0_words b_p0_words r Y := fun r X Y h h1 => by obtain ⟨x0, x1, x2, x3, x4, x5, x6, x7, hx⟩ := h1; exact ⟨x0, x1, x2, x3, x4, x5, x6, x7, h _ hx⟩
set_option maxHeartbeats 4000000 in
set_option maxRecDepth 100000 in
theorem t_readRelation7 (l : Launch) (dC : Nat → ClassId) (dI : Nat → Nat → Nat) (sz : Nat) (p0 : Nat) (f_p0 : List Value) (p0_draft : Nat) (f_p0_draft : List Value) (p0_draft_laws : Nat) (f_p0_draft_laws : List Value) (p0_draft_laws_code : Nat) (c_p0_draft_laws_code : ClassId) (b_p0_draft_laws_code : Nat → Int32) (p0_text : Nat) (c_p0_text : ClassId) (b_p0_text : Nat → Int32) (p0_words : Nat) (c_p0_words : ClassId) (b_p0_words : Nat → Int64) (ho_p0 : OKX4 f_p0) (fr_p0_0 : q_rf f_p0 0 p0_words) (fr_p0_1 : q_rf f_p0 1 p0_text) (fr_p0_8 : q_rf f_p0 8 p0_draft) (ho_p0_draft : OKX5 f_p0_draft) (fr_p0_draft_12 : q_rf f_p0_draft 12 p0_draft_laws) (ho_p0_draft_laws : OKX3 f_p0_draft_laws) (fr_p0_draft_laws_0 : q_rf f_p0_draft_laws 0 p0_draft_laws_code) : Met l yX4_readRelation zw_t_readRelation7 ({ frames := 9, cells := 0, slots := 0, locals := 198 }) (va_Pc [.ref p0, .int 7] (q_pre (dC, dI) (zW_t_readRelation7 p0 f_p0 p0_draft f_p0_draft p0_draft_laws f_p0_draft_laws p0_draft_laws_code c_p0_draft_laws_code b_p0_draft_laws_code p0_text c_p0_text b_p0_text p0_words c_p0_words b_p0_words) (zT_t_readRelation7 c_p0_draft_laws_code c_p0_text c_p0_words) q_ex sz)) (q_Qi (dC, dI) (zG_t_readRelation7 p0 f_p0 p0_draft f_p0_draft p0_draft_laws f_p0_draft_laws p0_draft_laws_code c_p0_draft_laws_code b_p0_draft_laws_code p0_text c_p0_text b_p0_text p0_words c_p0_words b_p0_words) (zA_t_readRelation7 p0 p0_draft p0_draft_laws p0_draft_laws_code p0_text p0_words) (va_A (zW_t_readRelation7 p0 f_p0 p0_draft f_p0_draft p0_draft_laws f_p0_draft_laws p0_draft_laws_code c_p0_draft_laws_code b_p0_draft_laws_code p0_text c_p0_text b_p0_text p0_words c_p0_words b_p0_words) sz)) 0 0 (va_A (zW_t_readRelation7 p0 f_p0 p0_draft f_p0_draft p0_draft_laws f_p0_draft_laws p0_draft_laws_code c_p0_draft_laws_code b_p0_draft_laws_code p0_text c_p0_text b_p0_text p0_words c_p0_words b_p0_words) sz) := by
  refine Met.ofW (cc := cX4_readRelation) (maxL := 3) (ret := (some .boolean)) (by decide) rfl ?_
  intro p e s m args below meth c s₁ B hml hv
  obtain ⟨rfl, hsz, hP, hK, hD0, hE⟩ := hv
  have hx := B.exec
  have hb := B.bytes
  have hr := B.returns
  have hts := atoms_spec (ws := zw_t_readRelation7) B.pre
  have hown : s.vm.findClass RX4 = some m.cls := findClass_of_methodNamed B.named
  have hlocks := B.notSynchronized
  subst hsz
  have hD := hD0.self (sz := s.heap.size)
  generalize hAe : va_A (zW_t_readRelation7 p0 f_p0 p0_draft f_p0_draft p0_draft_laws f_p0_draft_laws p0_draft_laws_code c_p0_draft_laws_code b_p0_draft_laws_code p0_text c_p0_text b_p0_text p0_words c_p0_words b_p0_words) s.heap.size = A at hD hE ⊢
  have hA : ∀ q : Nat, s.heap.size ≤ q → A q := fun q h => by rw [← hAe]; exact Or.inr h
  have hDa : q_DA A (zA_t_readRelation7 p0 p0_draft p0_draft_laws p0_draft_laws_code p0_text p0_words) := q_DA.mk hD za_t_readRelation7
  clear hAe hD0 hD
  have hS : va_S A s.heap s.heap [] := va_S.rf
  have m_0 : (.methodLink RX4 223 yX4_readSum : Cond) ∈ zw_t_readRelation7 := List.mem_append_left _ (List.mem_of_getElem? (i := 1) rfl)
  have k_0 := hts _ m_0
  have m_1 : (.instanceMethod yX4_readSum : Cond) ∈ zw_t_readRelation7 := List.mem_append_left _ (List.mem_of_getElem? (i := 2) rfl)
  have k_1 := hts _ m_1
  have m_2 : (.selects RX4 yX4_readSum yX4_readSum : Cond) ∈ zw_t_readRelation7 := List.mem_append_left _ (List.mem_of_getElem? (i := 3) rfl)
  have k_2 := hts _ m_2
  have m_3 : (.initialized RX4 : Cond) ∈ zw_t_readRelation7 := List.mem_append_left _ (List.mem_of_getElem? (i := 4) rfl)
  have k_3 := hts _ m_3
  have m_4 : (.fieldLink RX4 28 "BowWalk$Reader" "token" "I" : Cond) ∈ zw_t_readRelation7 := List.mem_append_left _ (List.mem_of_getElem? (i := 5) rfl)
  have k_4 := hts _ m_4
  have m_5 : (.methodLink RX4 78 yX4_step : Cond) ∈ zw_t_readRelation7 := List.mem_append_left _ (List.mem_of_getElem? (i := 6) rfl)
  have k_5 := hts _ m_5
  have m_6 : (.instanceMethod yX4_step : Cond) ∈ zw_t_readRelation7 := List.mem_append_left _ (List.mem_of_getElem? (i := 7) rfl)
  have k_6 := hts _ m_6
  have m_7 : (.selects RX4 yX4_step yX4_step : Cond) ∈ zw_t_readRelation7 := List.mem_append_left _ (List.mem_of_getElem? (i := 8) rfl)
  have k_7 := hts _ m_7
  have m_8 : (.methodLink RX4 214 yX4_putToken : Cond) ∈ zw_t_readRelation7 := List.mem_append_left _ (List.mem_of_getElem? (i := 9) rfl)
  have k_8 := hts _ m_8
  have m_9 : (.instanceMethod yX4_putToken : Cond) ∈ zw_t_readRelation7 := List.mem_append_left _ (List.mem_of_getElem? (i := 10) rfl)
  have k_9 := hts _ m_9
  have m_10 : (.selects RX4 yX4_putToken yX4_putToken : Cond) ∈ zw_t_readRelation7 := List.mem_append_left _ (List.mem_of_getElem? (i := 11) rfl)
  have k_10 := hts _ m_10
  have g_t_readSum7 : ∀ w ∈ zw_t_readSum7, w ∈ zw_t_readRelation7 := fun w h => List.mem_append_right _ (List.mem_append_left _ h)
  have g_t_step : ∀ w ∈ zw_t_step, w ∈ zw_t_readRelation7 := fun w h => List.mem_append_right _ (List.mem_append_right _ (List.mem_append_left _ h))
  have g_t_putToken : ∀ w ∈ zw_t_putToken, w ∈ zw_t_readRelation7 := fun w h => List.mem_append_right _ (List.mem_append_right _ (List.mem_append_right _ (List.mem_append_left _ h)))
  have i_X4 : ∀ w ∈ u_ws RX4 TX4 11, w ∈ zw_t_readRelation7 := fun w h => List.mem_append_right _ (List.mem_append_right _ (List.mem_append_right _ (List.mem_append_right _ (List.mem_append_left _ h))))
  have lt_0 : (0 : Int32).toInt = 0 := by decide
  have lt_1 : (1 : Int32).toInt = 1 := by decide
  have lt_7 : (7 : Int32).toInt = 7 := by decide
  have lt_60 : (60 : Int32).toInt = 60 := by decide
  have lt_61 : (61 : Int32).toInt = 61 := by decide
  have lt_62 : (62 : Int32).toInt = 62 := by decide
  have hl := lv_entry ([.ref p0, .int 7]) (n := 3) (Nat.le_of_ble_eq_true rfl)
  rw [lg_entry_eq]
  generalize (lg_sl ([.ref p0, .int 7]) ++ List.replicate (3 - (lg_sl ([.ref p0, .int 7])).length) Slot.unset).toArray = ls at hl ⊢
  have hl : lv_has ls 3 [(0, .ref p0), (1, .int 7)] := hl
  refine lv_aload_n hx hb dX4_readRelation_0 rfl (lv_at hl 0 rfl) (lv_iload_n hx hb dX4_readRelation_1 rfl (lv_at hl 1 rfl) ?_)
  refine q_cVi (As := [.int 7]) (rest := []) q_exw hE hK hP hDa za_t_readRelation7 hS hA [0, 1, 2, 3, 4, 5] [0, 1, 2] (by decide +kernel) ⟨hx, hb, hml, hown, hts⟩ (t_readSum7 l dC dI s.heap.size p0 f_p0 p0_draft f_p0_draft p0_draft_laws f_p0_draft_laws p0_draft_laws_code c_p0_draft_laws_code b_p0_draft_laws_code p0_text c_p0_text b_p0_text p0_words c_p0_words b_p0_words ho_p0 fr_p0_0 fr_p0_1 fr_p0_8 ho_p0_draft fr_p0_draft_12 ho_p0_draft_laws fr_p0_draft_laws_0) rfl rfl (cwV 1 hts (p1_gV m_0 m_1 m_2 m_3 g_t_readSum7 gz_t_readSum7) rfl rfl rfl (by decide +kernel) ⟨by decide, by decide⟩) (va_recv hK hP (ci := 4) (q0 := 0) rfl rfl) zm_t_readSum7 rfl hl.1 rfl (Nat.le_of_ble_eq_true rfl) dX4_readRelation_2 ⟨by decide, by decide⟩ (fun r_1 H2 lo2 hG2 hS2 => ?_)
  obtain ⟨o_3, o_4, o_5, z_6, ho_7, hf_8, ho_9, hf_10, hQ2⟩ := hG2
  have hP2 : va_P (dC, dI) vwCl (zW_t_readRelation7 p0 o_3 p0_draft f_p0_draft p0_draft_laws o_4 p0_draft_laws_code c_p0_draft_laws_code o_5 p0_text c_p0_text b_p0_text p0_words c_p0_words b_p0_words) H2 := hQ2
  clear hQ2 hP hS
  rcases z_6 with ⟨rfl, z_6⟩ | ⟨rfl, z_6⟩
  · refine lv_if_ne (tgt := 10) hx hb dX4_readRelation_5 (by decide) (fun c_11 => ?_) (fun c_11 => absurd c_11 (by decide))
    refine lv_aload_n hx hb dX4_readRelation_10 rfl (lv_at hl 0 rfl) ?_
    obtain ⟨v_12, fv_12⟩ := OKX4_g4 ho_7
    refine qg_X4_4 hx hb hts i_X4 hown hK hP2 0 rfl k_4 fv_12 dX4_readRelation_11 (lv_istore_n (lv' := [(2, .int v_12), (0, .ref p0), (1, .int 7)]) hx hb dX4_readRelation_14 rfl hl (by decide) rfl (fun ls hl => ?_))
    refine lv_iload_n hx hb dX4_readRelation_15 rfl (lv_at hl 0 rfl) (lv_bipush (v := 60) hx hb dX4_readRelation_16 (by decide) ?_)
    refine lv_icmp_eq (tgt := 35) hx hb dX4_readRelation_18 (by decide) (fun c_13 => ?_) (fun c_13 => ?_)
    · have tc_13 := q_eq c_13
      refine lv_aload_n hx hb dX4_readRelation_35 rfl (lv_at hl 1 rfl) ?_
      refine q_cVv (As := []) (rest := []) q_exw hE hK hP2 hDa za_t_readRelation7 hS2 hA [0, 4, 5] [1, 2] (by decide +kernel) ⟨hx, hb, hml, hown, hts⟩ (t_step l dC dI H2.size p0 o_3 p0_text c_p0_text b_p0_text p0_words c_p0_words b_p0_words ho_7 ((hf_8.u (by decide) fr_p0_0)) ((hf_8.u (by decide) fr_p0_1))) rfl rfl (cwV 0 hts (p1_gV m_5 m_6 m_7 m_3 g_t_step gz_t_step) rfl rfl rfl (by decide +kernel) ⟨by decide, by decide⟩) (va_recv hK hP2 (ci := 4) (q0 := 0) rfl rfl) zm_t_step rfl hl.1 rfl (Nat.le_of_ble_eq_true rfl) dX4_readRelation_36 ⟨by decide, by decide⟩ (fun H15 lo15 hG15 hS15 => ?_)
      obtain ⟨o_16, ho_17, hf_18, hQ15⟩ := hG15
      have hP15 : va_P (dC, dI) vwCl (zW_t_readRelation7 p0 o_16 p0_draft f_p0_draft p0_draft_laws o_4 p0_draft_laws_code c_p0_draft_laws_code o_5 p0_text c_p0_text b_p0_text p0_words c_p0_words b_p0_words) H15 := hQ15
      clear hQ15 hP2 hS2
      refine lv_aload_n hx hb dX4_readRelation_39 rfl (lv_at hl 1 rfl) (lv_iload_n hx hb dX4_readRelation_40 rfl (lv_at hl 2 rfl) ?_)
      refine q_cVi (As := [.int 7]) (rest := []) q_exw hE hK hP15 hDa za_t_readRelation7 hS15 hA [0, 1, 2, 3, 4, 5] [0, 1, 2] (by decide +kernel) ⟨hx, hb, hml, hown, hts⟩ (t_readSum7 l dC dI H15.size p0 o_16 p0_draft f_p0_draft p0_draft_laws o_4 p0_draft_laws_code c_p0_draft_laws_code o_5 p0_text c_p0_text b_p0_text p0_words c_p0_words b_p0_words ho_17 ((hf_18.u (by decide) (hf_8.u (by decide) fr_p0_0))) ((hf_18.u (by decide) (hf_8.u (by decide) fr_p0_1))) ((hf_18.u (by decide) (hf_8.u (by decide) fr_p0_8))) ho_p0_draft fr_p0_draft_12 ho_9 ((hf_10.u (by decide) fr_p0_draft_laws_0))) rfl rfl (cwV 1 hts (p1_gV m_0 m_1 m_2 m_3 g_t_readSum7 gz_t_readSum7) rfl rfl rfl (by decide +kernel) ⟨by decide, by decide⟩) (va_recv hK hP15 (ci := 4) (q0 := 0) rfl rfl) zm_t_readSum7 rfl hl.1 rfl (Nat.le_of_ble_eq_true rfl) dX4_readRelation_41 ⟨by decide, by decide⟩ (fun r_19 H20 lo20 hG20 hS20 => ?_)
      obtain ⟨o_21, o_22, o_23, z_24, ho_25, hf_26, ho_27, hf_28, hQ20⟩ := hG20
      have hP20 : va_P (dC, dI) vwCl (zW_t_readRelation7 p0 o_21 p0_draft f_p0_draft p0_draft_laws o_22 p0_draft_laws_code c_p0_draft_laws_code o_23 p0_text c_p0_text b_p0_text p0_words c_p0_words b_p0_words) H20 := hQ20
      clear hQ20 hP15 hS15
      rcases z_24 with ⟨rfl, z_24⟩ | ⟨rfl, z_24⟩
      · refine lv_if_eq (tgt := 59) hx hb dX4_readRelation_44 (by decide) (fun c_29 => absurd c_29 (by decide)) (fun c_29 => ?_)
        refine lv_aload_n hx hb dX4_readRelation_47 rfl (lv_at hl 1 rfl) (lv_iload_n hx hb dX4_readRelation_48 rfl (lv_at hl 0 rfl) ?_)
        refine q_cVi (As := [.int v_12]) (rest := []) q_w0 trivial hK hP20 hDa za_t_readRelation7 hS20 hA [0, 1, 2, 3] [0] (by decide +kernel) ⟨hx, hb, hml, hown, hts⟩ (t_putToken l dC dI H20.size p0 o_21 p0_draft f_p0_draft p0_draft_laws o_22 p0_draft_laws_code c_p0_draft_laws_code o_23 v_12 ho_25 ((hf_26.u (by decide) (hf_18.u (by decide) (hf_8.u (by decide) fr_p0_8)))) ho_p0_draft fr_p0_draft_12 ho_27 ((hf_28.u (by decide) (hf_10.u (by decide) fr_p0_draft_laws_0)))) rfl rfl (cwV 1 hts (p1_gV m_8 m_9 m_10 m_3 g_t_putToken gz_t_putToken) rfl rfl rfl (by decide +kernel) ⟨by decide, by decide⟩) (va_recv hK hP20 (ci := 4) (q0 := 0) rfl rfl) zm_t_putToken rfl hl.1 rfl (Nat.le_of_ble_eq_true rfl) dX4_readRelation_49 ⟨by decide, by decide⟩ (fun r_30 H31 lo31 hG31 hS31 => ?_)
        obtain ⟨o_32, o_33, o_34, z_35, ho_36, hf_37, ho_38, hf_39, hQ31⟩ := hG31
        have hP31 : va_P (dC, dI) vwCl (zW_t_readRelation7 p0 o_32 p0_draft f_p0_draft p0_draft_laws o_33 p0_draft_laws_code c_p0_draft_laws_code o_34 p0_text c_p0_text b_p0_text p0_words c_p0_words b_p0_words) H31 := hQ31
        clear hQ31 hP20 hS20
        rcases z_35 with ⟨rfl, z_35⟩ | ⟨rfl, z_35⟩
        · refine lv_if_eq (tgt := 59) hx hb dX4_readRelation_52 (by decide) (fun c_40 => absurd c_40 (by decide)) (fun c_40 => ?_)
          refine lv_iconst (v := 1) hx hb dX4_readRelation_55 (by decide) (lv_goto (tgt := 60) hx hb dX4_readRelation_56 (by decide) ?_)
          exact q_zret hx hb hr hlocks (by decide) hS31 dX4_readRelation_60 ⟨o_32, o_33, o_34, (Or.inl ⟨rfl, by first | trivial | omega⟩), ho_36, ((((q_fr.rf.tr hf_8 (by decide)).tr hf_18 (by decide)).tr hf_26 (by decide)).tr hf_37 (by decide)), ho_38, (((q_fr.rf.tr hf_10 (by decide)).tr hf_28 (by decide)).tr hf_39 (by decide)), hP31, za_t_readRelation7⟩
        · refine lv_if_eq (tgt := 59) hx hb dX4_readRelation_52 (by decide) (fun c_41 => ?_) (fun c_41 => absurd c_41 (by decide))
          refine lv_iconst (v := 0) hx hb dX4_readRelation_59 (by decide) ?_
          exact q_zret hx hb hr hlocks (by decide) hS31 dX4_readRelation_60 ⟨o_32, o_33, o_34, (Or.inr ⟨rfl, by first | trivial | omega⟩), ho_36, ((((q_fr.rf.tr hf_8 (by decide)).tr hf_18 (by decide)).tr hf_26 (by decide)).tr hf_37 (by decide)), ho_38, (((q_fr.rf.tr hf_10 (by decide)).tr hf_28 (by decide)).tr hf_39 (by decide)), hP31, za_t_readRelation7⟩
      · refine lv_if_eq (tgt := 59) hx hb dX4_readRelation_44 (by decide) (fun c_42 => ?_) (fun c_42 => absurd c_42 (by decide))
        refine lv_iconst (v := 0) hx hb dX4_readRelation_59 (by decide) ?_
        exact q_zret hx hb hr hlocks (by decide) hS20 dX4_readRelation_60 ⟨o_21, o_22, o_23, (Or.inr ⟨rfl, by first | trivial | omega⟩), ho_25, (((q_fr.rf.tr hf_8 (by decide)).tr hf_18 (by decide)).tr hf_26 (by decide)), ho_27, ((q_fr.rf.tr hf_10 (by decide)).tr hf_28 (by decide)), hP20, za_t_readRelation7⟩
    · have tc_13 := q_neN c_13
      refine lv_iload_n hx hb dX4_readRelation_21 rfl (lv_at hl 0 rfl) (lv_bipush (v := 62) hx hb dX4_readRelation_22 (by decide) ?_)
      refine lv_icmp_eq (tgt := 35) hx hb dX4_readRelation_24 (by decide) (fun c_43 => ?_) (fun c_43 => ?_)
      · have tc_43 := q_eq c_43
        refine lv_aload_n hx hb dX4_readRelation_35 rfl (lv_at hl 1 rfl) ?_
        refine q_cVv (As := []) (rest := []) q_exw hE hK hP2 hDa za_t_readRelation7 hS2 hA [0, 4, 5] [1, 2] (by decide +kernel) ⟨hx, hb, hml, hown, hts⟩ (t_step l dC dI H2.size p0 o_3 p0_text c_p0_text b_p0_text p0_words c_p0_words b_p0_words ho_7 ((hf_8.u (by decide) fr_p0_0)) ((hf_8.u (by decide) fr_p0_1))) rfl rfl (cwV 0 hts (p1_gV m_5 m_6 m_7 m_3 g_t_step gz_t_step) rfl rfl rfl (by decide +kernel) ⟨by decide, by decide⟩) (va_recv hK hP2 (ci := 4) (q0 := 0) rfl rfl) zm_t_step rfl hl.1 rfl (Nat.le_of_ble_eq_true rfl) dX4_readRelation_36 ⟨by decide, by decide⟩ (fun H45 lo45 hG45 hS45 => ?_)
        obtain ⟨o_46, ho_47, hf_48, hQ45⟩ := hG45
        have hP45 : va_P (dC, dI) vwCl (zW_t_readRelation7 p0 o_46 p0_draft f_p0_draft p0_draft_laws o_4 p0_draft_laws_code c_p0_draft_laws_code o_5 p0_text c_p0_text b_p0_text p0_words c_p0_words b_p0_words) H45 := hQ45
        clear hQ45 hP2 hS2
        refine lv_aload_n hx hb dX4_readRelation_39 rfl (lv_at hl 1 rfl) (lv_iload_n hx hb dX4_readRelation_40 rfl (lv_at hl 2 rfl) ?_)
        refine q_cVi (As := [.int 7]) (rest := []) q_exw hE hK hP45 hDa za_t_readRelation7 hS45 hA [0, 1, 2, 3, 4, 5] [0, 1, 2] (by decide +kernel) ⟨hx, hb, hml, hown, hts⟩ (t_readSum7 l dC dI H45.size p0 o_46 p0_draft f_p0_draft p0_draft_laws o_4 p0_draft_laws_code c_p0_draft_laws_code o_5 p0_text c_p0_text b_p0_text p0_words c_p0_words b_p0_words ho_47 ((hf_48.u (by decide) (hf_8.u (by decide) fr_p0_0))) ((hf_48.u (by decide) (hf_8.u (by decide) fr_p0_1))) ((hf_48.u (by decide) (hf_8.u (by decide) fr_p0_8))) ho_p0_draft fr_p0_draft_12 ho_9 ((hf_10.u (by decide) fr_p0_draft_laws_0))) rfl rfl (cwV 1 hts (p1_gV m_0 m_1 m_2 m_3 g_t_readSum7 gz_t_readSum7) rfl rfl rfl (by decide +kernel) ⟨by decide, by decide⟩) (va_recv hK hP45 (ci := 4) (q0 := 0) rfl rfl) zm_t_readSum7 rfl hl.1 rfl (Nat.le_of_ble_eq_true rfl) dX4_readRelation_41 ⟨by decide, by decide⟩ (fun r_49 H50 lo50 hG50 hS50 => ?_)
        obtain ⟨o_51, o_52, o_53, z_54, ho_55, hf_56, ho_57, hf_58, hQ50⟩ := hG50
        have hP50 : va_P (dC, dI) vwCl (zW_t_readRelation7 p0 o_51 p0_draft f_p0_draft p0_draft_laws o_52 p0_draft_laws_code c_p0_draft_laws_code o_53 p0_text c_p0_text b_p0_text p0_words c_p0_words b_p0_words) H50 := hQ50
        clear hQ50 hP45 hS45
        rcases z_54 with ⟨rfl, z_54⟩ | ⟨rfl, z_54⟩
        · refine lv_if_eq (tgt := 59) hx hb dX4_readRelation_44 (by decide) (fun c_59 => absurd c_59 (by decide)) (fun c_59 => ?_)
          refine lv_aload_n hx hb dX4_readRelation_47 rfl (lv_at hl 1 rfl) (lv_iload_n hx hb dX4_readRelation_48 rfl (lv_at hl 0 rfl) ?_)
          refine q_cVi (As := [.int v_12]) (rest := []) q_w0 trivial hK hP50 hDa za_t_readRelation7 hS50 hA [0, 1, 2, 3] [0] (by decide +kernel) ⟨hx, hb, hml, hown, hts⟩ (t_putToken l dC dI H50.size p0 o_51 p0_draft f_p0_draft p0_draft_laws o_52 p0_draft_laws_code c_p0_draft_laws_code o_53 v_12 ho_55 ((hf_56.u (by decide) (hf_48.u (by decide) (hf_8.u (by decide) fr_p0_8)))) ho_p0_draft fr_p0_draft_12 ho_57 ((hf_58.u (by decide) (hf_10.u (by decide) fr_p0_draft_laws_0)))) rfl rfl (cwV 1 hts (p1_gV m_8 m_9 m_10 m_3 g_t_putToken gz_t_putToken) rfl rfl rfl (by decide +kernel) ⟨by decide, by decide⟩) (va_recv hK hP50 (ci := 4) (q0 := 0) rfl rfl) zm_t_putToken rfl hl.1 rfl (Nat.le_of_ble_eq_true rfl) dX4_readRelation_49 ⟨by decide, by decide⟩ (fun r_60 H61 lo61 hG61 hS61 => ?_)
          obtain ⟨o_62, o_63, o_64, z_65, ho_66, hf_67, ho_68, hf_69, hQ61⟩ := hG61
          have hP61 : va_P (dC, dI) vwCl (zW_t_readRelation7 p0 o_62 p0_draft f_p0_draft p0_draft_laws o_63 p0_draft_laws_code c_p0_draft_laws_code o_64 p0_text c_p0_text b_p0_text p0_words c_p0_words b_p0_words) H61 := hQ61
          clear hQ61 hP50 hS50
          rcases z_65 with ⟨rfl, z_65⟩ | ⟨rfl, z_65⟩
          · refine lv_if_eq (tgt := 59) hx hb dX4_readRelation_52 (by decide) (fun c_70 => absurd c_70 (by decide)) (fun c_70 => ?_)
            refine lv_iconst (v := 1) hx hb dX4_readRelation_55 (by decide) (lv_goto (tgt := 60) hx hb dX4_readRelation_56 (by decide) ?_)
            exact q_zret hx hb hr hlocks (by decide) hS61 dX4_readRelation_60 ⟨o_62, o_63, o_64, (Or.inl ⟨rfl, by first | trivial | omega⟩), ho_66, ((((q_fr.rf.tr hf_8 (by decide)).tr hf_48 (by decide)).tr hf_56 (by decide)).tr hf_67 (by decide)), ho_68, (((q_fr.rf.tr hf_10 (by decide)).tr hf_58 (by decide)).tr hf_69 (by decide)), hP61, za_t_readRelation7⟩
          · refine lv_if_eq (tgt := 59) hx hb dX4_readRelation_52 (by decide) (fun c_71 => ?_) (fun c_71 => absurd c_71 (by decide))
            refine lv_iconst (v := 0) hx hb dX4_readRelation_59 (by decide) ?_
            exact q_zret hx hb hr hlocks (by decide) hS61 dX4_readRelation_60 ⟨o_62, o_63, o_64, (Or.inr ⟨rfl, by first | trivial | omega⟩), ho_66, ((((q_fr.rf.tr hf_8 (by decide)).tr hf_48 (by decide)).tr hf_56 (by decide)).tr hf_67 (by decide)), ho_68, (((q_fr.rf.tr hf_10 (by decide)).tr hf_58 (by decide)).tr hf_69 (by decide)), hP61, za_t_readRelation7⟩
        · refine lv_if_eq (tgt := 59) hx hb dX4_readRelation_44 (by decide) (fun c_72 => ?_) (fun c_72 => absurd c_72 (by decide))
          refine lv_iconst (v := 0) hx hb dX4_readRelation_59 (by decide) ?_
          exact q_zret hx hb hr hlocks (by decide) hS50 dX4_readRelation_60 ⟨o_51, o_52, o_53, (Or.inr ⟨rfl, by first | trivial | omega⟩), ho_55, (((q_fr.rf.tr hf_8 (by decide)).tr hf_48 (by decide)).tr hf_56 (by decide)), ho_57, ((q_fr.rf.tr hf_10 (by decide)).tr hf_58 (by decide)), hP50, za_t_readRelation7⟩
      · have tc_43 := q_neN c_43
        refine lv_iload_n hx hb dX4_readRelation_27 rfl (lv_at hl 0 rfl) (lv_bipush (v := 61) hx hb dX4_readRelation_28 (by decide) ?_)
        refine lv_icmp_eq (tgt := 35) hx hb dX4_readRelation_30 (by decide) (fun c_73 => ?_) (fun c_73 => ?_)
        · have tc_73 := q_eq c_73
          refine lv_aload_n hx hb dX4_readRelation_35 rfl (lv_at hl 1 rfl) ?_
          refine q_cVv (As := []) (rest := []) q_exw hE hK hP2 hDa za_t_readRelation7 hS2 hA [0, 4, 5] [1, 2] (by decide +kernel) ⟨hx, hb, hml, hown, hts⟩ (t_step l dC dI H2.size p0 o_3 p0_text c_p0_text b_p0_text p0_words c_p0_words b_p0_words ho_7 ((hf_8.u (by decide) fr_p0_0)) ((hf_8.u (by decide) fr_p0_1))) rfl rfl (cwV 0 hts (p1_gV m_5 m_6 m_7 m_3 g_t_step gz_t_step) rfl rfl rfl (by decide +kernel) ⟨by decide, by decide⟩) (va_recv hK hP2 (ci := 4) (q0 := 0) rfl rfl) zm_t_step rfl hl.1 rfl (Nat.le_of_ble_eq_true rfl) dX4_readRelation_36 ⟨by decide, by decide⟩ (fun H75 lo75 hG75 hS75 => ?_)
          obtain ⟨o_76, ho_77, hf_78, hQ75⟩ := hG75
          have hP75 : va_P (dC, dI) vwCl (zW_t_readRelation7 p0 o_76 p0_draft f_p0_draft p0_draft_laws o_4 p0_draft_laws_code c_p0_draft_laws_code o_5 p0_text c_p0_text b_p0_text p0_words c_p0_words b_p0_words) H75 := hQ75
          clear hQ75 hP2 hS2
          refine lv_aload_n hx hb dX4_readRelation_39 rfl (lv_at hl 1 rfl) (lv_iload_n hx hb dX4_readRelation_40 rfl (lv_at hl 2 rfl) ?_)
          refine q_cVi (As := [.int 7]) (rest := []) q_exw hE hK hP75 hDa za_t_readRelation7 hS75 hA [0, 1, 2, 3, 4, 5] [0, 1, 2] (by decide +kernel) ⟨hx, hb, hml, hown, hts⟩ (t_readSum7 l dC dI H75.size p0 o_76 p0_draft f_p0_draft p0_draft_laws o_4 p0_draft_laws_code c_p0_draft_laws_code o_5 p0_text c_p0_text b_p0_text p0_words c_p0_words b_p0_words ho_77 ((hf_78.u (by decide) (hf_8.u (by decide) fr_p0_0))) ((hf_78.u (by decide) (hf_8.u (by decide) fr_p0_1))) ((hf_78.u (by decide) (hf_8.u (by decide) fr_p0_8))) ho_p0_draft fr_p0_draft_12 ho_9 ((hf_10.u (by decide) fr_p0_draft_laws_0))) rfl rfl (cwV 1 hts (p1_gV m_0 m_1 m_2 m_3 g_t_readSum7 gz_t_readSum7) rfl rfl rfl (by decide +kernel) ⟨by decide, by decide⟩) (va_recv hK hP75 (ci := 4) (q0 := 0) rfl rfl) zm_t_readSum7 rfl hl.1 rfl (Nat.le_of_ble_eq_true rfl) dX4_readRelation_41 ⟨by decide, by decide⟩ (fun r_79 H80 lo80 hG80 hS80 => ?_)
          obtain ⟨o_81, o_82, o_83, z_84, ho_85, hf_86, ho_87, hf_88, hQ80⟩ := hG80
          have hP80 : va_P (dC, dI) vwCl (zW_t_readRelation7 p0 o_81 p0_draft f_p0_draft p0_draft_laws o_82 p0_draft_laws_code c_p0_draft_laws_code o_83 p0_text c_p0_text b_p0_text p0_words c_p0_words b_p0_words) H80 := hQ80
          clear hQ80 hP75 hS75
          rcases z_84 with ⟨rfl, z_84⟩ | ⟨rfl, z_84⟩
          · refine lv_if_eq (tgt := 59) hx hb dX4_readRelation_44 (by decide) (fun c_89 => absurd c_89 (by decide)) (fun c_89 => ?_)
            refine lv_aload_n hx hb dX4_readRelation_47 rfl (lv_at hl 1 rfl) (lv_iload_n hx hb dX4_readRelation_48 rfl (lv_at hl 0 rfl) ?_)
            refine q_cVi (As := [.int v_12]) (rest := []) q_w0 trivial hK hP80 hDa za_t_readRelation7 hS80 hA [0, 1, 2, 3] [0] (by decide +kernel) ⟨hx, hb, hml, hown, hts⟩ (t_putToken l dC dI H80.size p0 o_81 p0_draft f_p0_draft p0_draft_laws o_82 p0_draft_laws_code c_p0_draft_laws_code o_83 v_12 ho_85 ((hf_86.u (by decide) (hf_78.u (by decide) (hf_8.u (by decide) fr_p0_8)))) ho_p0_draft fr_p0_draft_12 ho_87 ((hf_88.u (by decide) (hf_10.u (by decide) fr_p0_draft_laws_0)))) rfl rfl (cwV 1 hts (p1_gV m_8 m_9 m_10 m_3 g_t_putToken gz_t_putToken) rfl rfl rfl (by decide +kernel) ⟨by decide, by decide⟩) (va_recv hK hP80 (ci := 4) (q0 := 0) rfl rfl) zm_t_putToken rfl hl.1 rfl (Nat.le_of_ble_eq_true rfl) dX4_readRelation_49 ⟨by decide, by decide⟩ (fun r_90 H91 lo91 hG91 hS91 => ?_)
            obtain ⟨o_92, o_93, o_94, z_95, ho_96, hf_97, ho_98, hf_99, hQ91⟩ := hG91
            have hP91 : va_P (dC, dI) vwCl (zW_t_readRelation7 p0 o_92 p0_draft f_p0_draft p0_draft_laws o_93 p0_draft_laws_code c_p0_draft_laws_code o_94 p0_text c_p0_text b_p0_text p0_words c_p0_words b_p0_words) H91 := hQ91
            clear hQ91 hP80 hS80
            rcases z_95 with ⟨rfl, z_95⟩ | ⟨rfl, z_95⟩
            · refine lv_if_eq (tgt := 59) hx hb dX4_readRelation_52 (by decide) (fun c_100 => absurd c_100 (by decide)) (fun c_100 => ?_)
              refine lv_iconst (v := 1) hx hb dX4_readRelation_55 (by decide) (lv_goto (tgt := 60) hx hb dX4_readRelation_56 (by decide) ?_)
              exact q_zret hx hb hr hlocks (by decide) hS91 dX4_readRelation_60 ⟨o_92, o_93, o_94, (Or.inl ⟨rfl, by first | trivial | omega⟩), ho_96, ((((q_fr.rf.tr hf_8 (by decide)).tr hf_78 (by decide)).tr hf_86 (by decide)).tr hf_97 (by decide)), ho_98, (((q_fr.rf.tr hf_10 (by decide)).tr hf_88 (by decide)).tr hf_99 (by decide)), hP91, za_t_readRelation7⟩
            · refine lv_if_eq (tgt := 59) hx hb dX4_readRelation_52 (by decide) (fun c_101 => ?_) (fun c_101 => absurd c_101 (by decide))
              refine lv_iconst (v := 0) hx hb dX4_readRelation_59 (by decide) ?_
              exact q_zret hx hb hr hlocks (by decide) hS91 dX4_readRelation_60 ⟨o_92, o_93, o_94, (Or.inr ⟨rfl, by first | trivial | omega⟩), ho_96, ((((q_fr.rf.tr hf_8 (by decide)).tr hf_78 (by decide)).tr hf_86 (by decide)).tr hf_97 (by decide)), ho_98, (((q_fr.rf.tr hf_10 (by decide)).tr hf_88 (by decide)).tr hf_99 (by decide)), hP91, za_t_readRelation7⟩
          · refine lv_if_eq (tgt := 59) hx hb dX4_readRelation_44 (by decide) (fun c_102 => ?_) (fun c_102 => absurd c_102 (by decide))
            refine lv_iconst (v := 0) hx hb dX4_readRelation_59 (by decide) ?_
            exact q_zret hx hb hr hlocks (by decide) hS80 dX4_readRelation_60 ⟨o_81, o_82, o_83, (Or.inr ⟨rfl, by first | trivial | omega⟩), ho_85, (((q_fr.rf.tr hf_8 (by decide)).tr hf_78 (by decide)).tr hf_86 (by decide)), ho_87, ((q_fr.rf.tr hf_10 (by decide)).tr hf_88 (by decide)), hP80, za_t_readRelation7⟩
        · have tc_73 := q_neN c_73
          refine lv_iconst (v := 1) hx hb dX4_readRelation_33 (by decide) ?_
          exact q_zret hx hb hr hlocks (by decide) hS2 dX4_readRelation_34 ⟨o_3, o_4, o_5, (Or.inl ⟨rfl, by first | trivial | omega⟩), ho_7, (q_fr.rf.tr hf_8 (by decide)), ho_9, (q_fr.rf.tr hf_10 (by decide)), hP2, za_t_readRelation7⟩
  · refine lv_if_ne (tgt := 10) hx hb dX4_readRelation_5 (by decide) (fun c_103 => absurd c_103 (by decide)) (fun c_103 => ?_)
    refine lv_iconst (v := 0) hx hb dX4_readRelation_8 (by decide) ?_
    exact q_zret hx hb hr hlocks (by decide) hS2 dX4_readRelation_9 ⟨o_3, o_4, o_5, (Or.inr ⟨rfl, by first | trivial | omega⟩), ho_7, (q_fr.rf.tr hf_8 (by decide)), ho_9, (q_fr.rf.tr hf_10 (by decide)), hP2, za_t_readRelation7⟩
def zo_t_readOne7 : List Cond := [.code yX4_readOne cX4_readOne 2 (some .boolean), .fieldLink RX4 28 "BowWalk$Reader" "token" "I", .methodLink RX4 124 yX4_refuse, .instanceMethod yX4_refuse, .selects RX4 yX4_refuse yX4_refuse, .initialized RX4, .methodLink RX4 220 yX4_readRelation, .instanceMethod yX4_readRelation, .selects RX4 yX4_readRelation yX4_readRelation]
def zw_t_readOne7 : List Cond := zo_t_readOne7 ++ (zw_t_refuse ++ (zw_t_readRelation7 ++ (wsX40 ++ [])))
theorem gz_t_readOne7 : zw_t_readOne7.all goodWord = true := p1_ga (by decide +kernel) (p1_ga gz_t_refuse (p1_ga gz_t_readRelation7 (p1_ga gk_X4 p1_g0)))
theorem iz_t_readOne7 : ∀ w ∈ zw_t_readOne7, w ∈ lw_tbl := p1_ia (p1_all [656, 311, 613, 615, 7, 105, 657, 659, 17] (by decide +kernel)) (p1_ia iz_t_refuse (p1_ia iz_t_readRelation7 (p1_ia ik_X4 p1_i0)))
def zW_t_readOne7 (p0 : Nat) (f_p0 : List Value) (p0_draft : Nat) (f_p0_draft : List Value) (p0_draft_laws : Nat) (f_p0_draft_laws : List Value) (p0_draft_laws_code : Nat) (c_p0_draft_laws_code : ClassId) (b_p0_draft_laws_code : Nat → Int32) (p0_text : Nat) (c_p0_text : ClassId) (b_p0_text : Nat → Int32) (p0_words : Nat) (c_p0_words : ClassId) (b_p0_words : Nat → Int64) : va_W := [(p0, .inr (4, f_p0)), (p0_draft, .inr (5, f_p0_draft)), (p0_draft_laws, .inr (3, f_p0_draft_laws)), (p0_draft_laws_code, .inl (c_p0_draft_laws_code, 600, .inl b_p0_draft_laws_code)), (p0_text, .inl (c_p0_text, 1600, .inl b_p0_text)), (p0_words, .inl (c_p0_words, 22, .inr (.inl b_p0_words)))]
def zT_t_readOne7 (c_p0_draft_laws_code : ClassId) (c_p0_text : ClassId) (c_p0_words : ClassId) : List (ClassId × FieldType) := [(c_p0_draft_laws_code, .int), (c_p0_text, .byte), (c_p0_words, .long)]
def zA_t_readOne7 (p0 : Nat) (p0_draft : Nat) (p0_draft_laws : Nat) (p0_draft_laws_code : Nat) (p0_text : Nat) (p0_words : Nat) : List Nat := [p0, p0_draft, p0_draft_laws, p0_draft_laws_code, p0_text, p0_words]
theorem za_t_readOne7 {p0 : Nat} {f_p0 : List Value} {p0_draft : Nat} {f_p0_draft : List Value} {p0_draft_laws : Nat} {f_p0_draft_laws : List Value} {p0_draft_laws_code : Nat} {c_p0_draft_laws_code : ClassId} {b_p0_draft_laws_code : Nat → Int32} {p0_text : Nat} {c_p0_text : ClassId} {b_p0_text : Nat → Int32} {p0_words : Nat} {c_p0_words : ClassId} {b_p0_words : Nat → Int64} : (zW_t_readOne7 p0 f_p0 p0_draft f_p0_draft p0_draft_laws f_p0_draft_laws p0_draft_laws_code c_p0_draft_laws_code b_p0_draft_laws_code p0_text c_p0_text b_p0_text p0_words c_p0_words b_p0_words).map Prod.fst = (zA_t_readOne7 p0 p0_draft p0_draft_laws p0_draft_laws_code p0_text p0_words) := rfl
def zG_t_readOne7 (p0 : Nat) (f_p0 : List Value) (p0_draft : Nat) (f_p0_draft : List Value) (p0_draft_laws : Nat) (f_p0_draft_laws : List Value) (p0_draft_laws_code : Nat) (c_p0_draft_laws_code : ClassId) (b_p0_draft_laws_code : Nat → Int32) (p0_text : Nat) (c_p0_text : ClassId) (b_p0_text : Nat → Int32) (p0_words : Nat) (c_p0_words : ClassId) (b_p0_words : Nat → Int64) (r : Int32) (X : va_W → Prop) : Prop := ∃ (y_p0 : List Value) (y_p0_draft_laws : List Value) (y_p0_draft_laws_code : Nat → Int32), ((r = 1 ∧ (True)) ∨ (r = 0 ∧ (True))) ∧ OKX4 y_p0 ∧ q_fr [3, 4, 5, 6, 7, 9, 10] f_p0 y_p0 ∧ OKX3 y_p0_draft_laws ∧ q_fr [3, 5] f_p0_draft_laws y_p0_draft_laws ∧ X (zW_t_readOne7 p0 y_p0 p0_draft f_p0_draft p0_draft_laws y_p0_draft_laws p0_draft_laws_code c_p0_draft_laws_code y_p0_draft_laws_code p0_text c_p0_text b_p0_text p0_words c_p0_words b_p0_words)
theorem zm_t_readOne7 {p0 : Nat} {f_p0 : List Value} {p0_draft : Nat} {f_p0_draft : List Value} {p0_draft_laws : Nat} {f_p0_draft_laws : List Value} {p0_draft_laws_code : Nat} {c_p0_draft_laws_code : ClassId} {b_p0_draft_laws_code : Nat → Int32} {p0_text : Nat} {c_p0_text : ClassId} {b_p0_text : Nat → Int32} {p0_words : Nat} {c_p0_words : ClassId} {b_p0_words : Nat → Int64} : ∀ (r : Int32), ∀ X Y : va_W → Prop, (∀ w, X w → Y w) → zG_t_readOne7 p0 f_p0 p0_draft f_p0_draft p0_draft_laws f_p0_draft_laws p0_draft_laws_code c_p0_draft_laws_code b_p0_draft_laws_code p0_text c_p0_text b_p0_text p0_words c_p0_words b_p0_words r X → zG_t_readOne7 p0 f_p0 p0_draft f_p0_draft p0_draft_laws f_p0_draft_laws p0_draft_laws_code c_p0_draft_laws_code b_p0_draft_laws_code p0_text c_p0_text b_p0_text p0_words c_p0_words b_p0_words r Y := fun r X Y h h1 => by obtain ⟨x0, x1, x2, x3, x4, x5, x6, x7, hx⟩ := h1; exact ⟨x0, x1, x2, x3, x4, x5, x6, x7, h _ hx⟩
set_option maxHeartbeats 4000000 in
set_option maxRecDepth 100000 in
theorem t_readOne7 (l : Launch) (dC : Nat → ClassId) (dI : Nat → Nat → Nat) (sz : Nat) (p0 : Nat) (f_p0 : List Value) (p0_draft : Nat) (f_p0_draft : List Value) (p0_draft_laws : Nat) (f_p0_draft_laws : List Value) (p0_draft_laws_code : Nat) (c_p0_draft_laws_code : ClassId) (b_p0_draft_laws_code : Nat → Int32) (p0_text : Nat) (c_p0_text : ClassId) (b_p0_text : Nat → Int32) (p0_words : Nat) (c_p0_words : ClassId) (b_p0_words : Nat → Int64) (ho_p0 : OKX4 f_p0) (fr_p0_0 : q_rf f_p0 0 p0_words) (fr_p0_1 : q_rf f_p0 1 p0_text) (fr_p0_8 : q_rf f_p0 8 p0_draft) (ho_p0_draft : OKX5 f_p0_draft) (fr_p0_draft_12 : q_rf f_p0_draft 12 p0_draft_laws) (ho_p0_draft_laws : OKX3 f_p0_draft_laws) (fr_p0_draft_laws_0 : q_rf f_p0_draft_laws 0 p0_draft_laws_code) : Met l yX4_readOne zw_t_readOne7 ({ frames := 10, cells := 0, slots := 0, locals := 220 }) (va_Pc [.ref p0, .int 7] (q_pre (dC, dI) (zW_t_readOne7 p0 f_p0 p0_draft f_p0_draft p0_draft_laws f_p0_draft_laws p0_draft_laws_code c_p0_draft_laws_code b_p0_draft_laws_code p0_text c_p0_text b_p0_text p0_words c_p0_words b_p0_words) (zT_t_readOne7 c_p0_draft_laws_code c_p0_text c_p0_words) q_ex sz)) (q_Qi (dC, dI) (zG_t_readOne7 p0 f_p0 p0_draft f_p0_draft p0_draft_laws f_p0_draft_laws p0_draft_laws_code c_p0_draft_laws_code b_p0_draft_laws_code p0_text c_p0_text b_p0_text p0_words c_p0_words b_p0_words) (zA_t_readOne7 p0 p0_draft p0_draft_laws p0_draft_laws_code p0_text p0_words) (va_A (zW_t_readOne7 p0 f_p0 p0_draft f_p0_draft p0_draft_laws f_p0_draft_laws p0_draft_laws_code c_p0_draft_laws_code b_p0_draft_laws_code p0_text c_p0_text b_p0_text p0_words c_p0_words b_p0_words) sz)) 0 0 (va_A (zW_t_readOne7 p0 f_p0 p0_draft f_p0_draft p0_draft_laws f_p0_draft_laws p0_draft_laws_code c_p0_draft_laws_code b_p0_draft_laws_code p0_text c_p0_text b_p0_text p0_words c_p0_words b_p0_words) sz) := by
  refine Met.ofW (cc := cX4_readOne) (maxL := 2) (ret := (some .boolean)) (by decide) rfl ?_
  intro p e s m args below meth c s₁ B hml hv
  obtain ⟨rfl, hsz, hP, hK, hD0, hE⟩ := hv
  have hx := B.exec
  have hb := B.bytes
  have hr := B.returns
  have hts := atoms_spec (ws := zw_t_readOne7) B.pre
  have hown : s.vm.findClass RX4 = some m.cls := findClass_of_methodNamed B.named
  have hlocks := B.notSynchronized
  subst hsz
  have hD := hD0.self (sz := s.heap.size)
  generalize hAe : va_A (zW_t_readOne7 p0 f_p0 p0_draft f_p0_draft p0_draft_laws f_p0_draft_laws p0_draft_laws_code c_p0_draft_laws_code b_p0_draft_laws_code p0_text c_p0_text b_p0_text p0_words c_p0_words b_p0_words) s.heap.size = A at hD hE ⊢
  have hA : ∀ q : Nat, s.heap.size ≤ q → A q := fun q h => by rw [← hAe]; exact Or.inr h
  have hDa : q_DA A (zA_t_readOne7 p0 p0_draft p0_draft_laws p0_draft_laws_code p0_text p0_words) := q_DA.mk hD za_t_readOne7
  clear hAe hD0 hD
  have hS : va_S A s.heap s.heap [] := va_S.rf
  have m_0 : (.fieldLink RX4 28 "BowWalk$Reader" "token" "I" : Cond) ∈ zw_t_readOne7 := List.mem_append_left _ (List.mem_of_getElem? (i := 1) rfl)
  have k_0 := hts _ m_0
  have m_1 : (.methodLink RX4 124 yX4_refuse : Cond) ∈ zw_t_readOne7 := List.mem_append_left _ (List.mem_of_getElem? (i := 2) rfl)
  have k_1 := hts _ m_1
  have m_2 : (.instanceMethod yX4_refuse : Cond) ∈ zw_t_readOne7 := List.mem_append_left _ (List.mem_of_getElem? (i := 3) rfl)
  have k_2 := hts _ m_2
  have m_3 : (.selects RX4 yX4_refuse yX4_refuse : Cond) ∈ zw_t_readOne7 := List.mem_append_left _ (List.mem_of_getElem? (i := 4) rfl)
  have k_3 := hts _ m_3
  have m_4 : (.initialized RX4 : Cond) ∈ zw_t_readOne7 := List.mem_append_left _ (List.mem_of_getElem? (i := 5) rfl)
  have k_4 := hts _ m_4
  have m_5 : (.methodLink RX4 220 yX4_readRelation : Cond) ∈ zw_t_readOne7 := List.mem_append_left _ (List.mem_of_getElem? (i := 6) rfl)
  have k_5 := hts _ m_5
  have m_6 : (.instanceMethod yX4_readRelation : Cond) ∈ zw_t_readOne7 := List.mem_append_left _ (List.mem_of_getElem? (i := 7) rfl)
  have k_6 := hts _ m_6
  have m_7 : (.selects RX4 yX4_readRelation yX4_readRelation : Cond) ∈ zw_t_readOne7 := List.mem_append_left _ (List.mem_of_getElem? (i := 8) rfl)
  have k_7 := hts _ m_7
  have g_t_refuse : ∀ w ∈ zw_t_refuse, w ∈ zw_t_readOne7 := fun w h => List.mem_append_right _ (List.mem_append_left _ h)
  have g_t_readRelation7 : ∀ w ∈ zw_t_readRelation7, w ∈ zw_t_readOne7 := fun w h => List.mem_append_right _ (List.mem_append_right _ (List.mem_append_left _ h))
  have i_X4 : ∀ w ∈ u_ws RX4 TX4 11, w ∈ zw_t_readOne7 := fun w h => List.mem_append_right _ (List.mem_append_right _ (List.mem_append_right _ (List.mem_append_left _ h)))
  have lt_0 : (0 : Int32).toInt = 0 := by decide
  have lt_1 : (1 : Int32).toInt = 1 := by decide
  have lt_2 : (2 : Int32).toInt = 2 := by decide
  have lt_6 : (6 : Int32).toInt = 6 := by decide
  have lt_7 : (7 : Int32).toInt = 7 := by decide
  have lt_277 : (277 : Int32).toInt = 277 := by decide
  have hl := lv_entry ([.ref p0, .int 7]) (n := 2) (Nat.le_of_ble_eq_true rfl)
  rw [lg_entry_eq]
  generalize (lg_sl ([.ref p0, .int 7]) ++ List.replicate (2 - (lg_sl ([.ref p0, .int 7])).length) Slot.unset).toArray = ls at hl ⊢
  have hl : lv_has ls 2 [(0, .ref p0), (1, .int 7)] := hl
  refine lv_aload_n hx hb dX4_readOne_0 rfl (lv_at hl 0 rfl) ?_
  obtain ⟨v_1, fv_1⟩ := OKX4_g4 ho_p0
  refine qg_X4_4 hx hb hts i_X4 hown hK hP 0 rfl k_0 fv_1 dX4_readOne_1 (lv_sipush (v := 277) hx hb dX4_readOne_4 (by decide) ?_)
  refine lv_icmp_eq (tgt := 16) hx hb dX4_readOne_7 (by decide) (fun c_2 => ?_) (fun c_2 => ?_)
  · have tc_2 := q_eq c_2
    refine lv_iload_n hx hb dX4_readOne_16 rfl (lv_at hl 1 rfl) (lv_bipush (v := 6) hx hb dX4_readOne_17 (by decide) (lv_icmp_le (tgt := 28) hx hb dX4_readOne_19 (by decide) (fun c_3 => absurd c_3 (by decide)) (fun c_3 => ?_)))
    refine lv_aload_n hx hb dX4_readOne_22 rfl (lv_at hl 0 rfl) (lv_iconst (v := 2) hx hb dX4_readOne_23 (by decide) ?_)
    refine q_cVi (As := [.int 2]) (rest := []) q_w0 trivial hK hP hDa za_t_readOne7 hS hA [0] [] (by decide +kernel) ⟨hx, hb, hml, hown, hts⟩ (t_refuse l dC dI s.heap.size p0 f_p0 2 ho_p0) rfl rfl (cwV 1 hts (p1_gV m_1 m_2 m_3 m_4 g_t_refuse gz_t_refuse) rfl rfl rfl (by decide +kernel) ⟨by decide, by decide⟩) (va_recv hK hP (ci := 4) (q0 := 0) rfl rfl) zm_t_refuse rfl hl.1 rfl (Nat.le_of_ble_eq_true rfl) dX4_readOne_24 ⟨by decide, by decide⟩ (fun r_4 H5 lo5 hG5 hS5 => ?_)
    obtain ⟨o_6, z_7, ho_8, hf_9, hQ5⟩ := hG5
    have hP5 : va_P (dC, dI) vwCl (zW_t_readOne7 p0 o_6 p0_draft f_p0_draft p0_draft_laws f_p0_draft_laws p0_draft_laws_code c_p0_draft_laws_code b_p0_draft_laws_code p0_text c_p0_text b_p0_text p0_words c_p0_words b_p0_words) H5 := hQ5
    clear hQ5 hP hS
    rcases z_7 with ⟨rfl, z_7⟩ | ⟨rfl, z_7⟩
    · exact z_7.elim
    · exact q_zret hx hb hr hlocks (by decide) hS5 dX4_readOne_27 ⟨o_6, f_p0_draft_laws, b_p0_draft_laws_code, (Or.inr ⟨rfl, by first | trivial | omega⟩), ho_8, (q_fr.rf.tr hf_9 (by decide)), ho_p0_draft_laws, q_fr.rf, hP5, za_t_readOne7⟩
  · have tc_2 := q_neN c_2
    refine lv_aload_n hx hb dX4_readOne_10 rfl (lv_at hl 0 rfl) (lv_iload_n hx hb dX4_readOne_11 rfl (lv_at hl 1 rfl) ?_)
    refine q_cVi (As := [.int 7]) (rest := []) q_exw hE hK hP hDa za_t_readOne7 hS hA [0, 1, 2, 3, 4, 5] [0, 1, 2] (by decide +kernel) ⟨hx, hb, hml, hown, hts⟩ (t_readRelation7 l dC dI s.heap.size p0 f_p0 p0_draft f_p0_draft p0_draft_laws f_p0_draft_laws p0_draft_laws_code c_p0_draft_laws_code b_p0_draft_laws_code p0_text c_p0_text b_p0_text p0_words c_p0_words b_p0_words ho_p0 fr_p0_0 fr_p0_1 fr_p0_8 ho_p0_draft fr_p0_draft_12 ho_p0_draft_laws fr_p0_draft_laws_0) rfl rfl (cwV 1 hts (p1_gV m_5 m_6 m_7 m_4 g_t_readRelation7 gz_t_readRelation7) rfl rfl rfl (by decide +kernel) ⟨by decide, by decide⟩) (va_recv hK hP (ci := 4) (q0 := 0) rfl rfl) zm_t_readRelation7 rfl hl.1 rfl (Nat.le_of_ble_eq_true rfl) dX4_readOne_12 ⟨by decide, by decide⟩ (fun r_10 H11 lo11 hG11 hS11 => ?_)
    obtain ⟨o_12, o_13, o_14, z_15, ho_16, hf_17, ho_18, hf_19, hQ11⟩ := hG11
    have hP11 : va_P (dC, dI) vwCl (zW_t_readOne7 p0 o_12 p0_draft f_p0_draft p0_draft_laws o_13 p0_draft_laws_code c_p0_draft_laws_code o_14 p0_text c_p0_text b_p0_text p0_words c_p0_words b_p0_words) H11 := hQ11
    clear hQ11 hP hS
    rcases z_15 with ⟨rfl, z_15⟩ | ⟨rfl, z_15⟩
    · exact q_zret hx hb hr hlocks (by decide) hS11 dX4_readOne_15 ⟨o_12, o_13, o_14, (Or.inl ⟨rfl, by first | trivial | omega⟩), ho_16, (q_fr.rf.tr hf_17 (by decide)), ho_18, (q_fr.rf.tr hf_19 (by decide)), hP11, za_t_readOne7⟩
    · exact q_zret hx hb hr hlocks (by decide) hS11 dX4_readOne_15 ⟨o_12, o_13, o_14, (Or.inr ⟨rfl, by first | trivial | omega⟩), ho_16, (q_fr.rf.tr hf_17 (by decide)), ho_18, (q_fr.rf.tr hf_19 (by decide)), hP11, za_t_readOne7⟩
def zo_t_readAll7 : List Cond := [.code yX4_readAll cX4_readAll 4 (some .boolean), .fieldLink RX4 28 "BowWalk$Reader" "token" "I", .methodLink RX4 78 yX4_step, .instanceMethod yX4_step, .selects RX4 yX4_step yX4_step, .initialized RX4, .methodLink RX4 217 yX4_readOne, .instanceMethod yX4_readOne, .selects RX4 yX4_readOne yX4_readOne, .methodLink RX4 214 yX4_putToken, .instanceMethod yX4_putToken, .selects RX4 yX4_putToken yX4_putToken]
def zw_t_readAll7 : List Cond := zo_t_readAll7 ++ (zw_t_step ++ (zw_t_readOne7 ++ (zw_t_putToken ++ (wsX40 ++ []))))
theorem gz_t_readAll7 : zw_t_readAll7.all goodWord = true := p1_ga (by decide +kernel) (p1_ga gz_t_step (p1_ga gz_t_readOne7 (p1_ga gz_t_putToken (p1_ga gk_X4 p1_g0))))
theorem iz_t_readAll7 : ∀ w ∈ zw_t_readAll7, w ∈ lw_tbl := p1_ia (p1_all [652, 311, 573, 575, 1, 105, 653, 655, 16, 676, 678, 21] (by decide +kernel)) (p1_ia iz_t_step (p1_ia iz_t_readOne7 (p1_ia iz_t_putToken (p1_ia ik_X4 p1_i0))))
def zW_t_readAll7 (p0 : Nat) (f_p0 : List Value) (p0_draft : Nat) (f_p0_draft : List Value) (p0_draft_laws : Nat) (f_p0_draft_laws : List Value) (p0_draft_laws_code : Nat) (c_p0_draft_laws_code : ClassId) (b_p0_draft_laws_code : Nat → Int32) (p0_text : Nat) (c_p0_text : ClassId) (b_p0_text : Nat → Int32) (p0_words : Nat) (c_p0_words : ClassId) (b_p0_words : Nat → Int64) : va_W := [(p0, .inr (4, f_p0)), (p0_draft, .inr (5, f_p0_draft)), (p0_draft_laws, .inr (3, f_p0_draft_laws)), (p0_draft_laws_code, .inl (c_p0_draft_laws_code, 600, .inl b_p0_draft_laws_code)), (p0_text, .inl (c_p0_text, 1600, .inl b_p0_text)), (p0_words, .inl (c_p0_words, 22, .inr (.inl b_p0_words)))]
def zT_t_readAll7 (c_p0_draft_laws_code : ClassId) (c_p0_text : ClassId) (c_p0_words : ClassId) : List (ClassId × FieldType) := [(c_p0_draft_laws_code, .int), (c_p0_text, .byte), (c_p0_words, .long)]
def zA_t_readAll7 (p0 : Nat) (p0_draft : Nat) (p0_draft_laws : Nat) (p0_draft_laws_code : Nat) (p0_text : Nat) (p0_words : Nat) : List Nat := [p0, p0_draft, p0_draft_laws, p0_draft_laws_code, p0_text, p0_words]
theorem za_t_readAll7 {p0 : Nat} {f_p0 : List Value} {p0_draft : Nat} {f_p0_draft : List Value} {p0_draft_laws : Nat} {f_p0_draft_laws : List Value} {p0_draft_laws_code : Nat} {c_p0_draft_laws_code : ClassId} {b_p0_draft_laws_code : Nat → Int32} {p0_text : Nat} {c_p0_text : ClassId} {b_p0_text : Nat → Int32} {p0_words : Nat} {c_p0_words : ClassId} {b_p0_words : Nat → Int64} : (zW_t_readAll7 p0 f_p0 p0_draft f_p0_draft p0_draft_laws f_p0_draft_laws p0_draft_laws_code c_p0_draft_laws_code b_p0_draft_laws_code p0_text c_p0_text b_p0_text p0_words c_p0_words b_p0_words).map Prod.fst = (zA_t_readAll7 p0 p0_draft p0_draft_laws p0_draft_laws_code p0_text p0_words) := rfl
def zG_t_readAll7 (p0 : Nat) (f_p0 : List Value) (p0_draft : Nat) (f_p0_draft : List Value) (p0_draft_laws : Nat) (f_p0_draft_laws : List Value) (p0_draft_laws_code : Nat) (c_p0_draft_laws_code : ClassId) (b_p0_draft_laws_code : Nat → Int32) (p0_text : Nat) (c_p0_text : ClassId) (b_p0_text : Nat → Int32) (p0_words : Nat) (c_p0_words : ClassId) (b_p0_words : Nat → Int64) (r : Int32) (X : va_W → Prop) : Prop := ∃ (y_p0 : List Value) (y_p0_draft_laws : List Value) (y_p0_draft_laws_code : Nat → Int32), ((r = 1 ∧ (True)) ∨ (r = 0 ∧ (True))) ∧ OKX4 y_p0 ∧ q_fr [3, 4, 5, 6, 7, 9, 10] f_p0 y_p0 ∧ OKX3 y_p0_draft_laws ∧ q_fr [3, 5] f_p0_draft_laws y_p0_draft_laws ∧ X (zW_t_readAll7 p0 y_p0 p0_draft f_p0_draft p0_draft_laws y_p0_draft_laws p0_draft_laws_code c_p0_draft_laws_code y_p0_draft_laws_code p0_text c_p0_text b_p0_text p0_words c_p0_words b_p0_words)
theorem zm_t_readAll7 {p0 : Nat} {f_p0 : List Value} {p0_draft : Nat} {f_p0_draft : List Value} {p0_draft_laws : Nat} {f_p0_draft_laws : List Value} {p0_draft_laws_code : Nat} {c_p0_draft_laws_code : ClassId} {b_p0_draft_laws_code : Nat → Int32} {p0_text : Nat} {c_p0_text : ClassId} {b_p0_text : Nat → Int32} {p0_words : Nat} {c_p0_words : ClassId} {b_p0_words : Nat → Int64} : ∀ (r : Int32), ∀ X Y : va_W → Prop, (∀ w, X w → Y w) → zG_t_readAll7 p0 f_p0 p0_draft f_p0_draft p0_draft_laws f_p0_draft_laws p0_draft_laws_code c_p0_draft_laws_code b_p0_draft_laws_code p0_text c_p0_text b_p0_text p0_words c_p0_words b_p0_words r X → zG_t_readAll7 p0 f_p0 p0_draft f_p0_draft p0_draft_laws f_p0_draft_laws p0_draft_laws_code c_p0_draft_laws_code b_p0_draft_laws_code p0_text c_p0_text b_p0_text p0_words c_p0_words b_p0_words r Y := fun r X Y h h1 => by obtain ⟨x0, x1, x2, x3, x4, x5, x6, x7, hx⟩ := h1; exact ⟨x0, x1, x2, x3, x4, x5, x6, x7, h _ hx⟩
set_option maxHeartbeats 4000000 in
set_option maxRecDepth 100000 in
theorem t_readAll7 (l : Launch) (dC : Nat → ClassId) (dI : Nat → Nat → Nat) (sz : Nat) (p0 : Nat) (f_p0 : List Value) (p0_draft : Nat) (f_p0_draft : List Value) (p0_draft_laws : Nat) (f_p0_draft_laws : List Value) (p0_draft_laws_code : Nat) (c_p0_draft_laws_code : ClassId) (b_p0_draft_laws_code : Nat → Int32) (p0_text : Nat) (c_p0_text : ClassId) (b_p0_text : Nat → Int32) (p0_words : Nat) (c_p0_words : ClassId) (b_p0_words : Nat → Int64) (ho_p0 : OKX4 f_p0) (fr_p0_0 : q_rf f_p0 0 p0_words) (fr_p0_1 : q_rf f_p0 1 p0_text) (fr_p0_8 : q_rf f_p0 8 p0_draft) (ho_p0_draft : OKX5 f_p0_draft) (fr_p0_draft_12 : q_rf f_p0_draft 12 p0_draft_laws) (ho_p0_draft_laws : OKX3 f_p0_draft_laws) (fr_p0_draft_laws_0 : q_rf f_p0_draft_laws 0 p0_draft_laws_code) : Met l yX4_readAll zw_t_readAll7 ({ frames := 11, cells := 0, slots := 0, locals := 241 }) (va_Pc [.ref p0, .int 7] (q_pre (dC, dI) (zW_t_readAll7 p0 f_p0 p0_draft f_p0_draft p0_draft_laws f_p0_draft_laws p0_draft_laws_code c_p0_draft_laws_code b_p0_draft_laws_code p0_text c_p0_text b_p0_text p0_words c_p0_words b_p0_words) (zT_t_readAll7 c_p0_draft_laws_code c_p0_text c_p0_words) q_ex sz)) (q_Qi (dC, dI) (zG_t_readAll7 p0 f_p0 p0_draft f_p0_draft p0_draft_laws f_p0_draft_laws p0_draft_laws_code c_p0_draft_laws_code b_p0_draft_laws_code p0_text c_p0_text b_p0_text p0_words c_p0_words b_p0_words) (zA_t_readAll7 p0 p0_draft p0_draft_laws p0_draft_laws_code p0_text p0_words) (va_A (zW_t_readAll7 p0 f_p0 p0_draft f_p0_draft p0_draft_laws f_p0_draft_laws p0_draft_laws_code c_p0_draft_laws_code b_p0_draft_laws_code p0_text c_p0_text b_p0_text p0_words c_p0_words b_p0_words) sz)) 0 0 (va_A (zW_t_readAll7 p0 f_p0 p0_draft f_p0_draft p0_draft_laws f_p0_draft_laws p0_draft_laws_code c_p0_draft_laws_code b_p0_draft_laws_code p0_text c_p0_text b_p0_text p0_words c_p0_words b_p0_words) sz) := by
  refine Met.ofW (cc := cX4_readAll) (maxL := 4) (ret := (some .boolean)) (by decide) rfl ?_
  intro p e s m args below meth c s₁ B hml hv
  obtain ⟨rfl, hsz, hP, hK, hD0, hE⟩ := hv
  have hx := B.exec
  have hb := B.bytes
  have hr := B.returns
  have hts := atoms_spec (ws := zw_t_readAll7) B.pre
  have hown : s.vm.findClass RX4 = some m.cls := findClass_of_methodNamed B.named
  have hlocks := B.notSynchronized
  subst hsz
  have hD := hD0.self (sz := s.heap.size)
  generalize hAe : va_A (zW_t_readAll7 p0 f_p0 p0_draft f_p0_draft p0_draft_laws f_p0_draft_laws p0_draft_laws_code c_p0_draft_laws_code b_p0_draft_laws_code p0_text c_p0_text b_p0_text p0_words c_p0_words b_p0_words) s.heap.size = A at hD hE ⊢
  have hA : ∀ q : Nat, s.heap.size ≤ q → A q := fun q h => by rw [← hAe]; exact Or.inr h
  have hDa : q_DA A (zA_t_readAll7 p0 p0_draft p0_draft_laws p0_draft_laws_code p0_text p0_words) := q_DA.mk hD za_t_readAll7
  clear hAe hD0 hD
  have hS : va_S A s.heap s.heap [] := va_S.rf
  have m_0 : (.fieldLink RX4 28 "BowWalk$Reader" "token" "I" : Cond) ∈ zw_t_readAll7 := List.mem_append_left _ (List.mem_of_getElem? (i := 1) rfl)
  have k_0 := hts _ m_0
  have m_1 : (.methodLink RX4 78 yX4_step : Cond) ∈ zw_t_readAll7 := List.mem_append_left _ (List.mem_of_getElem? (i := 2) rfl)
  have k_1 := hts _ m_1
  have m_2 : (.instanceMethod yX4_step : Cond) ∈ zw_t_readAll7 := List.mem_append_left _ (List.mem_of_getElem? (i := 3) rfl)
  have k_2 := hts _ m_2
  have m_3 : (.selects RX4 yX4_step yX4_step : Cond) ∈ zw_t_readAll7 := List.mem_append_left _ (List.mem_of_getElem? (i := 4) rfl)
  have k_3 := hts _ m_3
  have m_4 : (.initialized RX4 : Cond) ∈ zw_t_readAll7 := List.mem_append_left _ (List.mem_of_getElem? (i := 5) rfl)
  have k_4 := hts _ m_4
  have m_5 : (.methodLink RX4 217 yX4_readOne : Cond) ∈ zw_t_readAll7 := List.mem_append_left _ (List.mem_of_getElem? (i := 6) rfl)
  have k_5 := hts _ m_5
  have m_6 : (.instanceMethod yX4_readOne : Cond) ∈ zw_t_readAll7 := List.mem_append_left _ (List.mem_of_getElem? (i := 7) rfl)
  have k_6 := hts _ m_6
  have m_7 : (.selects RX4 yX4_readOne yX4_readOne : Cond) ∈ zw_t_readAll7 := List.mem_append_left _ (List.mem_of_getElem? (i := 8) rfl)
  have k_7 := hts _ m_7
  have m_8 : (.methodLink RX4 214 yX4_putToken : Cond) ∈ zw_t_readAll7 := List.mem_append_left _ (List.mem_of_getElem? (i := 9) rfl)
  have k_8 := hts _ m_8
  have m_9 : (.instanceMethod yX4_putToken : Cond) ∈ zw_t_readAll7 := List.mem_append_left _ (List.mem_of_getElem? (i := 10) rfl)
  have k_9 := hts _ m_9
  have m_10 : (.selects RX4 yX4_putToken yX4_putToken : Cond) ∈ zw_t_readAll7 := List.mem_append_left _ (List.mem_of_getElem? (i := 11) rfl)
  have k_10 := hts _ m_10
  have g_t_step : ∀ w ∈ zw_t_step, w ∈ zw_t_readAll7 := fun w h => List.mem_append_right _ (List.mem_append_left _ h)
  have g_t_readOne7 : ∀ w ∈ zw_t_readOne7, w ∈ zw_t_readAll7 := fun w h => List.mem_append_right _ (List.mem_append_right _ (List.mem_append_left _ h))
  have g_t_putToken : ∀ w ∈ zw_t_putToken, w ∈ zw_t_readAll7 := fun w h => List.mem_append_right _ (List.mem_append_right _ (List.mem_append_right _ (List.mem_append_left _ h)))
  have i_X4 : ∀ w ∈ u_ws RX4 TX4 11, w ∈ zw_t_readAll7 := fun w h => List.mem_append_right _ (List.mem_append_right _ (List.mem_append_right _ (List.mem_append_right _ (List.mem_append_left _ h))))
  have lt_0 : (0 : Int32).toInt = 0 := by decide
  have lt_1 : (1 : Int32).toInt = 1 := by decide
  have lt_7 : (7 : Int32).toInt = 7 := by decide
  have lt_60 : (60 : Int32).toInt = 60 := by decide
  have lt_276 : (276 : Int32).toInt = 276 := by decide
  have hl := lv_entry ([.ref p0, .int 7]) (n := 4) (Nat.le_of_ble_eq_true rfl)
  rw [lg_entry_eq]
  generalize (lg_sl ([.ref p0, .int 7]) ++ List.replicate (4 - (lg_sl ([.ref p0, .int 7])).length) Slot.unset).toArray = ls at hl ⊢
  have hl : lv_has ls 4 [(0, .ref p0), (1, .int 7)] := hl
  have jn_2 : ∀ (fz_p0 : List Value) (fz_p0_draft_laws : List Value) (bz_p0_draft_laws_code : Nat → Int32) (j_1 : Int32) (H : Heap) (locs : List Loc) (ls : Array Slot) (ho_fz_p0 : OKX4 fz_p0) (hf_fz_p0 : q_fr [3, 4, 5, 6, 7, 9, 10] f_p0 fz_p0) (fr_fz_p0_0 : q_rf fz_p0 0 p0_words) (fr_fz_p0_1 : q_rf fz_p0 1 p0_text) (fr_fz_p0_8 : q_rf fz_p0 8 p0_draft) (ho_fz_p0_draft_laws : OKX3 fz_p0_draft_laws) (hf_fz_p0_draft_laws : q_fr [3, 5] f_p0_draft_laws fz_p0_draft_laws) (fr_fz_p0_draft_laws_0 : q_rf fz_p0_draft_laws 0 p0_draft_laws_code) (tj_1 : (0) ≤ j_1.toInt ∧ j_1.toInt ≤ 1), va_P (dC, dI) vwCl (zW_t_readAll7 p0 fz_p0 p0_draft f_p0_draft p0_draft_laws fz_p0_draft_laws p0_draft_laws_code c_p0_draft_laws_code bz_p0_draft_laws_code p0_text c_p0_text b_p0_text p0_words c_p0_words b_p0_words) H → va_S A s.heap H locs → lv_has ls 4 [(0, .ref p0), (1, .int 7)] → W p l e (headSpec zw_t_readAll7 { frames := 11, cells := 0, slots := 0, locals := 241 }).room s m ([.ref p0, .int 7] : List Value).toArray below meth c H locs 0 0 (MQ below (q_Qi (dC, dI) (zG_t_readAll7 p0 f_p0 p0_draft f_p0_draft p0_draft_laws f_p0_draft_laws p0_draft_laws_code c_p0_draft_laws_code b_p0_draft_laws_code p0_text c_p0_text b_p0_text p0_words c_p0_words b_p0_words) (zA_t_readAll7 p0 p0_draft p0_draft_laws p0_draft_laws_code p0_text p0_words) A) ([.ref p0, .int 7] : List Value).toArray s 0 0 A) (F0 m 5 ls [.int j_1]) := by
    intro fz_p0 fz_p0_draft_laws bz_p0_draft_laws_code j_1 H3 lo3 ls ho_fz_p0 hf_fz_p0 fr_fz_p0_0 fr_fz_p0_1 fr_fz_p0_8 ho_fz_p0_draft_laws hf_fz_p0_draft_laws fr_fz_p0_draft_laws_0 tj_1 hP3 hS3 hl
    refine lv_istore_n (lv' := [(2, .int j_1), (0, .ref p0), (1, .int 7)]) hx hb dX4_readAll_5 rfl hl (by decide) rfl (fun ls hl => ?_)
    refine lv_iconst (v := 0) hx hb dX4_readAll_6 (by decide) (lv_istore_n (lv' := [(3, .int 0), (2, .int j_1), (0, .ref p0), (1, .int 7)]) hx hb dX4_readAll_7 rfl hl (by decide) rfl (fun ls hl => ?_))
    have key8 : ∀ (fu8 : Nat) (rd : Int32) (n : Int32) (fz_p0 : List Value) (fz_p0_draft_laws : List Value) (bz_p0_draft_laws_code : Nat → Int32) (H : Heap) (locs : List Loc) (ls : Array Slot) (hfu8 : 60 - n.toInt ≤ (fu8 : Int)) (trd : (0) ≤ rd.toInt ∧ rd.toInt ≤ 1) (tn : (0) ≤ n.toInt ∧ n.toInt ≤ 60) (ho_fz_p0 : OKX4 fz_p0) (hf_fz_p0 : q_fr [3, 4, 5, 6, 7, 9, 10] f_p0 fz_p0) (fr_fz_p0_0 : q_rf fz_p0 0 p0_words) (fr_fz_p0_1 : q_rf fz_p0 1 p0_text) (fr_fz_p0_8 : q_rf fz_p0 8 p0_draft) (ho_fz_p0_draft_laws : OKX3 fz_p0_draft_laws) (hf_fz_p0_draft_laws : q_fr [3, 5] f_p0_draft_laws fz_p0_draft_laws) (fr_fz_p0_draft_laws_0 : q_rf fz_p0_draft_laws 0 p0_draft_laws_code), va_P (dC, dI) vwCl (zW_t_readAll7 p0 fz_p0 p0_draft f_p0_draft p0_draft_laws fz_p0_draft_laws p0_draft_laws_code c_p0_draft_laws_code bz_p0_draft_laws_code p0_text c_p0_text b_p0_text p0_words c_p0_words b_p0_words) H → va_S A s.heap H locs → lv_has ls 4 [(3, .int n), (2, .int rd), (0, .ref p0), (1, .int 7)] → W p l e (headSpec zw_t_readAll7 { frames := 11, cells := 0, slots := 0, locals := 241 }).room s m ([.ref p0, .int 7] : List Value).toArray below meth c H locs 0 0 (MQ below (q_Qi (dC, dI) (zG_t_readAll7 p0 f_p0 p0_draft f_p0_draft p0_draft_laws f_p0_draft_laws p0_draft_laws_code c_p0_draft_laws_code b_p0_draft_laws_code p0_text c_p0_text b_p0_text p0_words c_p0_words b_p0_words) (zA_t_readAll7 p0 p0_draft p0_draft_laws p0_draft_laws_code p0_text p0_words) A) ([.ref p0, .int 7] : List Value).toArray s 0 0 A) (F0 m 8 ls []) := by
      intro fu8
      induction fu8 using Nat.strongRecOn with
      | ind fu8 ih8 =>
        intro rd n fz_p0 fz_p0_draft_laws bz_p0_draft_laws_code H4 lo4 ls hfu8 trd tn ho_fz_p0 hf_fz_p0 fr_fz_p0_0 fr_fz_p0_1 fr_fz_p0_8 ho_fz_p0_draft_laws hf_fz_p0_draft_laws fr_fz_p0_draft_laws_0 hP4 hS4 hl
        refine lv_iload_n hx hb dX4_readAll_8 rfl (lv_at hl 0 rfl) (lv_bipush (v := 60) hx hb dX4_readAll_9 (by decide) ?_)
        refine lv_icmp_ge (tgt := 62) hx hb dX4_readAll_11 (by decide) (fun c_5 => ?_) (fun c_5 => ?_)
        · have tc_5 := q_ge c_5
          refine lv_iload_n hx hb dX4_readAll_62 rfl (lv_at hl 1 rfl) ?_
          rcases q_c2 (i := rd) (by omega) (by omega) with hb_6 | hb_6
          · exact q_zret hx hb hr hlocks (by rw [hb_6]; decide) hS4 dX4_readAll_63 ⟨fz_p0, fz_p0_draft_laws, bz_p0_draft_laws_code, (Or.inr ⟨hb_6, by first | trivial | omega⟩), ho_fz_p0, hf_fz_p0, ho_fz_p0_draft_laws, hf_fz_p0_draft_laws, hP4, za_t_readAll7⟩
          · exact q_zret hx hb hr hlocks (by rw [hb_6]; decide) hS4 dX4_readAll_63 ⟨fz_p0, fz_p0_draft_laws, bz_p0_draft_laws_code, (Or.inl ⟨hb_6, by first | trivial | omega⟩), ho_fz_p0, hf_fz_p0, ho_fz_p0_draft_laws, hf_fz_p0_draft_laws, hP4, za_t_readAll7⟩
        · have tc_5 := q_ltN c_5
          refine lv_iload_n hx hb dX4_readAll_14 rfl (lv_at hl 1 rfl) ?_
          refine lv_if_eq (tgt := 62) hx hb dX4_readAll_15 (by decide) (fun c_7 => ?_) (fun c_7 => ?_)
          · have tc_7 := q_eq c_7
            refine lv_iload_n hx hb dX4_readAll_62 rfl (lv_at hl 1 rfl) ?_
            rcases q_c2 (i := rd) (by omega) (by omega) with hb_8 | hb_8
            · exact q_zret hx hb hr hlocks (by rw [hb_8]; decide) hS4 dX4_readAll_63 ⟨fz_p0, fz_p0_draft_laws, bz_p0_draft_laws_code, (Or.inr ⟨hb_8, by first | trivial | omega⟩), ho_fz_p0, hf_fz_p0, ho_fz_p0_draft_laws, hf_fz_p0_draft_laws, hP4, za_t_readAll7⟩
            · exact q_zret hx hb hr hlocks (by rw [hb_8]; decide) hS4 dX4_readAll_63 ⟨fz_p0, fz_p0_draft_laws, bz_p0_draft_laws_code, (Or.inl ⟨hb_8, by first | trivial | omega⟩), ho_fz_p0, hf_fz_p0, ho_fz_p0_draft_laws, hf_fz_p0_draft_laws, hP4, za_t_readAll7⟩
          · have tc_7 := q_neN c_7
            refine lv_aload_n hx hb dX4_readAll_18 rfl (lv_at hl 2 rfl) ?_
            obtain ⟨v_9, fv_9⟩ := OKX4_g4 ho_fz_p0
            refine qg_X4_4 hx hb hts i_X4 hown hK hP4 0 rfl k_0 fv_9 dX4_readAll_19 (lv_sipush (v := 276) hx hb dX4_readAll_22 (by decide) ?_)
            refine lv_icmp_ne (tgt := 62) hx hb dX4_readAll_25 (by decide) (fun c_10 => ?_) (fun c_10 => ?_)
            · have tc_10 := q_ne c_10
              refine lv_iload_n hx hb dX4_readAll_62 rfl (lv_at hl 1 rfl) ?_
              rcases q_c2 (i := rd) (by omega) (by omega) with hb_11 | hb_11
              · exact q_zret hx hb hr hlocks (by rw [hb_11]; decide) hS4 dX4_readAll_63 ⟨fz_p0, fz_p0_draft_laws, bz_p0_draft_laws_code, (Or.inr ⟨hb_11, by first | trivial | omega⟩), ho_fz_p0, hf_fz_p0, ho_fz_p0_draft_laws, hf_fz_p0_draft_laws, hP4, za_t_readAll7⟩
              · exact q_zret hx hb hr hlocks (by rw [hb_11]; decide) hS4 dX4_readAll_63 ⟨fz_p0, fz_p0_draft_laws, bz_p0_draft_laws_code, (Or.inl ⟨hb_11, by first | trivial | omega⟩), ho_fz_p0, hf_fz_p0, ho_fz_p0_draft_laws, hf_fz_p0_draft_laws, hP4, za_t_readAll7⟩
            · have tc_10 := q_eqN c_10
              refine lv_aload_n hx hb dX4_readAll_28 rfl (lv_at hl 2 rfl) ?_
              refine q_cVv (As := []) (rest := []) q_exw hE hK hP4 hDa za_t_readAll7 hS4 hA [0, 4, 5] [1, 2] (by decide +kernel) ⟨hx, hb, hml, hown, hts⟩ (t_step l dC dI H4.size p0 fz_p0 p0_text c_p0_text b_p0_text p0_words c_p0_words b_p0_words ho_fz_p0 fr_fz_p0_0 fr_fz_p0_1) rfl rfl (cwV 0 hts (p1_gV m_1 m_2 m_3 m_4 g_t_step gz_t_step) rfl rfl rfl (by decide +kernel) ⟨by decide, by decide⟩) (va_recv hK hP4 (ci := 4) (q0 := 0) rfl rfl) zm_t_step rfl hl.1 rfl (Nat.le_of_ble_eq_true rfl) dX4_readAll_29 ⟨by decide, by decide⟩ (fun H13 lo13 hG13 hS13 => ?_)
              obtain ⟨o_14, ho_15, hf_16, hQ13⟩ := hG13
              have hP13 : va_P (dC, dI) vwCl (zW_t_readAll7 p0 o_14 p0_draft f_p0_draft p0_draft_laws fz_p0_draft_laws p0_draft_laws_code c_p0_draft_laws_code bz_p0_draft_laws_code p0_text c_p0_text b_p0_text p0_words c_p0_words b_p0_words) H13 := hQ13
              clear hQ13 hP4 hS4
              refine lv_aload_n hx hb dX4_readAll_32 rfl (lv_at hl 2 rfl) (lv_iload_n hx hb dX4_readAll_33 rfl (lv_at hl 3 rfl) ?_)
              refine q_cVi (As := [.int 7]) (rest := []) q_exw hE hK hP13 hDa za_t_readAll7 hS13 hA [0, 1, 2, 3, 4, 5] [0, 1, 2] (by decide +kernel) ⟨hx, hb, hml, hown, hts⟩ (t_readOne7 l dC dI H13.size p0 o_14 p0_draft f_p0_draft p0_draft_laws fz_p0_draft_laws p0_draft_laws_code c_p0_draft_laws_code bz_p0_draft_laws_code p0_text c_p0_text b_p0_text p0_words c_p0_words b_p0_words ho_15 ((hf_16.u (by decide) fr_fz_p0_0)) ((hf_16.u (by decide) fr_fz_p0_1)) ((hf_16.u (by decide) fr_fz_p0_8)) ho_p0_draft fr_p0_draft_12 ho_fz_p0_draft_laws fr_fz_p0_draft_laws_0) rfl rfl (cwV 1 hts (p1_gV m_5 m_6 m_7 m_4 g_t_readOne7 gz_t_readOne7) rfl rfl rfl (by decide +kernel) ⟨by decide, by decide⟩) (va_recv hK hP13 (ci := 4) (q0 := 0) rfl rfl) zm_t_readOne7 rfl hl.1 rfl (Nat.le_of_ble_eq_true rfl) dX4_readAll_34 ⟨by decide, by decide⟩ (fun r_17 H18 lo18 hG18 hS18 => ?_)
              obtain ⟨o_19, o_20, o_21, z_22, ho_23, hf_24, ho_25, hf_26, hQ18⟩ := hG18
              have hP18 : va_P (dC, dI) vwCl (zW_t_readAll7 p0 o_19 p0_draft f_p0_draft p0_draft_laws o_20 p0_draft_laws_code c_p0_draft_laws_code o_21 p0_text c_p0_text b_p0_text p0_words c_p0_words b_p0_words) H18 := hQ18
              clear hQ18 hP13 hS13
              rcases z_22 with ⟨rfl, z_22⟩ | ⟨rfl, z_22⟩
              · refine lv_if_eq (tgt := 54) hx hb dX4_readAll_37 (by decide) (fun c_27 => absurd c_27 (by decide)) (fun c_27 => ?_)
                refine lv_aload_n hx hb dX4_readAll_40 rfl (lv_at hl 2 rfl) (lv_sipush (v := 276) hx hb dX4_readAll_41 (by decide) ?_)
                refine q_cVi (As := [.int 276]) (rest := []) q_w0 trivial hK hP18 hDa za_t_readAll7 hS18 hA [0, 1, 2, 3] [0] (by decide +kernel) ⟨hx, hb, hml, hown, hts⟩ (t_putToken l dC dI H18.size p0 o_19 p0_draft f_p0_draft p0_draft_laws o_20 p0_draft_laws_code c_p0_draft_laws_code o_21 276 ho_23 ((hf_24.u (by decide) (hf_16.u (by decide) fr_fz_p0_8))) ho_p0_draft fr_p0_draft_12 ho_25 ((hf_26.u (by decide) fr_fz_p0_draft_laws_0))) rfl rfl (cwV 1 hts (p1_gV m_8 m_9 m_10 m_4 g_t_putToken gz_t_putToken) rfl rfl rfl (by decide +kernel) ⟨by decide, by decide⟩) (va_recv hK hP18 (ci := 4) (q0 := 0) rfl rfl) zm_t_putToken rfl hl.1 rfl (Nat.le_of_ble_eq_true rfl) dX4_readAll_44 ⟨by decide, by decide⟩ (fun r_28 H29 lo29 hG29 hS29 => ?_)
                obtain ⟨o_30, o_31, o_32, z_33, ho_34, hf_35, ho_36, hf_37, hQ29⟩ := hG29
                have hP29 : va_P (dC, dI) vwCl (zW_t_readAll7 p0 o_30 p0_draft f_p0_draft p0_draft_laws o_31 p0_draft_laws_code c_p0_draft_laws_code o_32 p0_text c_p0_text b_p0_text p0_words c_p0_words b_p0_words) H29 := hQ29
                clear hQ29 hP18 hS18
                rcases z_33 with ⟨rfl, z_33⟩ | ⟨rfl, z_33⟩
                · refine lv_if_eq (tgt := 54) hx hb dX4_readAll_47 (by decide) (fun c_38 => absurd c_38 (by decide)) (fun c_38 => ?_)
                  refine lv_iconst (v := 1) hx hb dX4_readAll_50 (by decide) (lv_goto (tgt := 55) hx hb dX4_readAll_51 (by decide) (lv_istore_n (lv' := [(2, .int 1), (3, .int n), (0, .ref p0), (1, .int 7)]) hx hb dX4_readAll_55 rfl hl (by decide) rfl (fun ls hl => ?_)))
                  obtain ⟨v_39, ev_39⟩ : ∃ y : Int32, y = n + 1 := ⟨_, rfl⟩
                  have tv_39 := q_add ev_39 (by omega) (by omega)
                  refine lv_iinc (v := v_39) (lv' := [(3, .int v_39), (2, .int 1), (0, .ref p0), (1, .int 7)]) hx hb dX4_readAll_56 hl (k := 1) rfl (by rw [ev_39]; rfl) (by decide) rfl (fun ls hl => ?_)
                  refine lv_goto (tgt := 8) hx hb dX4_readAll_59 (by decide) ?_
                  exact ih8 (fu8 - 1) (by omega) 1 v_39 o_30 o_31 o_32 _ _ _ (by omega) (by omega) (by omega) ho_34 (((hf_fz_p0.tr hf_16 (by decide)).tr hf_24 (by decide)).tr hf_35 (by decide)) (hf_35.u (by decide) (hf_24.u (by decide) (hf_16.u (by decide) fr_fz_p0_0))) (hf_35.u (by decide) (hf_24.u (by decide) (hf_16.u (by decide) fr_fz_p0_1))) (hf_35.u (by decide) (hf_24.u (by decide) (hf_16.u (by decide) fr_fz_p0_8))) ho_36 ((hf_fz_p0_draft_laws.tr hf_26 (by decide)).tr hf_37 (by decide)) (hf_37.u (by decide) (hf_26.u (by decide) fr_fz_p0_draft_laws_0)) hP29 hS29 (lv_sub hl [0, 1, 2, 3] rfl)
                · refine lv_if_eq (tgt := 54) hx hb dX4_readAll_47 (by decide) (fun c_40 => ?_) (fun c_40 => absurd c_40 (by decide))
                  refine lv_iconst (v := 0) hx hb dX4_readAll_54 (by decide) (lv_istore_n (lv' := [(2, .int 0), (3, .int n), (0, .ref p0), (1, .int 7)]) hx hb dX4_readAll_55 rfl hl (by decide) rfl (fun ls hl => ?_))
                  obtain ⟨v_41, ev_41⟩ : ∃ y : Int32, y = n + 1 := ⟨_, rfl⟩
                  have tv_41 := q_add ev_41 (by omega) (by omega)
                  refine lv_iinc (v := v_41) (lv' := [(3, .int v_41), (2, .int 0), (0, .ref p0), (1, .int 7)]) hx hb dX4_readAll_56 hl (k := 1) rfl (by rw [ev_41]; rfl) (by decide) rfl (fun ls hl => ?_)
                  refine lv_goto (tgt := 8) hx hb dX4_readAll_59 (by decide) ?_
                  exact ih8 (fu8 - 1) (by omega) 0 v_41 o_30 o_31 o_32 _ _ _ (by omega) (by omega) (by omega) ho_34 (((hf_fz_p0.tr hf_16 (by decide)).tr hf_24 (by decide)).tr hf_35 (by decide)) (hf_35.u (by decide) (hf_24.u (by decide) (hf_16.u (by decide) fr_fz_p0_0))) (hf_35.u (by decide) (hf_24.u (by decide) (hf_16.u (by decide) fr_fz_p0_1))) (hf_35.u (by decide) (hf_24.u (by decide) (hf_16.u (by decide) fr_fz_p0_8))) ho_36 ((hf_fz_p0_draft_laws.tr hf_26 (by decide)).tr hf_37 (by decide)) (hf_37.u (by decide) (hf_26.u (by decide) fr_fz_p0_draft_laws_0)) hP29 hS29 (lv_sub hl [0, 1, 2, 3] rfl)
              · refine lv_if_eq (tgt := 54) hx hb dX4_readAll_37 (by decide) (fun c_42 => ?_) (fun c_42 => absurd c_42 (by decide))
                refine lv_iconst (v := 0) hx hb dX4_readAll_54 (by decide) (lv_istore_n (lv' := [(2, .int 0), (3, .int n), (0, .ref p0), (1, .int 7)]) hx hb dX4_readAll_55 rfl hl (by decide) rfl (fun ls hl => ?_))
                obtain ⟨v_43, ev_43⟩ : ∃ y : Int32, y = n + 1 := ⟨_, rfl⟩
                have tv_43 := q_add ev_43 (by omega) (by omega)
                refine lv_iinc (v := v_43) (lv' := [(3, .int v_43), (2, .int 0), (0, .ref p0), (1, .int 7)]) hx hb dX4_readAll_56 hl (k := 1) rfl (by rw [ev_43]; rfl) (by decide) rfl (fun ls hl => ?_)
                refine lv_goto (tgt := 8) hx hb dX4_readAll_59 (by decide) ?_
                exact ih8 (fu8 - 1) (by omega) 0 v_43 o_19 o_20 o_21 _ _ _ (by omega) (by omega) (by omega) ho_23 ((hf_fz_p0.tr hf_16 (by decide)).tr hf_24 (by decide)) (hf_24.u (by decide) (hf_16.u (by decide) fr_fz_p0_0)) (hf_24.u (by decide) (hf_16.u (by decide) fr_fz_p0_1)) (hf_24.u (by decide) (hf_16.u (by decide) fr_fz_p0_8)) ho_25 (hf_fz_p0_draft_laws.tr hf_26 (by decide)) (hf_26.u (by decide) fr_fz_p0_draft_laws_0) hP18 hS18 (lv_sub hl [0, 1, 2, 3] rfl)
    exact key8 60 j_1 0 fz_p0 fz_p0_draft_laws bz_p0_draft_laws_code _ _ _ (by omega) (by omega) (by omega) ho_fz_p0 hf_fz_p0 fr_fz_p0_0 fr_fz_p0_1 fr_fz_p0_8 ho_fz_p0_draft_laws hf_fz_p0_draft_laws fr_fz_p0_draft_laws_0 hP3 hS3 (lv_sub hl [0, 1, 2, 3] rfl)
  refine lv_aload_n hx hb dX4_readAll_0 rfl (lv_at hl 0 rfl) (lv_iload_n hx hb dX4_readAll_1 rfl (lv_at hl 1 rfl) ?_)
  refine q_cVi (As := [.int 7]) (rest := []) q_exw hE hK hP hDa za_t_readAll7 hS hA [0, 1, 2, 3, 4, 5] [0, 1, 2] (by decide +kernel) ⟨hx, hb, hml, hown, hts⟩ (t_readOne7 l dC dI s.heap.size p0 f_p0 p0_draft f_p0_draft p0_draft_laws f_p0_draft_laws p0_draft_laws_code c_p0_draft_laws_code b_p0_draft_laws_code p0_text c_p0_text b_p0_text p0_words c_p0_words b_p0_words ho_p0 fr_p0_0 fr_p0_1 fr_p0_8 ho_p0_draft fr_p0_draft_12 ho_p0_draft_laws fr_p0_draft_laws_0) rfl rfl (cwV 1 hts (p1_gV m_5 m_6 m_7 m_4 g_t_readOne7 gz_t_readOne7) rfl rfl rfl (by decide +kernel) ⟨by decide, by decide⟩) (va_recv hK hP (ci := 4) (q0 := 0) rfl rfl) zm_t_readOne7 rfl hl.1 rfl (Nat.le_of_ble_eq_true rfl) dX4_readAll_2 ⟨by decide, by decide⟩ (fun r_44 H45 lo45 hG45 hS45 => ?_)
  obtain ⟨o_46, o_47, o_48, z_49, ho_50, hf_51, ho_52, hf_53, hQ45⟩ := hG45
  have hP45 : va_P (dC, dI) vwCl (zW_t_readAll7 p0 o_46 p0_draft f_p0_draft p0_draft_laws o_47 p0_draft_laws_code c_p0_draft_laws_code o_48 p0_text c_p0_text b_p0_text p0_words c_p0_words b_p0_words) H45 := hQ45
  clear hQ45 hP hS
  rcases z_49 with ⟨rfl, z_49⟩ | ⟨rfl, z_49⟩
  · exact jn_2 o_46 o_47 o_48 1 _ _ _ ho_50 (q_fr.rf.tr hf_51 (by decide)) (hf_51.u (by decide) fr_p0_0) (hf_51.u (by decide) fr_p0_1) (hf_51.u (by decide) fr_p0_8) ho_52 (q_fr.rf.tr hf_53 (by decide)) (hf_53.u (by decide) fr_p0_draft_laws_0) (by omega) hP45 hS45 (lv_sub hl [0, 1] rfl)
  · exact jn_2 o_46 o_47 o_48 0 _ _ _ ho_50 (q_fr.rf.tr hf_51 (by decide)) (hf_51.u (by decide) fr_p0_0) (hf_51.u (by decide) fr_p0_1) (hf_51.u (by decide) fr_p0_8) ho_52 (q_fr.rf.tr hf_53 (by decide)) (hf_53.u (by decide) fr_p0_draft_laws_0) (by omega) hP45 hS45 (lv_sub hl [0, 1] rfl)
def zo_t_readAny7 : List Cond := [.code yX4_readAny cX4_readAny 4 (some .boolean), .fieldLink RX4 28 "BowWalk$Reader" "token" "I", .methodLink RX4 78 yX4_step, .instanceMethod yX4_step, .selects RX4 yX4_step yX4_step, .initialized RX4, .methodLink RX4 211 yX4_readAll, .instanceMethod yX4_readAll, .selects RX4 yX4_readAll yX4_readAll, .methodLink RX4 214 yX4_putToken, .instanceMethod yX4_putToken, .selects RX4 yX4_putToken yX4_putToken]
def zw_t_readAny7 : List Cond := zo_t_readAny7 ++ (zw_t_step ++ (zw_t_readAll7 ++ (zw_t_putToken ++ (wsX40 ++ []))))
theorem gz_t_readAny7 : zw_t_readAny7.all goodWord = true := p1_ga (by decide +kernel) (p1_ga gz_t_step (p1_ga gz_t_readAll7 (p1_ga gz_t_putToken (p1_ga gk_X4 p1_g0))))
theorem iz_t_readAny7 : ∀ w ∈ zw_t_readAny7, w ∈ lw_tbl := p1_ia (p1_all [648, 311, 573, 575, 1, 105, 649, 651, 15, 676, 678, 21] (by decide +kernel)) (p1_ia iz_t_step (p1_ia iz_t_readAll7 (p1_ia iz_t_putToken (p1_ia ik_X4 p1_i0))))
def zW_t_readAny7 (p0 : Nat) (f_p0 : List Value) (p0_draft : Nat) (f_p0_draft : List Value) (p0_draft_laws : Nat) (f_p0_draft_laws : List Value) (p0_draft_laws_code : Nat) (c_p0_draft_laws_code : ClassId) (b_p0_draft_laws_code : Nat → Int32) (p0_text : Nat) (c_p0_text : ClassId) (b_p0_text : Nat → Int32) (p0_words : Nat) (c_p0_words : ClassId) (b_p0_words : Nat → Int64) : va_W := [(p0, .inr (4, f_p0)), (p0_draft, .inr (5, f_p0_draft)), (p0_draft_laws, .inr (3, f_p0_draft_laws)), (p0_draft_laws_code, .inl (c_p0_draft_laws_code, 600, .inl b_p0_draft_laws_code)), (p0_text, .inl (c_p0_text, 1600, .inl b_p0_text)), (p0_words, .inl (c_p0_words, 22, .inr (.inl b_p0_words)))]
def zT_t_readAny7 (c_p0_draft_laws_code : ClassId) (c_p0_text : ClassId) (c_p0_words : ClassId) : List (ClassId × FieldType) := [(c_p0_draft_laws_code, .int), (c_p0_text, .byte), (c_p0_words, .long)]
def zA_t_readAny7 (p0 : Nat) (p0_draft : Nat) (p0_draft_laws : Nat) (p0_draft_laws_code : Nat) (p0_text : Nat) (p0_words : Nat) : List Nat := [p0, p0_draft, p0_draft_laws, p0_draft_laws_code, p0_text, p0_words]
theorem za_t_readAny7 {p0 : Nat} {f_p0 : List Value} {p0_draft : Nat} {f_p0_draft : List Value} {p0_draft_laws : Nat} {f_p0_draft_laws : List Value} {p0_draft_laws_code : Nat} {c_p0_draft_laws_code : ClassId} {b_p0_draft_laws_code : Nat → Int32} {p0_text : Nat} {c_p0_text : ClassId} {b_p0_text : Nat → Int32} {p0_words : Nat} {c_p0_words : ClassId} {b_p0_words : Nat → Int64} : (zW_t_readAny7 p0 f_p0 p0_draft f_p0_draft p0_draft_laws f_p0_draft_laws p0_draft_laws_code c_p0_draft_laws_code b_p0_draft_laws_code p0_text c_p0_text b_p0_text p0_words c_p0_words b_p0_words).map Prod.fst = (zA_t_readAny7 p0 p0_draft p0_draft_laws p0_draft_laws_code p0_text p0_words) := rfl
def zG_t_readAny7 (p0 : Nat) (f_p0 : List Value) (p0_draft : Nat) (f_p0_draft : List Value) (p0_draft_laws : Nat) (f_p0_draft_laws : List Value) (p0_draft_laws_code : Nat) (c_p0_draft_laws_code : ClassId) (b_p0_draft_laws_code : Nat → Int32) (p0_text : Nat) (c_p0_text : ClassId) (b_p0_text : Nat → Int32) (p0_words : Nat) (c_p0_words : ClassId) (b_p0_words : Nat → Int64) (r : Int32) (X : va_W → Prop) : Prop := ∃ (y_p0 : List Value) (y_p0_draft_laws : List Value) (y_p0_draft_laws_code : Nat → Int32), ((r = 1 ∧ (True)) ∨ (r = 0 ∧ (True))) ∧ OKX4 y_p0 ∧ q_fr [3, 4, 5, 6, 7, 9, 10] f_p0 y_p0 ∧ OKX3 y_p0_draft_laws ∧ q_fr [3, 5] f_p0_draft_laws y_p0_draft_laws ∧ X (zW_t_readAny7 p0 y_p0 p0_draft f_p0_draft p0_draft_laws y_p0_draft_laws p0_draft_laws_code c_p0_draft_laws_code y_p0_draft_laws_code p0_text c_p0_text b_p0_text p0_words c_p0_words b_p0_words)
theorem zm_t_readAny7 {p0 : Nat} {f_p0 : List Value} {p0_draft : Nat} {f_p0_draft : List Value} {p0_draft_laws : Nat} {f_p0_draft_laws : List Value} {p0_draft_laws_code : Nat} {c_p0_draft_laws_code : ClassId} {b_p0_draft_laws_code : Nat → Int32} {p0_text : Nat} {c_p0_text : ClassId} {b_p0_text : Nat → Int32} {p0_words : Nat} {c_p0_words : ClassId} {b_p0_words : Nat → Int64} : ∀ (r : Int32), ∀ X Y : va_W → Prop, (∀ w, X w → Y w) → zG_t_readAny7 p0 f_p0 p0_draft f_p0_draft p0_draft_laws f_p0_draft_laws p0_draft_laws_code c_p0_draft_laws_code b_p0_draft_laws_code p0_text c_p0_text b_p0_text p0_words c_p0_words b_p0_words r X → zG_t_readAny7 p0 f_p0 p0_draft f_p0_draft p0_draft_laws f_p0_draft_laws p0_draft_laws_code c_p0_draft_laws_code b_p0_draft_laws_code p0_text c_p0_text b_p0_text p0_words c_p0_words b_p0_words r Y := fun r X Y h h1 => by obtain ⟨x0, x1, x2, x3, x4, x5, x6, x7, hx⟩ := h1; exact ⟨x0, x1, x2, x3, x4, x5, x6, x7, h _ hx⟩
set_option maxHeartbeats 4000000 in
set_option maxRecDepth 100000 in
theorem t_readAny7 (l : Launch) (dC : Nat → ClassId) (dI : Nat → Nat → Nat) (sz : Nat) (p0 : Nat) (f_p0 : List Value) (p0_draft : Nat) (f_p0_draft : List Value) (p0_draft_laws : Nat) (f_p0_draft_laws : List Value) (p0_draft_laws_code : Nat) (c_p0_draft_laws_code : ClassId) (b_p0_draft_laws_code : Nat → Int32) (p0_text : Nat) (c_p0_text : ClassId) (b_p0_text : Nat → Int32) (p0_words : Nat) (c_p0_words : ClassId) (b_p0_words : Nat → Int64) (ho_p0 : OKX4 f_p0) (fr_p0_0 : q_rf f_p0 0 p0_words) (fr_p0_1 : q_rf f_p0 1 p0_text) (fr_p0_8 : q_rf f_p0 8 p0_draft) (ho_p0_draft : OKX5 f_p0_draft) (fr_p0_draft_12 : q_rf f_p0_draft 12 p0_draft_laws) (ho_p0_draft_laws : OKX3 f_p0_draft_laws) (fr_p0_draft_laws_0 : q_rf f_p0_draft_laws 0 p0_draft_laws_code) : Met l yX4_readAny zw_t_readAny7 ({ frames := 12, cells := 0, slots := 0, locals := 264 }) (va_Pc [.ref p0, .int 7] (q_pre (dC, dI) (zW_t_readAny7 p0 f_p0 p0_draft f_p0_draft p0_draft_laws f_p0_draft_laws p0_draft_laws_code c_p0_draft_laws_code b_p0_draft_laws_code p0_text c_p0_text b_p0_text p0_words c_p0_words b_p0_words) (zT_t_readAny7 c_p0_draft_laws_code c_p0_text c_p0_words) q_ex sz)) (q_Qi (dC, dI) (zG_t_readAny7 p0 f_p0 p0_draft f_p0_draft p0_draft_laws f_p0_draft_laws p0_draft_laws_code c_p0_draft_laws_code b_p0_draft_laws_code p0_text c_p0_text b_p0_text p0_words c_p0_words b_p0_words) (zA_t_readAny7 p0 p0_draft p0_draft_laws p0_draft_laws_code p0_text p0_words) (va_A (zW_t_readAny7 p0 f_p0 p0_draft f_p0_draft p0_draft_laws f_p0_draft_laws p0_draft_laws_code c_p0_draft_laws_code b_p0_draft_laws_code p0_text c_p0_text b_p0_text p0_words c_p0_words b_p0_words) sz)) 0 0 (va_A (zW_t_readAny7 p0 f_p0 p0_draft f_p0_draft p0_draft_laws f_p0_draft_laws p0_draft_laws_code c_p0_draft_laws_code b_p0_draft_laws_code p0_text c_p0_text b_p0_text p0_words c_p0_words b_p0_words) sz) := by
  refine Met.ofW (cc := cX4_readAny) (maxL := 4) (ret := (some .boolean)) (by decide) rfl ?_
  intro p e s m args below meth c s₁ B hml hv
  obtain ⟨rfl, hsz, hP, hK, hD0, hE⟩ := hv
  have hx := B.exec
  have hb := B.bytes
  have hr := B.returns
  have hts := atoms_spec (ws := zw_t_readAny7) B.pre
  have hown : s.vm.findClass RX4 = some m.cls := findClass_of_methodNamed B.named
  have hlocks := B.notSynchronized
  subst hsz
  have hD := hD0.self (sz := s.heap.size)
  generalize hAe : va_A (zW_t_readAny7 p0 f_p0 p0_draft f_p0_draft p0_draft_laws f_p0_draft_laws p0_draft_laws_code c_p0_draft_laws_code b_p0_draft_laws_code p0_text c_p0_text b_p0_text p0_words c_p0_words b_p0_words) s.heap.size = A at hD hE ⊢
  have hA : ∀ q : Nat, s.heap.size ≤ q → A q := fun q h => by rw [← hAe]; exact Or.inr h
  have hDa : q_DA A (zA_t_readAny7 p0 p0_draft p0_draft_laws p0_draft_laws_code p0_text p0_words) := q_DA.mk hD za_t_readAny7
  clear hAe hD0 hD
  have hS : va_S A s.heap s.heap [] := va_S.rf
  have m_0 : (.fieldLink RX4 28 "BowWalk$Reader" "token" "I" : Cond) ∈ zw_t_readAny7 := List.mem_append_left _ (List.mem_of_getElem? (i := 1) rfl)
  have k_0 := hts _ m_0
  have m_1 : (.methodLink RX4 78 yX4_step : Cond) ∈ zw_t_readAny7 := List.mem_append_left _ (List.mem_of_getElem? (i := 2) rfl)
  have k_1 := hts _ m_1
  have m_2 : (.instanceMethod yX4_step : Cond) ∈ zw_t_readAny7 := List.mem_append_left _ (List.mem_of_getElem? (i := 3) rfl)
  have k_2 := hts _ m_2
  have m_3 : (.selects RX4 yX4_step yX4_step : Cond) ∈ zw_t_readAny7 := List.mem_append_left _ (List.mem_of_getElem? (i := 4) rfl)
  have k_3 := hts _ m_3
  have m_4 : (.initialized RX4 : Cond) ∈ zw_t_readAny7 := List.mem_append_left _ (List.mem_of_getElem? (i := 5) rfl)
  have k_4 := hts _ m_4
  have m_5 : (.methodLink RX4 211 yX4_readAll : Cond) ∈ zw_t_readAny7 := List.mem_append_left _ (List.mem_of_getElem? (i := 6) rfl)
  have k_5 := hts _ m_5
  have m_6 : (.instanceMethod yX4_readAll : Cond) ∈ zw_t_readAny7 := List.mem_append_left _ (List.mem_of_getElem? (i := 7) rfl)
  have k_6 := hts _ m_6
  have m_7 : (.selects RX4 yX4_readAll yX4_readAll : Cond) ∈ zw_t_readAny7 := List.mem_append_left _ (List.mem_of_getElem? (i := 8) rfl)
  have k_7 := hts _ m_7
  have m_8 : (.methodLink RX4 214 yX4_putToken : Cond) ∈ zw_t_readAny7 := List.mem_append_left _ (List.mem_of_getElem? (i := 9) rfl)
  have k_8 := hts _ m_8
  have m_9 : (.instanceMethod yX4_putToken : Cond) ∈ zw_t_readAny7 := List.mem_append_left _ (List.mem_of_getElem? (i := 10) rfl)
  have k_9 := hts _ m_9
  have m_10 : (.selects RX4 yX4_putToken yX4_putToken : Cond) ∈ zw_t_readAny7 := List.mem_append_left _ (List.mem_of_getElem? (i := 11) rfl)
  have k_10 := hts _ m_10
  have g_t_step : ∀ w ∈ zw_t_step, w ∈ zw_t_readAny7 := fun w h => List.mem_append_right _ (List.mem_append_left _ h)
  have g_t_readAll7 : ∀ w ∈ zw_t_readAll7, w ∈ zw_t_readAny7 := fun w h => List.mem_append_right _ (List.mem_append_right _ (List.mem_append_left _ h))
  have g_t_putToken : ∀ w ∈ zw_t_putToken, w ∈ zw_t_readAny7 := fun w h => List.mem_append_right _ (List.mem_append_right _ (List.mem_append_right _ (List.mem_append_left _ h)))
  have i_X4 : ∀ w ∈ u_ws RX4 TX4 11, w ∈ zw_t_readAny7 := fun w h => List.mem_append_right _ (List.mem_append_right _ (List.mem_append_right _ (List.mem_append_right _ (List.mem_append_left _ h))))
  have lt_0 : (0 : Int32).toInt = 0 := by decide
  have lt_1 : (1 : Int32).toInt = 1 := by decide
  have lt_7 : (7 : Int32).toInt = 7 := by decide
  have lt_60 : (60 : Int32).toInt = 60 := by decide
  have lt_275 : (275 : Int32).toInt = 275 := by decide
  have hl := lv_entry ([.ref p0, .int 7]) (n := 4) (Nat.le_of_ble_eq_true rfl)
  rw [lg_entry_eq]
  generalize (lg_sl ([.ref p0, .int 7]) ++ List.replicate (4 - (lg_sl ([.ref p0, .int 7])).length) Slot.unset).toArray = ls at hl ⊢
  have hl : lv_has ls 4 [(0, .ref p0), (1, .int 7)] := hl
  have jn_2 : ∀ (fz_p0 : List Value) (fz_p0_draft_laws : List Value) (bz_p0_draft_laws_code : Nat → Int32) (j_1 : Int32) (H : Heap) (locs : List Loc) (ls : Array Slot) (ho_fz_p0 : OKX4 fz_p0) (hf_fz_p0 : q_fr [3, 4, 5, 6, 7, 9, 10] f_p0 fz_p0) (fr_fz_p0_0 : q_rf fz_p0 0 p0_words) (fr_fz_p0_1 : q_rf fz_p0 1 p0_text) (fr_fz_p0_8 : q_rf fz_p0 8 p0_draft) (ho_fz_p0_draft_laws : OKX3 fz_p0_draft_laws) (hf_fz_p0_draft_laws : q_fr [3, 5] f_p0_draft_laws fz_p0_draft_laws) (fr_fz_p0_draft_laws_0 : q_rf fz_p0_draft_laws 0 p0_draft_laws_code) (tj_1 : (0) ≤ j_1.toInt ∧ j_1.toInt ≤ 1), va_P (dC, dI) vwCl (zW_t_readAny7 p0 fz_p0 p0_draft f_p0_draft p0_draft_laws fz_p0_draft_laws p0_draft_laws_code c_p0_draft_laws_code bz_p0_draft_laws_code p0_text c_p0_text b_p0_text p0_words c_p0_words b_p0_words) H → va_S A s.heap H locs → lv_has ls 4 [(0, .ref p0), (1, .int 7)] → W p l e (headSpec zw_t_readAny7 { frames := 12, cells := 0, slots := 0, locals := 264 }).room s m ([.ref p0, .int 7] : List Value).toArray below meth c H locs 0 0 (MQ below (q_Qi (dC, dI) (zG_t_readAny7 p0 f_p0 p0_draft f_p0_draft p0_draft_laws f_p0_draft_laws p0_draft_laws_code c_p0_draft_laws_code b_p0_draft_laws_code p0_text c_p0_text b_p0_text p0_words c_p0_words b_p0_words) (zA_t_readAny7 p0 p0_draft p0_draft_laws p0_draft_laws_code p0_text p0_words) A) ([.ref p0, .int 7] : List Value).toArray s 0 0 A) (F0 m 5 ls [.int j_1]) := by
    intro fz_p0 fz_p0_draft_laws bz_p0_draft_laws_code j_1 H3 lo3 ls ho_fz_p0 hf_fz_p0 fr_fz_p0_0 fr_fz_p0_1 fr_fz_p0_8 ho_fz_p0_draft_laws hf_fz_p0_draft_laws fr_fz_p0_draft_laws_0 tj_1 hP3 hS3 hl
    refine lv_istore_n (lv' := [(2, .int j_1), (0, .ref p0), (1, .int 7)]) hx hb dX4_readAny_5 rfl hl (by decide) rfl (fun ls hl => ?_)
    refine lv_iconst (v := 0) hx hb dX4_readAny_6 (by decide) (lv_istore_n (lv' := [(3, .int 0), (2, .int j_1), (0, .ref p0), (1, .int 7)]) hx hb dX4_readAny_7 rfl hl (by decide) rfl (fun ls hl => ?_))
    have key8 : ∀ (fu8 : Nat) (rd : Int32) (n : Int32) (fz_p0 : List Value) (fz_p0_draft_laws : List Value) (bz_p0_draft_laws_code : Nat → Int32) (H : Heap) (locs : List Loc) (ls : Array Slot) (hfu8 : 60 - n.toInt ≤ (fu8 : Int)) (trd : (0) ≤ rd.toInt ∧ rd.toInt ≤ 1) (tn : (0) ≤ n.toInt ∧ n.toInt ≤ 60) (ho_fz_p0 : OKX4 fz_p0) (hf_fz_p0 : q_fr [3, 4, 5, 6, 7, 9, 10] f_p0 fz_p0) (fr_fz_p0_0 : q_rf fz_p0 0 p0_words) (fr_fz_p0_1 : q_rf fz_p0 1 p0_text) (fr_fz_p0_8 : q_rf fz_p0 8 p0_draft) (ho_fz_p0_draft_laws : OKX3 fz_p0_draft_laws) (hf_fz_p0_draft_laws : q_fr [3, 5] f_p0_draft_laws fz_p0_draft_laws) (fr_fz_p0_draft_laws_0 : q_rf fz_p0_draft_laws 0 p0_draft_laws_code), va_P (dC, dI) vwCl (zW_t_readAny7 p0 fz_p0 p0_draft f_p0_draft p0_draft_laws fz_p0_draft_laws p0_draft_laws_code c_p0_draft_laws_code bz_p0_draft_laws_code p0_text c_p0_text b_p0_text p0_words c_p0_words b_p0_words) H → va_S A s.heap H locs → lv_has ls 4 [(3, .int n), (2, .int rd), (0, .ref p0), (1, .int 7)] → W p l e (headSpec zw_t_readAny7 { frames := 12, cells := 0, slots := 0, locals := 264 }).room s m ([.ref p0, .int 7] : List Value).toArray below meth c H locs 0 0 (MQ below (q_Qi (dC, dI) (zG_t_readAny7 p0 f_p0 p0_draft f_p0_draft p0_draft_laws f_p0_draft_laws p0_draft_laws_code c_p0_draft_laws_code b_p0_draft_laws_code p0_text c_p0_text b_p0_text p0_words c_p0_words b_p0_words) (zA_t_readAny7 p0 p0_draft p0_draft_laws p0_draft_laws_code p0_text p0_words) A) ([.ref p0, .int 7] : List Value).toArray s 0 0 A) (F0 m 8 ls []) := by
      intro fu8
      induction fu8 using Nat.strongRecOn with
      | ind fu8 ih8 =>
        intro rd n fz_p0 fz_p0_draft_laws bz_p0_draft_laws_code H4 lo4 ls hfu8 trd tn ho_fz_p0 hf_fz_p0 fr_fz_p0_0 fr_fz_p0_1 fr_fz_p0_8 ho_fz_p0_draft_laws hf_fz_p0_draft_laws fr_fz_p0_draft_laws_0 hP4 hS4 hl
        refine lv_iload_n hx hb dX4_readAny_8 rfl (lv_at hl 0 rfl) (lv_bipush (v := 60) hx hb dX4_readAny_9 (by decide) ?_)
        refine lv_icmp_ge (tgt := 62) hx hb dX4_readAny_11 (by decide) (fun c_5 => ?_) (fun c_5 => ?_)
        · have tc_5 := q_ge c_5
          refine lv_iload_n hx hb dX4_readAny_62 rfl (lv_at hl 1 rfl) ?_
          rcases q_c2 (i := rd) (by omega) (by omega) with hb_6 | hb_6
          · exact q_zret hx hb hr hlocks (by rw [hb_6]; decide) hS4 dX4_readAny_63 ⟨fz_p0, fz_p0_draft_laws, bz_p0_draft_laws_code, (Or.inr ⟨hb_6, by first | trivial | omega⟩), ho_fz_p0, hf_fz_p0, ho_fz_p0_draft_laws, hf_fz_p0_draft_laws, hP4, za_t_readAny7⟩
          · exact q_zret hx hb hr hlocks (by rw [hb_6]; decide) hS4 dX4_readAny_63 ⟨fz_p0, fz_p0_draft_laws, bz_p0_draft_laws_code, (Or.inl ⟨hb_6, by first | trivial | omega⟩), ho_fz_p0, hf_fz_p0, ho_fz_p0_draft_laws, hf_fz_p0_draft_laws, hP4, za_t_readAny7⟩
        · have tc_5 := q_ltN c_5
          refine lv_iload_n hx hb dX4_readAny_14 rfl (lv_at hl 1 rfl) ?_
          refine lv_if_eq (tgt := 62) hx hb dX4_readAny_15 (by decide) (fun c_7 => ?_) (fun c_7 => ?_)
          · have tc_7 := q_eq c_7
            refine lv_iload_n hx hb dX4_readAny_62 rfl (lv_at hl 1 rfl) ?_
            rcases q_c2 (i := rd) (by omega) (by omega) with hb_8 | hb_8
            · exact q_zret hx hb hr hlocks (by rw [hb_8]; decide) hS4 dX4_readAny_63 ⟨fz_p0, fz_p0_draft_laws, bz_p0_draft_laws_code, (Or.inr ⟨hb_8, by first | trivial | omega⟩), ho_fz_p0, hf_fz_p0, ho_fz_p0_draft_laws, hf_fz_p0_draft_laws, hP4, za_t_readAny7⟩
            · exact q_zret hx hb hr hlocks (by rw [hb_8]; decide) hS4 dX4_readAny_63 ⟨fz_p0, fz_p0_draft_laws, bz_p0_draft_laws_code, (Or.inl ⟨hb_8, by first | trivial | omega⟩), ho_fz_p0, hf_fz_p0, ho_fz_p0_draft_laws, hf_fz_p0_draft_laws, hP4, za_t_readAny7⟩
          · have tc_7 := q_neN c_7
            refine lv_aload_n hx hb dX4_readAny_18 rfl (lv_at hl 2 rfl) ?_
            obtain ⟨v_9, fv_9⟩ := OKX4_g4 ho_fz_p0
            refine qg_X4_4 hx hb hts i_X4 hown hK hP4 0 rfl k_0 fv_9 dX4_readAny_19 (lv_sipush (v := 275) hx hb dX4_readAny_22 (by decide) ?_)
            refine lv_icmp_ne (tgt := 62) hx hb dX4_readAny_25 (by decide) (fun c_10 => ?_) (fun c_10 => ?_)
            · have tc_10 := q_ne c_10
              refine lv_iload_n hx hb dX4_readAny_62 rfl (lv_at hl 1 rfl) ?_
              rcases q_c2 (i := rd) (by omega) (by omega) with hb_11 | hb_11
              · exact q_zret hx hb hr hlocks (by rw [hb_11]; decide) hS4 dX4_readAny_63 ⟨fz_p0, fz_p0_draft_laws, bz_p0_draft_laws_code, (Or.inr ⟨hb_11, by first | trivial | omega⟩), ho_fz_p0, hf_fz_p0, ho_fz_p0_draft_laws, hf_fz_p0_draft_laws, hP4, za_t_readAny7⟩
              · exact q_zret hx hb hr hlocks (by rw [hb_11]; decide) hS4 dX4_readAny_63 ⟨fz_p0, fz_p0_draft_laws, bz_p0_draft_laws_code, (Or.inl ⟨hb_11, by first | trivial | omega⟩), ho_fz_p0, hf_fz_p0, ho_fz_p0_draft_laws, hf_fz_p0_draft_laws, hP4, za_t_readAny7⟩
            · have tc_10 := q_eqN c_10
              refine lv_aload_n hx hb dX4_readAny_28 rfl (lv_at hl 2 rfl) ?_
              refine q_cVv (As := []) (rest := []) q_exw hE hK hP4 hDa za_t_readAny7 hS4 hA [0, 4, 5] [1, 2] (by decide +kernel) ⟨hx, hb, hml, hown, hts⟩ (t_step l dC dI H4.size p0 fz_p0 p0_text c_p0_text b_p0_text p0_words c_p0_words b_p0_words ho_fz_p0 fr_fz_p0_0 fr_fz_p0_1) rfl rfl (cwV 0 hts (p1_gV m_1 m_2 m_3 m_4 g_t_step gz_t_step) rfl rfl rfl (by decide +kernel) ⟨by decide, by decide⟩) (va_recv hK hP4 (ci := 4) (q0 := 0) rfl rfl) zm_t_step rfl hl.1 rfl (Nat.le_of_ble_eq_true rfl) dX4_readAny_29 ⟨by decide, by decide⟩ (fun H13 lo13 hG13 hS13 => ?_)
              obtain ⟨o_14, ho_15, hf_16, hQ13⟩ := hG13
              have hP13 : va_P (dC, dI) vwCl (zW_t_readAny7 p0 o_14 p0_draft f_p0_draft p0_draft_laws fz_p0_draft_laws p0_draft_laws_code c_p0_draft_laws_code bz_p0_draft_laws_code p0_text c_p0_text b_p0_text p0_words c_p0_words b_p0_words) H13 := hQ13
              clear hQ13 hP4 hS4
              refine lv_aload_n hx hb dX4_readAny_32 rfl (lv_at hl 2 rfl) (lv_iload_n hx hb dX4_readAny_33 rfl (lv_at hl 3 rfl) ?_)
              refine q_cVi (As := [.int 7]) (rest := []) q_exw hE hK hP13 hDa za_t_readAny7 hS13 hA [0, 1, 2, 3, 4, 5] [0, 1, 2] (by decide +kernel) ⟨hx, hb, hml, hown, hts⟩ (t_readAll7 l dC dI H13.size p0 o_14 p0_draft f_p0_draft p0_draft_laws fz_p0_draft_laws p0_draft_laws_code c_p0_draft_laws_code bz_p0_draft_laws_code p0_text c_p0_text b_p0_text p0_words c_p0_words b_p0_words ho_15 ((hf_16.u (by decide) fr_fz_p0_0)) ((hf_16.u (by decide) fr_fz_p0_1)) ((hf_16.u (by decide) fr_fz_p0_8)) ho_p0_draft fr_p0_draft_12 ho_fz_p0_draft_laws fr_fz_p0_draft_laws_0) rfl rfl (cwV 1 hts (p1_gV m_5 m_6 m_7 m_4 g_t_readAll7 gz_t_readAll7) rfl rfl rfl (by decide +kernel) ⟨by decide, by decide⟩) (va_recv hK hP13 (ci := 4) (q0 := 0) rfl rfl) zm_t_readAll7 rfl hl.1 rfl (Nat.le_of_ble_eq_true rfl) dX4_readAny_34 ⟨by decide, by decide⟩ (fun r_17 H18 lo18 hG18 hS18 => ?_)
              obtain ⟨o_19, o_20, o_21, z_22, ho_23, hf_24, ho_25, hf_26, hQ18⟩ := hG18
              have hP18 : va_P (dC, dI) vwCl (zW_t_readAny7 p0 o_19 p0_draft f_p0_draft p0_draft_laws o_20 p0_draft_laws_code c_p0_draft_laws_code o_21 p0_text c_p0_text b_p0_text p0_words c_p0_words b_p0_words) H18 := hQ18
              clear hQ18 hP13 hS13
              rcases z_22 with ⟨rfl, z_22⟩ | ⟨rfl, z_22⟩
              · refine lv_if_eq (tgt := 54) hx hb dX4_readAny_37 (by decide) (fun c_27 => absurd c_27 (by decide)) (fun c_27 => ?_)
                refine lv_aload_n hx hb dX4_readAny_40 rfl (lv_at hl 2 rfl) (lv_sipush (v := 275) hx hb dX4_readAny_41 (by decide) ?_)
                refine q_cVi (As := [.int 275]) (rest := []) q_w0 trivial hK hP18 hDa za_t_readAny7 hS18 hA [0, 1, 2, 3] [0] (by decide +kernel) ⟨hx, hb, hml, hown, hts⟩ (t_putToken l dC dI H18.size p0 o_19 p0_draft f_p0_draft p0_draft_laws o_20 p0_draft_laws_code c_p0_draft_laws_code o_21 275 ho_23 ((hf_24.u (by decide) (hf_16.u (by decide) fr_fz_p0_8))) ho_p0_draft fr_p0_draft_12 ho_25 ((hf_26.u (by decide) fr_fz_p0_draft_laws_0))) rfl rfl (cwV 1 hts (p1_gV m_8 m_9 m_10 m_4 g_t_putToken gz_t_putToken) rfl rfl rfl (by decide +kernel) ⟨by decide, by decide⟩) (va_recv hK hP18 (ci := 4) (q0 := 0) rfl rfl) zm_t_putToken rfl hl.1 rfl (Nat.le_of_ble_eq_true rfl) dX4_readAny_44 ⟨by decide, by decide⟩ (fun r_28 H29 lo29 hG29 hS29 => ?_)
                obtain ⟨o_30, o_31, o_32, z_33, ho_34, hf_35, ho_36, hf_37, hQ29⟩ := hG29
                have hP29 : va_P (dC, dI) vwCl (zW_t_readAny7 p0 o_30 p0_draft f_p0_draft p0_draft_laws o_31 p0_draft_laws_code c_p0_draft_laws_code o_32 p0_text c_p0_text b_p0_text p0_words c_p0_words b_p0_words) H29 := hQ29
                clear hQ29 hP18 hS18
                rcases z_33 with ⟨rfl, z_33⟩ | ⟨rfl, z_33⟩
                · refine lv_if_eq (tgt := 54) hx hb dX4_readAny_47 (by decide) (fun c_38 => absurd c_38 (by decide)) (fun c_38 => ?_)
                  refine lv_iconst (v := 1) hx hb dX4_readAny_50 (by decide) (lv_goto (tgt := 55) hx hb dX4_readAny_51 (by decide) (lv_istore_n (lv' := [(2, .int 1), (3, .int n), (0, .ref p0), (1, .int 7)]) hx hb dX4_readAny_55 rfl hl (by decide) rfl (fun ls hl => ?_)))
                  obtain ⟨v_39, ev_39⟩ : ∃ y : Int32, y = n + 1 := ⟨_, rfl⟩
                  have tv_39 := q_add ev_39 (by omega) (by omega)
                  refine lv_iinc (v := v_39) (lv' := [(3, .int v_39), (2, .int 1), (0, .ref p0), (1, .int 7)]) hx hb dX4_readAny_56 hl (k := 1) rfl (by rw [ev_39]; rfl) (by decide) rfl (fun ls hl => ?_)
                  refine lv_goto (tgt := 8) hx hb dX4_readAny_59 (by decide) ?_
                  exact ih8 (fu8 - 1) (by omega) 1 v_39 o_30 o_31 o_32 _ _ _ (by omega) (by omega) (by omega) ho_34 (((hf_fz_p0.tr hf_16 (by decide)).tr hf_24 (by decide)).tr hf_35 (by decide)) (hf_35.u (by decide) (hf_24.u (by decide) (hf_16.u (by decide) fr_fz_p0_0))) (hf_35.u (by decide) (hf_24.u (by decide) (hf_16.u (by decide) fr_fz_p0_1))) (hf_35.u (by decide) (hf_24.u (by decide) (hf_16.u (by decide) fr_fz_p0_8))) ho_36 ((hf_fz_p0_draft_laws.tr hf_26 (by decide)).tr hf_37 (by decide)) (hf_37.u (by decide) (hf_26.u (by decide) fr_fz_p0_draft_laws_0)) hP29 hS29 (lv_sub hl [0, 1, 2, 3] rfl)
                · refine lv_if_eq (tgt := 54) hx hb dX4_readAny_47 (by decide) (fun c_40 => ?_) (fun c_40 => absurd c_40 (by decide))
                  refine lv_iconst (v := 0) hx hb dX4_readAny_54 (by decide) (lv_istore_n (lv' := [(2, .int 0), (3, .int n), (0, .ref p0), (1, .int 7)]) hx hb dX4_readAny_55 rfl hl (by decide) rfl (fun ls hl => ?_))
                  obtain ⟨v_41, ev_41⟩ : ∃ y : Int32, y = n + 1 := ⟨_, rfl⟩
                  have tv_41 := q_add ev_41 (by omega) (by omega)
                  refine lv_iinc (v := v_41) (lv' := [(3, .int v_41), (2, .int 0), (0, .ref p0), (1, .int 7)]) hx hb dX4_readAny_56 hl (k := 1) rfl (by rw [ev_41]; rfl) (by decide) rfl (fun ls hl => ?_)
                  refine lv_goto (tgt := 8) hx hb dX4_readAny_59 (by decide) ?_
                  exact ih8 (fu8 - 1) (by omega) 0 v_41 o_30 o_31 o_32 _ _ _ (by omega) (by omega) (by omega) ho_34 (((hf_fz_p0.tr hf_16 (by decide)).tr hf_24 (by decide)).tr hf_35 (by decide)) (hf_35.u (by decide) (hf_24.u (by decide) (hf_16.u (by decide) fr_fz_p0_0))) (hf_35.u (by decide) (hf_24.u (by decide) (hf_16.u (by decide) fr_fz_p0_1))) (hf_35.u (by decide) (hf_24.u (by decide) (hf_16.u (by decide) fr_fz_p0_8))) ho_36 ((hf_fz_p0_draft_laws.tr hf_26 (by decide)).tr hf_37 (by decide)) (hf_37.u (by decide) (hf_26.u (by decide) fr_fz_p0_draft_laws_0)) hP29 hS29 (lv_sub hl [0, 1, 2, 3] rfl)
              · refine lv_if_eq (tgt := 54) hx hb dX4_readAny_37 (by decide) (fun c_42 => ?_) (fun c_42 => absurd c_42 (by decide))
                refine lv_iconst (v := 0) hx hb dX4_readAny_54 (by decide) (lv_istore_n (lv' := [(2, .int 0), (3, .int n), (0, .ref p0), (1, .int 7)]) hx hb dX4_readAny_55 rfl hl (by decide) rfl (fun ls hl => ?_))
                obtain ⟨v_43, ev_43⟩ : ∃ y : Int32, y = n + 1 := ⟨_, rfl⟩
                have tv_43 := q_add ev_43 (by omega) (by omega)
                refine lv_iinc (v := v_43) (lv' := [(3, .int v_43), (2, .int 0), (0, .ref p0), (1, .int 7)]) hx hb dX4_readAny_56 hl (k := 1) rfl (by rw [ev_43]; rfl) (by decide) rfl (fun ls hl => ?_)
                refine lv_goto (tgt := 8) hx hb dX4_readAny_59 (by decide) ?_
                exact ih8 (fu8 - 1) (by omega) 0 v_43 o_19 o_20 o_21 _ _ _ (by omega) (by omega) (by omega) ho_23 ((hf_fz_p0.tr hf_16 (by decide)).tr hf_24 (by decide)) (hf_24.u (by decide) (hf_16.u (by decide) fr_fz_p0_0)) (hf_24.u (by decide) (hf_16.u (by decide) fr_fz_p0_1)) (hf_24.u (by decide) (hf_16.u (by decide) fr_fz_p0_8)) ho_25 (hf_fz_p0_draft_laws.tr hf_26 (by decide)) (hf_26.u (by decide) fr_fz_p0_draft_laws_0) hP18 hS18 (lv_sub hl [0, 1, 2, 3] rfl)
    exact key8 60 j_1 0 fz_p0 fz_p0_draft_laws bz_p0_draft_laws_code _ _ _ (by omega) (by omega) (by omega) ho_fz_p0 hf_fz_p0 fr_fz_p0_0 fr_fz_p0_1 fr_fz_p0_8 ho_fz_p0_draft_laws hf_fz_p0_draft_laws fr_fz_p0_draft_laws_0 hP3 hS3 (lv_sub hl [0, 1, 2, 3] rfl)
  refine lv_aload_n hx hb dX4_readAny_0 rfl (lv_at hl 0 rfl) (lv_iload_n hx hb dX4_readAny_1 rfl (lv_at hl 1 rfl) ?_)
  refine q_cVi (As := [.int 7]) (rest := []) q_exw hE hK hP hDa za_t_readAny7 hS hA [0, 1, 2, 3, 4, 5] [0, 1, 2] (by decide +kernel) ⟨hx, hb, hml, hown, hts⟩ (t_readAll7 l dC dI s.heap.size p0 f_p0 p0_draft f_p0_draft p0_draft_laws f_p0_draft_laws p0_draft_laws_code c_p0_draft_laws_code b_p0_draft_laws_code p0_text c_p0_text b_p0_text p0_words c_p0_words b_p0_words ho_p0 fr_p0_0 fr_p0_1 fr_p0_8 ho_p0_draft fr_p0_draft_12 ho_p0_draft_laws fr_p0_draft_laws_0) rfl rfl (cwV 1 hts (p1_gV m_5 m_6 m_7 m_4 g_t_readAll7 gz_t_readAll7) rfl rfl rfl (by decide +kernel) ⟨by decide, by decide⟩) (va_recv hK hP (ci := 4) (q0 := 0) rfl rfl) zm_t_readAll7 rfl hl.1 rfl (Nat.le_of_ble_eq_true rfl) dX4_readAny_2 ⟨by decide, by decide⟩ (fun r_44 H45 lo45 hG45 hS45 => ?_)
  obtain ⟨o_46, o_47, o_48, z_49, ho_50, hf_51, ho_52, hf_53, hQ45⟩ := hG45
  have hP45 : va_P (dC, dI) vwCl (zW_t_readAny7 p0 o_46 p0_draft f_p0_draft p0_draft_laws o_47 p0_draft_laws_code c_p0_draft_laws_code o_48 p0_text c_p0_text b_p0_text p0_words c_p0_words b_p0_words) H45 := hQ45
  clear hQ45 hP hS
  rcases z_49 with ⟨rfl, z_49⟩ | ⟨rfl, z_49⟩
  · exact jn_2 o_46 o_47 o_48 1 _ _ _ ho_50 (q_fr.rf.tr hf_51 (by decide)) (hf_51.u (by decide) fr_p0_0) (hf_51.u (by decide) fr_p0_1) (hf_51.u (by decide) fr_p0_8) ho_52 (q_fr.rf.tr hf_53 (by decide)) (hf_53.u (by decide) fr_p0_draft_laws_0) (by omega) hP45 hS45 (lv_sub hl [0, 1] rfl)
  · exact jn_2 o_46 o_47 o_48 0 _ _ _ ho_50 (q_fr.rf.tr hf_51 (by decide)) (hf_51.u (by decide) fr_p0_0) (hf_51.u (by decide) fr_p0_1) (hf_51.u (by decide) fr_p0_8) ho_52 (q_fr.rf.tr hf_53 (by decide)) (hf_53.u (by decide) fr_p0_draft_laws_0) (by omega) hP45 hS45 (lv_sub hl [0, 1] rfl)
def zo_t_readUnit6 : List Cond := [.code yX4_readUnit cX4_readUnit 5 (some .boolean), .fieldLink RX4 28 "BowWalk$Reader" "token" "I", .methodLink RX4 232 yX6_isUnitWord, .static yX6_isUnitWord, .initialized RX6, .fieldLink RX4 44 "BowWalk$Reader" "draft" "LBowWalk$Shop;", .fieldLink RX4 89 "BowWalk$Shop" "laws" "LBowWalk$Laws;", .fieldLink RX4 235 "BowWalk$Laws" "units" "I", .methodLink RX4 124 yX4_refuse, .instanceMethod yX4_refuse, .selects RX4 yX4_refuse yX4_refuse, .initialized RX4, .methodLink RX4 214 yX4_putToken, .instanceMethod yX4_putToken, .selects RX4 yX4_putToken yX4_putToken, .methodLink RX4 78 yX4_step, .instanceMethod yX4_step, .selects RX4 yX4_step yX4_step, .methodLink RX4 145 yX4_readAny, .instanceMethod yX4_readAny, .selects RX4 yX4_readAny yX4_readAny, .methodLink RX4 142 yX4_take, .instanceMethod yX4_take, .selects RX4 yX4_take yX4_take, .fieldLink RX4 34 "BowWalk$Reader" "number" "I"]
def zw_t_readUnit6 : List Cond := zo_t_readUnit6 ++ (zw_t_isUnitWord ++ (zw_t_refuse ++ (zw_t_putToken ++ (zw_t_step ++ (zw_t_readAny7 ++ (zw_t_take ++ (wsX40 ++ (wsX50 ++ (wsX30 ++ [])))))))))
theorem gz_t_readUnit6 : zw_t_readUnit6.all goodWord = true := p1_ga (by decide +kernel) (p1_ga gz_t_isUnitWord (p1_ga gz_t_refuse (p1_ga gz_t_putToken (p1_ga gz_t_step (p1_ga gz_t_readAny7 (p1_ga gz_t_take (p1_ga gk_X4 (p1_ga gk_X5 (p1_ga gk_X3 p1_g0)))))))))
theorem iz_t_readUnit6 : ∀ w ∈ zw_t_readUnit6, w ∈ lw_tbl := p1_ia (p1_all [672, 311, 673, 674, 118, 315, 213, 156, 613, 615, 7, 105, 676, 678, 21, 573, 575, 1, 645, 647, 14, 629, 631, 10, 313] (by decide +kernel)) (p1_ia iz_t_isUnitWord (p1_ia iz_t_refuse (p1_ia iz_t_putToken (p1_ia iz_t_step (p1_ia iz_t_readAny7 (p1_ia iz_t_take (p1_ia ik_X4 (p1_ia ik_X5 (p1_ia ik_X3 p1_i0)))))))))
def zW_t_readUnit6 (p0 : Nat) (f_p0 : List Value) (p0_draft : Nat) (f_p0_draft : List Value) (p0_draft_laws : Nat) (f_p0_draft_laws : List Value) (p0_draft_laws_code : Nat) (c_p0_draft_laws_code : ClassId) (b_p0_draft_laws_code : Nat → Int32) (p0_text : Nat) (c_p0_text : ClassId) (b_p0_text : Nat → Int32) (p0_words : Nat) (c_p0_words : ClassId) (b_p0_words : Nat → Int64) : va_W := [(p0, .inr (4, f_p0)), (p0_draft, .inr (5, f_p0_draft)), (p0_draft_laws, .inr (3, f_p0_draft_laws)), (p0_draft_laws_code, .inl (c_p0_draft_laws_code, 600, .inl b_p0_draft_laws_code)), (p0_text, .inl (c_p0_text, 1600, .inl b_p0_text)), (p0_words, .inl (c_p0_words, 22, .inr (.inl b_p0_words)))]
def zT_t_readUnit6 (c_p0_draft_laws_code : ClassId) (c_p0_text : ClassId) (c_p0_words : ClassId) : List (ClassId × FieldType) := [(c_p0_draft_laws_code, .int), (c_p0_text, .byte), (c_p0_words, .long)]
def zA_t_readUnit6 (p0 : Nat) (p0_draft : Nat) (p0_draft_laws : Nat) (p0_draft_laws_code : Nat) (p0_text : Nat) (p0_words : Nat) : List Nat := [p0, p0_draft, p0_draft_laws, p0_draft_laws_code, p0_text, p0_words]
theorem za_t_readUnit6 {p0 : Nat} {f_p0 : List Value} {p0_draft : Nat} {f_p0_draft : List Value} {p0_draft_laws : Nat} {f_p0_draft_laws : List Value} {p0_draft_laws_code : Nat} {c_p0_draft_laws_code : ClassId} {b_p0_draft_laws_code : Nat → Int32} {p0_text : Nat} {c_p0_text : ClassId} {b_p0_text : Nat → Int32} {p0_words : Nat} {c_p0_words : ClassId} {b_p0_words : Nat → Int64} : (zW_t_readUnit6 p0 f_p0 p0_draft f_p0_draft p0_draft_laws f_p0_draft_laws p0_draft_laws_code c_p0_draft_laws_code b_p0_draft_laws_code p0_text c_p0_text b_p0_text p0_words c_p0_words b_p0_words).map Prod.fst = (zA_t_readUnit6 p0 p0_draft p0_draft_laws p0_draft_laws_code p0_text p0_words) := rfl
def zG_t_readUnit6 (p0 : Nat) (f_p0 : List Value) (p0_draft : Nat) (f_p0_draft : List Value) (p0_draft_laws : Nat) (f_p0_draft_laws : List Value) (p0_draft_laws_code : Nat) (c_p0_draft_laws_code : ClassId) (b_p0_draft_laws_code : Nat → Int32) (p0_text : Nat) (c_p0_text : ClassId) (b_p0_text : Nat → Int32) (p0_words : Nat) (c_p0_words : ClassId) (b_p0_words : Nat → Int64) (r : Int32) (X : va_W → Prop) : Prop := ∃ (y_p0 : List Value) (y_p0_draft_laws : List Value) (y_p0_draft_laws_code : Nat → Int32), ((r = 1 ∧ (True)) ∨ (r = 0 ∧ (True))) ∧ OKX4 y_p0 ∧ q_fr [3, 4, 5, 6, 7, 9, 10] f_p0 y_p0 ∧ OKX3 y_p0_draft_laws ∧ q_fr [3, 5] f_p0_draft_laws y_p0_draft_laws ∧ X (zW_t_readUnit6 p0 y_p0 p0_draft f_p0_draft p0_draft_laws y_p0_draft_laws p0_draft_laws_code c_p0_draft_laws_code y_p0_draft_laws_code p0_text c_p0_text b_p0_text p0_words c_p0_words b_p0_words)
theorem zm_t_readUnit6 {p0 : Nat} {f_p0 : List Value} {p0_draft : Nat} {f_p0_draft : List Value} {p0_draft_laws : Nat} {f_p0_draft_laws : List Value} {p0_draft_laws_code : Nat} {c_p0_draft_laws_code : ClassId} {b_p0_draft_laws_code : Nat → Int32} {p0_text : Nat} {c_p0_text : ClassId} {b_p0_text : Nat → Int32} {p0_words : Nat} {c_p0_words : ClassId} {b_p0_words : Nat → Int64} : ∀ (r : Int32), ∀ X Y : va_W → Prop, (∀ w, X w → Y w) → zG_t_readUnit6 p0 f_p0 p0_draft f_p0_draft p0_draft_laws f_p0_draft_laws p0_draft_laws_code c_p0_draft_laws_code b_p0_draft_laws_code p0_text c_p0_text b_p0_text p0_words c_p0_words b_p0_words r X → zG_t_readUnit6 p0 f_p0 p0_draft f_p0_draft p0_draft_laws f_p0_draft_laws p0_draft_laws_code c_p0_draft_laws_code b_p0_draft_laws_code p0_text c_p0_text b_p0_text p0_words c_p0_words b_p0_words r Y := fun r X Y h h1 => by obtain ⟨x0, x1, x2, x3, x4, x5, x6, x7, hx⟩ := h1; exact ⟨x0, x1, x2, x3, x4, x5, x6, x7, h _ hx⟩
set_option maxHeartbeats 4000000 in
set_option maxRecDepth 100000 in
theorem t_readUnit6 (l : Launch) (dC : Nat → ClassId) (dI : Nat → Nat → Nat) (sz : Nat) (p0 : Nat) (f_p0 : List Value) (p0_draft : Nat) (f_p0_draft : List Value) (p0_draft_laws : Nat) (f_p0_draft_laws : List Value) (p0_draft_laws_code : Nat) (c_p0_draft_laws_code : ClassId) (b_p0_draft_laws_code : Nat → Int32) (p0_text : Nat) (c_p0_text : ClassId) (b_p0_text : Nat → Int32) (p0_words : Nat) (c_p0_words : ClassId) (b_p0_words : Nat → Int64) (ho_p0 : OKX4 f_p0) (fr_p0_0 : q_rf f_p0 0 p0_words) (fr_p0_1 : q_rf f_p0 1 p0_text) (fr_p0_8 : q_rf f_p0 8 p0_draft) (ho_p0_draft : OKX5 f_p0_draft) (fr_p0_draft_12 : q_rf f_p0_draft 12 p0_draft_laws) (ho_p0_draft_laws : OKX3 f_p0_draft_laws) (fr_p0_draft_laws_0 : q_rf f_p0_draft_laws 0 p0_draft_laws_code) : Met l yX4_readUnit zw_t_readUnit6 ({ frames := 13, cells := 0, slots := 0, locals := 287 }) (va_Pc [.ref p0, .int 6] (q_pre (dC, dI) (zW_t_readUnit6 p0 f_p0 p0_draft f_p0_draft p0_draft_laws f_p0_draft_laws p0_draft_laws_code c_p0_draft_laws_code b_p0_draft_laws_code p0_text c_p0_text b_p0_text p0_words c_p0_words b_p0_words) (zT_t_readUnit6 c_p0_draft_laws_code c_p0_text c_p0_words) q_ex sz)) (q_Qi (dC, dI) (zG_t_readUnit6 p0 f_p0 p0_draft f_p0_draft p0_draft_laws f_p0_draft_laws p0_draft_laws_code c_p0_draft_laws_code b_p0_draft_laws_code p0_text c_p0_text b_p0_text p0_words c_p0_words b_p0_words) (zA_t_readUnit6 p0 p0_draft p0_draft_laws p0_draft_laws_code p0_text p0_words) (va_A (zW_t_readUnit6 p0 f_p0 p0_draft f_p0_draft p0_draft_laws f_p0_draft_laws p0_draft_laws_code c_p0_draft_laws_code b_p0_draft_laws_code p0_text c_p0_text b_p0_text p0_words c_p0_words b_p0_words) sz)) 0 0 (va_A (zW_t_readUnit6 p0 f_p0 p0_draft f_p0_draft p0_draft_laws f_p0_draft_laws p0_draft_laws_code c_p0_draft_laws_code b_p0_draft_laws_code p0_text c_p0_text b_p0_text p0_words c_p0_words b_p0_words) sz) := by
  refine Met.ofW (cc := cX4_readUnit) (maxL := 5) (ret := (some .boolean)) (by decide) rfl ?_
  intro p e s m args below meth c s₁ B hml hv
  obtain ⟨rfl, hsz, hP, hK, hD0, hE⟩ := hv
  have hx := B.exec
  have hb := B.bytes
  have hr := B.returns
  have hts := atoms_spec (ws := zw_t_readUnit6) B.pre
  have hown : s.vm.findClass RX4 = some m.cls := findClass_of_methodNamed B.named
  have hlocks := B.notSynchronized
  subst hsz
  have hD := hD0.self (sz := s.heap.size)
  generalize hAe : va_A (zW_t_readUnit6 p0 f_p0 p0_draft f_p0_draft p0_draft_laws f_p0_draft_laws p0_draft_laws_code c_p0_draft_laws_code b_p0_draft_laws_code p0_text c_p0_text b_p0_text p0_words c_p0_words b_p0_words) s.heap.size = A at hD hE ⊢
  have hA : ∀ q : Nat, s.heap.size ≤ q → A q := fun q h => by rw [← hAe]; exact Or.inr h
  have hDa : q_DA A (zA_t_readUnit6 p0 p0_draft p0_draft_laws p0_draft_laws_code p0_text p0_words) := q_DA.mk hD za_t_readUnit6
  clear hAe hD0 hD
  have hS : va_S A s.heap s.heap [] := va_S.rf
  have m_0 : (.fieldLink RX4 28 "BowWalk$Reader" "token" "I" : Cond) ∈ zw_t_readUnit6 := List.mem_append_left _ (List.mem_of_getElem? (i := 1) rfl)
  have k_0 := hts _ m_0
  have m_1 : (.methodLink RX4 232 yX6_isUnitWord : Cond) ∈ zw_t_readUnit6 := List.mem_append_left _ (List.mem_of_getElem? (i := 2) rfl)
  have k_1 := hts _ m_1
  have m_2 : (.static yX6_isUnitWord : Cond) ∈ zw_t_readUnit6 := List.mem_append_left _ (List.mem_of_getElem? (i := 3) rfl)
  have k_2 := hts _ m_2
  have m_3 : (.initialized RX6 : Cond) ∈ zw_t_readUnit6 := List.mem_append_left _ (List.mem_of_getElem? (i := 4) rfl)
  have k_3 := hts _ m_3
  have m_4 : (.fieldLink RX4 44 "BowWalk$Reader" "draft" "LBowWalk$Shop;" : Cond) ∈ zw_t_readUnit6 := List.mem_append_left _ (List.mem_of_getElem? (i := 5) rfl)
  have k_4 := hts _ m_4
  have m_5 : (.fieldLink RX4 89 "BowWalk$Shop" "laws" "LBowWalk$Laws;" : Cond) ∈ zw_t_readUnit6 := List.mem_append_left _ (List.mem_of_getElem? (i := 6) rfl)
  have k_5 := hts _ m_5
  have m_6 : (.fieldLink RX4 235 "BowWalk$Laws" "units" "I" : Cond) ∈ zw_t_readUnit6 := List.mem_append_left _ (List.mem_of_getElem? (i := 7) rfl)
  have k_6 := hts _ m_6
  have m_7 : (.methodLink RX4 124 yX4_refuse : Cond) ∈ zw_t_readUnit6 := List.mem_append_left _ (List.mem_of_getElem? (i := 8) rfl)
  have k_7 := hts _ m_7
  have m_8 : (.instanceMethod yX4_refuse : Cond) ∈ zw_t_readUnit6 := List.mem_append_left _ (List.mem_of_getElem? (i := 9) rfl)
  have k_8 := hts _ m_8
  have m_9 : (.selects RX4 yX4_refuse yX4_refuse : Cond) ∈ zw_t_readUnit6 := List.mem_append_left _ (List.mem_of_getElem? (i := 10) rfl)
  have k_9 := hts _ m_9
  have m_10 : (.initialized RX4 : Cond) ∈ zw_t_readUnit6 := List.mem_append_left _ (List.mem_of_getElem? (i := 11) rfl)
  have k_10 := hts _ m_10
  have m_11 : (.methodLink RX4 214 yX4_putToken : Cond) ∈ zw_t_readUnit6 := List.mem_append_left _ (List.mem_of_getElem? (i := 12) rfl)
  have k_11 := hts _ m_11
  have m_12 : (.instanceMethod yX4_putToken : Cond) ∈ zw_t_readUnit6 := List.mem_append_left _ (List.mem_of_getElem? (i := 13) rfl)
  have k_12 := hts _ m_12
  have m_13 : (.selects RX4 yX4_putToken yX4_putToken : Cond) ∈ zw_t_readUnit6 := List.mem_append_left _ (List.mem_of_getElem? (i := 14) rfl)
  have k_13 := hts _ m_13
  have m_14 : (.methodLink RX4 78 yX4_step : Cond) ∈ zw_t_readUnit6 := List.mem_append_left _ (List.mem_of_getElem? (i := 15) rfl)
  have k_14 := hts _ m_14
  have m_15 : (.instanceMethod yX4_step : Cond) ∈ zw_t_readUnit6 := List.mem_append_left _ (List.mem_of_getElem? (i := 16) rfl)
  have k_15 := hts _ m_15
  have m_16 : (.selects RX4 yX4_step yX4_step : Cond) ∈ zw_t_readUnit6 := List.mem_append_left _ (List.mem_of_getElem? (i := 17) rfl)
  have k_16 := hts _ m_16
  have m_17 : (.methodLink RX4 145 yX4_readAny : Cond) ∈ zw_t_readUnit6 := List.mem_append_left _ (List.mem_of_getElem? (i := 18) rfl)
  have k_17 := hts _ m_17
  have m_18 : (.instanceMethod yX4_readAny : Cond) ∈ zw_t_readUnit6 := List.mem_append_left _ (List.mem_of_getElem? (i := 19) rfl)
  have k_18 := hts _ m_18
  have m_19 : (.selects RX4 yX4_readAny yX4_readAny : Cond) ∈ zw_t_readUnit6 := List.mem_append_left _ (List.mem_of_getElem? (i := 20) rfl)
  have k_19 := hts _ m_19
  have m_20 : (.methodLink RX4 142 yX4_take : Cond) ∈ zw_t_readUnit6 := List.mem_append_left _ (List.mem_of_getElem? (i := 21) rfl)
  have k_20 := hts _ m_20
  have m_21 : (.instanceMethod yX4_take : Cond) ∈ zw_t_readUnit6 := List.mem_append_left _ (List.mem_of_getElem? (i := 22) rfl)
  have k_21 := hts _ m_21
  have m_22 : (.selects RX4 yX4_take yX4_take : Cond) ∈ zw_t_readUnit6 := List.mem_append_left _ (List.mem_of_getElem? (i := 23) rfl)
  have k_22 := hts _ m_22
  have m_23 : (.fieldLink RX4 34 "BowWalk$Reader" "number" "I" : Cond) ∈ zw_t_readUnit6 := List.mem_append_left _ (List.mem_of_getElem? (i := 24) rfl)
  have k_23 := hts _ m_23
  have g_t_isUnitWord : ∀ w ∈ zw_t_isUnitWord, w ∈ zw_t_readUnit6 := fun w h => List.mem_append_right _ (List.mem_append_left _ h)
  have g_t_refuse : ∀ w ∈ zw_t_refuse, w ∈ zw_t_readUnit6 := fun w h => List.mem_append_right _ (List.mem_append_right _ (List.mem_append_left _ h))
  have g_t_putToken : ∀ w ∈ zw_t_putToken, w ∈ zw_t_readUnit6 := fun w h => List.mem_append_right _ (List.mem_append_right _ (List.mem_append_right _ (List.mem_append_left _ h)))
  have g_t_step : ∀ w ∈ zw_t_step, w ∈ zw_t_readUnit6 := fun w h => List.mem_append_right _ (List.mem_append_right _ (List.mem_append_right _ (List.mem_append_right _ (List.mem_append_left _ h))))
  have g_t_readAny7 : ∀ w ∈ zw_t_readAny7, w ∈ zw_t_readUnit6 := fun w h => List.mem_append_right _ (List.mem_append_right _ (List.mem_append_right _ (List.mem_append_right _ (List.mem_append_right _ (List.mem_append_left _ h)))))
  have g_t_take : ∀ w ∈ zw_t_take, w ∈ zw_t_readUnit6 := fun w h => List.mem_append_right _ (List.mem_append_right _ (List.mem_append_right _ (List.mem_append_right _ (List.mem_append_right _ (List.mem_append_right _ (List.mem_append_left _ h))))))
  have i_X4 : ∀ w ∈ u_ws RX4 TX4 11, w ∈ zw_t_readUnit6 := fun w h => List.mem_append_right _ (List.mem_append_right _ (List.mem_append_right _ (List.mem_append_right _ (List.mem_append_right _ (List.mem_append_right _ (List.mem_append_right _ (List.mem_append_left _ h)))))))
  have i_X5 : ∀ w ∈ u_ws RX5 TX5 15, w ∈ zw_t_readUnit6 := fun w h => List.mem_append_right _ (List.mem_append_right _ (List.mem_append_right _ (List.mem_append_right _ (List.mem_append_right _ (List.mem_append_right _ (List.mem_append_right _ (List.mem_append_right _ (List.mem_append_left _ h))))))))
  have i_X3 : ∀ w ∈ u_ws RX3 TX3 6, w ∈ zw_t_readUnit6 := fun w h => List.mem_append_right _ (List.mem_append_right _ (List.mem_append_right _ (List.mem_append_right _ (List.mem_append_right _ (List.mem_append_right _ (List.mem_append_right _ (List.mem_append_right _ (List.mem_append_right _ (List.mem_append_left _ h)))))))))
  have lt_0 : (0 : Int32).toInt = 0 := by decide
  have lt_1 : (1 : Int32).toInt = 1 := by decide
  have lt_2 : (2 : Int32).toInt = 2 := by decide
  have lt_3 : (3 : Int32).toInt = 3 := by decide
  have lt_6 : (6 : Int32).toInt = 6 := by decide
  have lt_7 : (7 : Int32).toInt = 7 := by decide
  have lt_40 : (40 : Int32).toInt = 40 := by decide
  have lt_41 : (41 : Int32).toInt = 41 := by decide
  have lt_60 : (60 : Int32).toInt = 60 := by decide
  have lt_1000 : (1000 : Int32).toInt = 1000 := by decide
  have hl := lv_entry ([.ref p0, .int 6]) (n := 5) (Nat.le_of_ble_eq_true rfl)
  rw [lg_entry_eq]
  generalize (lg_sl ([.ref p0, .int 6]) ++ List.replicate (5 - (lg_sl ([.ref p0, .int 6])).length) Slot.unset).toArray = ls at hl ⊢
  have hl : lv_has ls 5 [(0, .ref p0), (1, .int 6)] := hl
  refine lv_aload_n hx hb dX4_readUnit_0 rfl (lv_at hl 0 rfl) ?_
  obtain ⟨v_1, fv_1⟩ := OKX4_g4 ho_p0
  refine qg_X4_4 hx hb hts i_X4 hown hK hP 0 rfl k_0 fv_1 dX4_readUnit_1 (lv_iconst (v := 3) hx hb dX4_readUnit_4 (by decide) ?_)
  refine lv_icmp_ne (tgt := 12) hx hb dX4_readUnit_5 (by decide) (fun c_2 => ?_) (fun c_2 => ?_)
  · have tc_2 := q_ne c_2
    refine lv_iconst (v := 0) hx hb dX4_readUnit_12 (by decide) (lv_istore_n (lv' := [(2, .int 0), (0, .ref p0), (1, .int 6)]) hx hb dX4_readUnit_13 rfl hl (by decide) rfl (fun ls hl => ?_))
    refine lv_aload_n hx hb dX4_readUnit_14 rfl (lv_at hl 1 rfl) (qg_X4_4 hx hb hts i_X4 hown hK hP 0 rfl k_0 fv_1 dX4_readUnit_15 (lv_bipush (v := 40) hx hb dX4_readUnit_18 (by decide) ?_))
    refine lv_icmp_ne (tgt := 27) hx hb dX4_readUnit_20 (by decide) (fun c_3 => ?_) (fun c_3 => ?_)
    · have tc_3 := q_ne c_3
      refine lv_iconst (v := 0) hx hb dX4_readUnit_27 (by decide) (lv_istore_n (lv' := [(3, .int 0), (2, .int 0), (0, .ref p0), (1, .int 6)]) hx hb dX4_readUnit_28 rfl hl (by decide) rfl (fun ls hl => ?_))
      refine lv_iload_n hx hb dX4_readUnit_29 rfl (lv_at hl 1 rfl) (lv_if_ne (tgt := 53) hx hb dX4_readUnit_30 (by decide) (fun c_4 => absurd c_4 (by decide)) (fun c_4 => ?_))
      refine lv_iload_n hx hb dX4_readUnit_33 rfl (lv_at hl 0 rfl) (lv_if_ne (tgt := 53) hx hb dX4_readUnit_34 (by decide) (fun c_5 => absurd c_5 (by decide)) (fun c_5 => ?_))
      refine lv_aload_n hx hb dX4_readUnit_37 rfl (lv_at hl 2 rfl) (qg_X4_4 hx hb hts i_X4 hown hK hP 0 rfl k_0 fv_1 dX4_readUnit_38 ?_)
      refine q_cSi (As := [.int v_1]) (rest := []) q_w0 trivial hK hP hDa za_t_readUnit6 hS hA [] [] (by decide +kernel) ⟨hx, hb, hml, hown, hts⟩ (t_isUnitWord l dC dI s.heap.size v_1) rfl rfl (va_cwS 1 hts (p1_gS m_1 m_2 m_3 g_t_isUnitWord gz_t_isUnitWord) rfl rfl rfl (by decide +kernel) ⟨by decide, by decide⟩) zm_t_isUnitWord rfl hl.1 rfl (Nat.le_of_ble_eq_true rfl) dX4_readUnit_41 ⟨by decide, by decide⟩ (fun r_6 H7 lo7 hG7 hS7 => ?_)
      obtain ⟨z_8, hQ7⟩ := hG7
      have hP7 : va_P (dC, dI) vwCl (zW_t_readUnit6 p0 f_p0 p0_draft f_p0_draft p0_draft_laws f_p0_draft_laws p0_draft_laws_code c_p0_draft_laws_code b_p0_draft_laws_code p0_text c_p0_text b_p0_text p0_words c_p0_words b_p0_words) H7 := hQ7
      clear hQ7 hP hS
      rcases z_8 with ⟨rfl, z_8⟩ | ⟨rfl, z_8⟩
      · refine lv_if_ne (tgt := 53) hx hb dX4_readUnit_44 (by decide) (fun c_9 => ?_) (fun c_9 => absurd c_9 (by decide))
        refine lv_aload_n hx hb dX4_readUnit_53 rfl (lv_at hl 2 rfl) (qg_X4_8 hx hb hts i_X4 hown hK hP7 0 rfl k_4 fr_p0_8 dX4_readUnit_54 (qg_X5_12 hx hb hts i_X5 hown hK hP7 1 rfl k_5 fr_p0_draft_12 dX4_readUnit_57 ?_))
        obtain ⟨v_10, fv_10⟩ := OKX3_g5 ho_p0_draft_laws
        refine qg_X3_5 hx hb hts i_X3 hown hK hP7 2 rfl k_6 fv_10 dX4_readUnit_60 (lv_bipush (v := 60) hx hb dX4_readUnit_63 (by decide) ?_)
        refine lv_icmp_ge (tgt := 78) hx hb dX4_readUnit_65 (by decide) (fun c_11 => ?_) (fun c_11 => ?_)
        · have tc_11 := q_ge c_11
          refine lv_aload_n hx hb dX4_readUnit_78 rfl (lv_at hl 2 rfl) (lv_iconst (v := 2) hx hb dX4_readUnit_79 (by decide) ?_)
          refine q_cVi (As := [.int 2]) (rest := []) q_w0 trivial hK hP7 hDa za_t_readUnit6 hS7 hA [0] [] (by decide +kernel) ⟨hx, hb, hml, hown, hts⟩ (t_refuse l dC dI H7.size p0 f_p0 2 ho_p0) rfl rfl (cwV 1 hts (p1_gV m_7 m_8 m_9 m_10 g_t_refuse gz_t_refuse) rfl rfl rfl (by decide +kernel) ⟨by decide, by decide⟩) (va_recv hK hP7 (ci := 4) (q0 := 0) rfl rfl) zm_t_refuse rfl hl.1 rfl (Nat.le_of_ble_eq_true rfl) dX4_readUnit_80 ⟨by decide, by decide⟩ (fun r_12 H13 lo13 hG13 hS13 => ?_)
          obtain ⟨o_14, z_15, ho_16, hf_17, hQ13⟩ := hG13
          have hP13 : va_P (dC, dI) vwCl (zW_t_readUnit6 p0 o_14 p0_draft f_p0_draft p0_draft_laws f_p0_draft_laws p0_draft_laws_code c_p0_draft_laws_code b_p0_draft_laws_code p0_text c_p0_text b_p0_text p0_words c_p0_words b_p0_words) H13 := hQ13
          clear hQ13 hP7 hS7
          rcases z_15 with ⟨rfl, z_15⟩ | ⟨rfl, z_15⟩
          · exact z_15.elim
          · exact q_zret hx hb hr hlocks (by decide) hS13 dX4_readUnit_83 ⟨o_14, f_p0_draft_laws, b_p0_draft_laws_code, (Or.inr ⟨rfl, by first | trivial | omega⟩), ho_16, (q_fr.rf.tr hf_17 (by decide)), ho_p0_draft_laws, q_fr.rf, hP13, za_t_readUnit6⟩
        · have tc_11 := q_ltN c_11
          refine lv_iload_n hx hb dX4_readUnit_68 rfl (lv_at hl 0 rfl) (lv_if_eq (tgt := 84) hx hb dX4_readUnit_69 (by decide) (fun c_18 => ?_) (fun c_18 => absurd c_18 (by decide)))
          refine lv_aload_n hx hb dX4_readUnit_84 rfl (lv_at hl 2 rfl) (qg_X4_8 hx hb hts i_X4 hown hK hP7 0 rfl k_4 fr_p0_8 dX4_readUnit_85 (qg_X5_12 hx hb hts i_X5 hown hK hP7 1 rfl k_5 fr_p0_draft_12 dX4_readUnit_88 (lv_dup hx hb dX4_readUnit_91 rfl (qg_X3_5 hx hb hts i_X3 hown hK hP7 2 rfl k_6 fv_10 dX4_readUnit_92 (lv_iconst (v := 1) hx hb dX4_readUnit_95 (by decide) (lv_iadd hx hb dX4_readUnit_96 (lv_topi fun v_19 ev_19 => ?_)))))))
          have tv_19 := q_add ev_19 (by have z0 := q_rng v_10; omega) (by have z0 := q_rng v_10; omega)
          refine qp_X3_5 hx hb hts i_X3 hown hK hP7 hDa za_t_readUnit6 hS7 2 rfl k_6 (OKX3_l ho_p0_draft_laws) dX4_readUnit_97 (fun H20 lo20 fs20 efs20 (hP20 : va_P (dC, dI) vwCl (zW_t_readUnit6 p0 f_p0 p0_draft f_p0_draft p0_draft_laws fs20 p0_draft_laws_code c_p0_draft_laws_code b_p0_draft_laws_code p0_text c_p0_text b_p0_text p0_words c_p0_words b_p0_words) H20) hS20 => ?_)
          have ho20 := OKX3_p5 ho_p0_draft_laws efs20
          clear hP7 hS7
          refine lv_iload_n hx hb dX4_readUnit_100 rfl (lv_at hl 1 rfl) (lv_if_eq (tgt := 115) hx hb dX4_readUnit_101 (by decide) (fun c_21 => ?_) (fun c_21 => absurd c_21 (by decide)))
          refine lv_aload_n hx hb dX4_readUnit_115 rfl (lv_at hl 2 rfl) (qg_X4_4 hx hb hts i_X4 hown hK hP20 0 rfl k_0 fv_1 dX4_readUnit_116 (lv_istore (lv' := [(4, .int v_1), (3, .int 0), (2, .int 0), (0, .ref p0), (1, .int 6)]) hx hb dX4_readUnit_119 hl (by decide) rfl (fun ls hl => ?_)))
          refine lv_iload_n hx hb dX4_readUnit_121 rfl (lv_at hl 1 rfl) (lv_if_ne (tgt := 136) hx hb dX4_readUnit_122 (by decide) (fun c_22 => absurd c_22 (by decide)) (fun c_22 => ?_))
          refine lv_aload_n hx hb dX4_readUnit_125 rfl (lv_at hl 3 rfl) (lv_iload hx hb dX4_readUnit_126 (lv_at hl 0 rfl) ?_)
          refine q_cVi (As := [.int v_1]) (rest := []) q_w0 trivial hK hP20 hDa za_t_readUnit6 hS20 hA [0, 1, 2, 3] [0] (by decide +kernel) ⟨hx, hb, hml, hown, hts⟩ (t_putToken l dC dI H20.size p0 f_p0 p0_draft f_p0_draft p0_draft_laws fs20 p0_draft_laws_code c_p0_draft_laws_code b_p0_draft_laws_code v_1 ho_p0 fr_p0_8 ho_p0_draft fr_p0_draft_12 ho20 ((q_sn efs20 (by decide) fr_p0_draft_laws_0))) rfl rfl (cwV 1 hts (p1_gV m_11 m_12 m_13 m_10 g_t_putToken gz_t_putToken) rfl rfl rfl (by decide +kernel) ⟨by decide, by decide⟩) (va_recv hK hP20 (ci := 4) (q0 := 0) rfl rfl) zm_t_putToken rfl hl.1 rfl (Nat.le_of_ble_eq_true rfl) dX4_readUnit_128 ⟨by decide, by decide⟩ (fun r_23 H24 lo24 hG24 hS24 => ?_)
          obtain ⟨o_25, o_26, o_27, z_28, ho_29, hf_30, ho_31, hf_32, hQ24⟩ := hG24
          have hP24 : va_P (dC, dI) vwCl (zW_t_readUnit6 p0 o_25 p0_draft f_p0_draft p0_draft_laws o_26 p0_draft_laws_code c_p0_draft_laws_code o_27 p0_text c_p0_text b_p0_text p0_words c_p0_words b_p0_words) H24 := hQ24
          clear hQ24 hP20 hS20
          rcases z_28 with ⟨rfl, z_28⟩ | ⟨rfl, z_28⟩
          · refine lv_if_ne (tgt := 136) hx hb dX4_readUnit_131 (by decide) (fun c_33 => ?_) (fun c_33 => absurd c_33 (by decide))
            refine lv_aload_n hx hb dX4_readUnit_136 rfl (lv_at hl 3 rfl) ?_
            refine q_cVv (As := []) (rest := []) q_exw hE hK hP24 hDa za_t_readUnit6 hS24 hA [0, 4, 5] [1, 2] (by decide +kernel) ⟨hx, hb, hml, hown, hts⟩ (t_step l dC dI H24.size p0 o_25 p0_text c_p0_text b_p0_text p0_words c_p0_words b_p0_words ho_29 ((hf_30.u (by decide) fr_p0_0)) ((hf_30.u (by decide) fr_p0_1))) rfl rfl (cwV 0 hts (p1_gV m_14 m_15 m_16 m_10 g_t_step gz_t_step) rfl rfl rfl (by decide +kernel) ⟨by decide, by decide⟩) (va_recv hK hP24 (ci := 4) (q0 := 0) rfl rfl) zm_t_step rfl hl.1 rfl (Nat.le_of_ble_eq_true rfl) dX4_readUnit_137 ⟨by decide, by decide⟩ (fun H35 lo35 hG35 hS35 => ?_)
            obtain ⟨o_36, ho_37, hf_38, hQ35⟩ := hG35
            have hP35 : va_P (dC, dI) vwCl (zW_t_readUnit6 p0 o_36 p0_draft f_p0_draft p0_draft_laws o_26 p0_draft_laws_code c_p0_draft_laws_code o_27 p0_text c_p0_text b_p0_text p0_words c_p0_words b_p0_words) H35 := hQ35
            clear hQ35 hP24 hS24
            refine lv_iload_n hx hb dX4_readUnit_140 rfl (lv_at hl 1 rfl) (lv_if_eq (tgt := 163) hx hb dX4_readUnit_141 (by decide) (fun c_39 => ?_) (fun c_39 => absurd c_39 (by decide)))
            refine lv_iconst (v := 1) hx hb dX4_readUnit_163 (by decide) (lv_goto (tgt := 168) hx hb dX4_readUnit_164 (by decide) ?_)
            exact q_zret hx hb hr hlocks (by decide) hS35 dX4_readUnit_168 ⟨o_36, o_26, o_27, (Or.inl ⟨rfl, by first | trivial | omega⟩), ho_37, ((q_fr.rf.tr hf_30 (by decide)).tr hf_38 (by decide)), ho_31, ((q_fr.rf.st efs20 (by decide)).tr hf_32 (by decide)), hP35, za_t_readUnit6⟩
          · refine lv_if_ne (tgt := 136) hx hb dX4_readUnit_131 (by decide) (fun c_40 => absurd c_40 (by decide)) (fun c_40 => ?_)
            refine lv_iconst (v := 0) hx hb dX4_readUnit_134 (by decide) ?_
            exact q_zret hx hb hr hlocks (by decide) hS24 dX4_readUnit_135 ⟨o_25, o_26, o_27, (Or.inr ⟨rfl, by first | trivial | omega⟩), ho_29, (q_fr.rf.tr hf_30 (by decide)), ho_31, ((q_fr.rf.st efs20 (by decide)).tr hf_32 (by decide)), hP24, za_t_readUnit6⟩
      · refine lv_if_ne (tgt := 53) hx hb dX4_readUnit_44 (by decide) (fun c_41 => absurd c_41 (by decide)) (fun c_41 => ?_)
        refine lv_aload_n hx hb dX4_readUnit_47 rfl (lv_at hl 2 rfl) (lv_iconst (v := 2) hx hb dX4_readUnit_48 (by decide) ?_)
        refine q_cVi (As := [.int 2]) (rest := []) q_w0 trivial hK hP7 hDa za_t_readUnit6 hS7 hA [0] [] (by decide +kernel) ⟨hx, hb, hml, hown, hts⟩ (t_refuse l dC dI H7.size p0 f_p0 2 ho_p0) rfl rfl (cwV 1 hts (p1_gV m_7 m_8 m_9 m_10 g_t_refuse gz_t_refuse) rfl rfl rfl (by decide +kernel) ⟨by decide, by decide⟩) (va_recv hK hP7 (ci := 4) (q0 := 0) rfl rfl) zm_t_refuse rfl hl.1 rfl (Nat.le_of_ble_eq_true rfl) dX4_readUnit_49 ⟨by decide, by decide⟩ (fun r_42 H43 lo43 hG43 hS43 => ?_)
        obtain ⟨o_44, z_45, ho_46, hf_47, hQ43⟩ := hG43
        have hP43 : va_P (dC, dI) vwCl (zW_t_readUnit6 p0 o_44 p0_draft f_p0_draft p0_draft_laws f_p0_draft_laws p0_draft_laws_code c_p0_draft_laws_code b_p0_draft_laws_code p0_text c_p0_text b_p0_text p0_words c_p0_words b_p0_words) H43 := hQ43
        clear hQ43 hP7 hS7
        rcases z_45 with ⟨rfl, z_45⟩ | ⟨rfl, z_45⟩
        · exact z_45.elim
        · exact q_zret hx hb hr hlocks (by decide) hS43 dX4_readUnit_52 ⟨o_44, f_p0_draft_laws, b_p0_draft_laws_code, (Or.inr ⟨rfl, by first | trivial | omega⟩), ho_46, (q_fr.rf.tr hf_47 (by decide)), ho_p0_draft_laws, q_fr.rf, hP43, za_t_readUnit6⟩
    · have tc_3 := q_eqN c_3
      refine lv_iconst (v := 1) hx hb dX4_readUnit_23 (by decide) (lv_goto (tgt := 28) hx hb dX4_readUnit_24 (by decide) (lv_istore_n (lv' := [(3, .int 1), (2, .int 0), (0, .ref p0), (1, .int 6)]) hx hb dX4_readUnit_28 rfl hl (by decide) rfl (fun ls hl => ?_)))
      refine lv_iload_n hx hb dX4_readUnit_29 rfl (lv_at hl 1 rfl) (lv_if_ne (tgt := 53) hx hb dX4_readUnit_30 (by decide) (fun c_48 => absurd c_48 (by decide)) (fun c_48 => ?_))
      refine lv_iload_n hx hb dX4_readUnit_33 rfl (lv_at hl 0 rfl) (lv_if_ne (tgt := 53) hx hb dX4_readUnit_34 (by decide) (fun c_49 => ?_) (fun c_49 => absurd c_49 (by decide)))
      refine lv_aload_n hx hb dX4_readUnit_53 rfl (lv_at hl 2 rfl) (qg_X4_8 hx hb hts i_X4 hown hK hP 0 rfl k_4 fr_p0_8 dX4_readUnit_54 (qg_X5_12 hx hb hts i_X5 hown hK hP 1 rfl k_5 fr_p0_draft_12 dX4_readUnit_57 ?_))
      obtain ⟨v_50, fv_50⟩ := OKX3_g5 ho_p0_draft_laws
      refine qg_X3_5 hx hb hts i_X3 hown hK hP 2 rfl k_6 fv_50 dX4_readUnit_60 (lv_bipush (v := 60) hx hb dX4_readUnit_63 (by decide) ?_)
      refine lv_icmp_ge (tgt := 78) hx hb dX4_readUnit_65 (by decide) (fun c_51 => ?_) (fun c_51 => ?_)
      · have tc_51 := q_ge c_51
        refine lv_aload_n hx hb dX4_readUnit_78 rfl (lv_at hl 2 rfl) (lv_iconst (v := 2) hx hb dX4_readUnit_79 (by decide) ?_)
        refine q_cVi (As := [.int 2]) (rest := []) q_w0 trivial hK hP hDa za_t_readUnit6 hS hA [0] [] (by decide +kernel) ⟨hx, hb, hml, hown, hts⟩ (t_refuse l dC dI s.heap.size p0 f_p0 2 ho_p0) rfl rfl (cwV 1 hts (p1_gV m_7 m_8 m_9 m_10 g_t_refuse gz_t_refuse) rfl rfl rfl (by decide +kernel) ⟨by decide, by decide⟩) (va_recv hK hP (ci := 4) (q0 := 0) rfl rfl) zm_t_refuse rfl hl.1 rfl (Nat.le_of_ble_eq_true rfl) dX4_readUnit_80 ⟨by decide, by decide⟩ (fun r_52 H53 lo53 hG53 hS53 => ?_)
        obtain ⟨o_54, z_55, ho_56, hf_57, hQ53⟩ := hG53
        have hP53 : va_P (dC, dI) vwCl (zW_t_readUnit6 p0 o_54 p0_draft f_p0_draft p0_draft_laws f_p0_draft_laws p0_draft_laws_code c_p0_draft_laws_code b_p0_draft_laws_code p0_text c_p0_text b_p0_text p0_words c_p0_words b_p0_words) H53 := hQ53
        clear hQ53 hP hS
        rcases z_55 with ⟨rfl, z_55⟩ | ⟨rfl, z_55⟩
        · exact z_55.elim
        · exact q_zret hx hb hr hlocks (by decide) hS53 dX4_readUnit_83 ⟨o_54, f_p0_draft_laws, b_p0_draft_laws_code, (Or.inr ⟨rfl, by first | trivial | omega⟩), ho_56, (q_fr.rf.tr hf_57 (by decide)), ho_p0_draft_laws, q_fr.rf, hP53, za_t_readUnit6⟩
      · have tc_51 := q_ltN c_51
        refine lv_iload_n hx hb dX4_readUnit_68 rfl (lv_at hl 0 rfl) (lv_if_eq (tgt := 84) hx hb dX4_readUnit_69 (by decide) (fun c_58 => absurd c_58 (by decide)) (fun c_58 => ?_))
        refine lv_iload_n hx hb dX4_readUnit_72 rfl (lv_at hl 3 rfl) (lv_bipush (v := 6) hx hb dX4_readUnit_73 (by decide) (lv_icmp_le (tgt := 84) hx hb dX4_readUnit_75 (by decide) (fun c_59 => ?_) (fun c_59 => absurd c_59 (by decide))))
        refine lv_aload_n hx hb dX4_readUnit_84 rfl (lv_at hl 2 rfl) (qg_X4_8 hx hb hts i_X4 hown hK hP 0 rfl k_4 fr_p0_8 dX4_readUnit_85 (qg_X5_12 hx hb hts i_X5 hown hK hP 1 rfl k_5 fr_p0_draft_12 dX4_readUnit_88 (lv_dup hx hb dX4_readUnit_91 rfl (qg_X3_5 hx hb hts i_X3 hown hK hP 2 rfl k_6 fv_50 dX4_readUnit_92 (lv_iconst (v := 1) hx hb dX4_readUnit_95 (by decide) (lv_iadd hx hb dX4_readUnit_96 (lv_topi fun v_60 ev_60 => ?_)))))))
        have tv_60 := q_add ev_60 (by have z0 := q_rng v_50; omega) (by have z0 := q_rng v_50; omega)
        refine qp_X3_5 hx hb hts i_X3 hown hK hP hDa za_t_readUnit6 hS 2 rfl k_6 (OKX3_l ho_p0_draft_laws) dX4_readUnit_97 (fun H61 lo61 fs61 efs61 (hP61 : va_P (dC, dI) vwCl (zW_t_readUnit6 p0 f_p0 p0_draft f_p0_draft p0_draft_laws fs61 p0_draft_laws_code c_p0_draft_laws_code b_p0_draft_laws_code p0_text c_p0_text b_p0_text p0_words c_p0_words b_p0_words) H61) hS61 => ?_)
        have ho61 := OKX3_p5 ho_p0_draft_laws efs61
        clear hP hS
        refine lv_iload_n hx hb dX4_readUnit_100 rfl (lv_at hl 1 rfl) (lv_if_eq (tgt := 115) hx hb dX4_readUnit_101 (by decide) (fun c_62 => ?_) (fun c_62 => absurd c_62 (by decide)))
        refine lv_aload_n hx hb dX4_readUnit_115 rfl (lv_at hl 2 rfl) (qg_X4_4 hx hb hts i_X4 hown hK hP61 0 rfl k_0 fv_1 dX4_readUnit_116 (lv_istore (lv' := [(4, .int v_1), (3, .int 1), (2, .int 0), (0, .ref p0), (1, .int 6)]) hx hb dX4_readUnit_119 hl (by decide) rfl (fun ls hl => ?_)))
        refine lv_iload_n hx hb dX4_readUnit_121 rfl (lv_at hl 1 rfl) (lv_if_ne (tgt := 136) hx hb dX4_readUnit_122 (by decide) (fun c_63 => ?_) (fun c_63 => absurd c_63 (by decide)))
        refine lv_aload_n hx hb dX4_readUnit_136 rfl (lv_at hl 3 rfl) ?_
        refine q_cVv (As := []) (rest := []) q_exw hE hK hP61 hDa za_t_readUnit6 hS61 hA [0, 4, 5] [1, 2] (by decide +kernel) ⟨hx, hb, hml, hown, hts⟩ (t_step l dC dI H61.size p0 f_p0 p0_text c_p0_text b_p0_text p0_words c_p0_words b_p0_words ho_p0 fr_p0_0 fr_p0_1) rfl rfl (cwV 0 hts (p1_gV m_14 m_15 m_16 m_10 g_t_step gz_t_step) rfl rfl rfl (by decide +kernel) ⟨by decide, by decide⟩) (va_recv hK hP61 (ci := 4) (q0 := 0) rfl rfl) zm_t_step rfl hl.1 rfl (Nat.le_of_ble_eq_true rfl) dX4_readUnit_137 ⟨by decide, by decide⟩ (fun H65 lo65 hG65 hS65 => ?_)
        obtain ⟨o_66, ho_67, hf_68, hQ65⟩ := hG65
        have hP65 : va_P (dC, dI) vwCl (zW_t_readUnit6 p0 o_66 p0_draft f_p0_draft p0_draft_laws fs61 p0_draft_laws_code c_p0_draft_laws_code b_p0_draft_laws_code p0_text c_p0_text b_p0_text p0_words c_p0_words b_p0_words) H65 := hQ65
        clear hQ65 hP61 hS61
        refine lv_iload_n hx hb dX4_readUnit_140 rfl (lv_at hl 1 rfl) (lv_if_eq (tgt := 163) hx hb dX4_readUnit_141 (by decide) (fun c_69 => absurd c_69 (by decide)) (fun c_69 => ?_))
        refine lv_aload_n hx hb dX4_readUnit_144 rfl (lv_at hl 3 rfl) (lv_iload_n hx hb dX4_readUnit_145 rfl (lv_at hl 4 rfl) (lv_iconst (v := 1) hx hb dX4_readUnit_146 (by decide) (lv_iadd hx hb dX4_readUnit_147 (lv_topi fun v_70 ev_70 => ?_))))
        obtain rfl : v_70 = 7 := ev_70.trans (by decide)
        refine q_cVi (As := [.int 7]) (rest := []) q_exw hE hK hP65 hDa za_t_readUnit6 hS65 hA [0, 1, 2, 3, 4, 5] [0, 1, 2] (by decide +kernel) ⟨hx, hb, hml, hown, hts⟩ (t_readAny7 l dC dI H65.size p0 o_66 p0_draft f_p0_draft p0_draft_laws fs61 p0_draft_laws_code c_p0_draft_laws_code b_p0_draft_laws_code p0_text c_p0_text b_p0_text p0_words c_p0_words b_p0_words ho_67 ((hf_68.u (by decide) fr_p0_0)) ((hf_68.u (by decide) fr_p0_1)) ((hf_68.u (by decide) fr_p0_8)) ho_p0_draft fr_p0_draft_12 ho61 ((q_sn efs61 (by decide) fr_p0_draft_laws_0))) rfl rfl (cwV 1 hts (p1_gV m_17 m_18 m_19 m_10 g_t_readAny7 gz_t_readAny7) rfl rfl rfl (by decide +kernel) ⟨by decide, by decide⟩) (va_recv hK hP65 (ci := 4) (q0 := 0) rfl rfl) zm_t_readAny7 rfl hl.1 rfl (Nat.le_of_ble_eq_true rfl) dX4_readUnit_148 ⟨by decide, by decide⟩ (fun r_71 H72 lo72 hG72 hS72 => ?_)
        obtain ⟨o_73, o_74, o_75, z_76, ho_77, hf_78, ho_79, hf_80, hQ72⟩ := hG72
        have hP72 : va_P (dC, dI) vwCl (zW_t_readUnit6 p0 o_73 p0_draft f_p0_draft p0_draft_laws o_74 p0_draft_laws_code c_p0_draft_laws_code o_75 p0_text c_p0_text b_p0_text p0_words c_p0_words b_p0_words) H72 := hQ72
        clear hQ72 hP65 hS65
        rcases z_76 with ⟨rfl, z_76⟩ | ⟨rfl, z_76⟩
        · refine lv_if_eq (tgt := 167) hx hb dX4_readUnit_151 (by decide) (fun c_81 => absurd c_81 (by decide)) (fun c_81 => ?_)
          refine lv_aload_n hx hb dX4_readUnit_154 rfl (lv_at hl 3 rfl) (lv_bipush (v := 41) hx hb dX4_readUnit_155 (by decide) ?_)
          refine q_cVi (As := [.int 41]) (rest := []) q_exw hE hK hP72 hDa za_t_readUnit6 hS72 hA [0, 4, 5] [1, 2] (by decide +kernel) ⟨hx, hb, hml, hown, hts⟩ (t_take l dC dI H72.size p0 o_73 p0_text c_p0_text b_p0_text p0_words c_p0_words b_p0_words 41 ho_77 ((hf_78.u (by decide) (hf_68.u (by decide) fr_p0_0))) ((hf_78.u (by decide) (hf_68.u (by decide) fr_p0_1)))) rfl rfl (cwV 1 hts (p1_gV m_20 m_21 m_22 m_10 g_t_take gz_t_take) rfl rfl rfl (by decide +kernel) ⟨by decide, by decide⟩) (va_recv hK hP72 (ci := 4) (q0 := 0) rfl rfl) zm_t_take rfl hl.1 rfl (Nat.le_of_ble_eq_true rfl) dX4_readUnit_157 ⟨by decide, by decide⟩ (fun r_82 H83 lo83 hG83 hS83 => ?_)
          obtain ⟨o_84, z_85, ho_86, hf_87, hQ83⟩ := hG83
          have hP83 : va_P (dC, dI) vwCl (zW_t_readUnit6 p0 o_84 p0_draft f_p0_draft p0_draft_laws o_74 p0_draft_laws_code c_p0_draft_laws_code o_75 p0_text c_p0_text b_p0_text p0_words c_p0_words b_p0_words) H83 := hQ83
          clear hQ83 hP72 hS72
          rcases z_85 with ⟨rfl, z_85⟩ | ⟨rfl, z_85⟩
          · refine lv_if_eq (tgt := 167) hx hb dX4_readUnit_160 (by decide) (fun c_88 => absurd c_88 (by decide)) (fun c_88 => ?_)
            refine lv_iconst (v := 1) hx hb dX4_readUnit_163 (by decide) (lv_goto (tgt := 168) hx hb dX4_readUnit_164 (by decide) ?_)
            exact q_zret hx hb hr hlocks (by decide) hS83 dX4_readUnit_168 ⟨o_84, o_74, o_75, (Or.inl ⟨rfl, by first | trivial | omega⟩), ho_86, (((q_fr.rf.tr hf_68 (by decide)).tr hf_78 (by decide)).tr hf_87 (by decide)), ho_79, ((q_fr.rf.st efs61 (by decide)).tr hf_80 (by decide)), hP83, za_t_readUnit6⟩
          · refine lv_if_eq (tgt := 167) hx hb dX4_readUnit_160 (by decide) (fun c_89 => ?_) (fun c_89 => absurd c_89 (by decide))
            refine lv_iconst (v := 0) hx hb dX4_readUnit_167 (by decide) ?_
            exact q_zret hx hb hr hlocks (by decide) hS83 dX4_readUnit_168 ⟨o_84, o_74, o_75, (Or.inr ⟨rfl, by first | trivial | omega⟩), ho_86, (((q_fr.rf.tr hf_68 (by decide)).tr hf_78 (by decide)).tr hf_87 (by decide)), ho_79, ((q_fr.rf.st efs61 (by decide)).tr hf_80 (by decide)), hP83, za_t_readUnit6⟩
        · refine lv_if_eq (tgt := 167) hx hb dX4_readUnit_151 (by decide) (fun c_90 => ?_) (fun c_90 => absurd c_90 (by decide))
          refine lv_iconst (v := 0) hx hb dX4_readUnit_167 (by decide) ?_
          exact q_zret hx hb hr hlocks (by decide) hS72 dX4_readUnit_168 ⟨o_73, o_74, o_75, (Or.inr ⟨rfl, by first | trivial | omega⟩), ho_77, ((q_fr.rf.tr hf_68 (by decide)).tr hf_78 (by decide)), ho_79, ((q_fr.rf.st efs61 (by decide)).tr hf_80 (by decide)), hP72, za_t_readUnit6⟩
  · have tc_2 := q_eqN c_2
    refine lv_iconst (v := 1) hx hb dX4_readUnit_8 (by decide) (lv_goto (tgt := 13) hx hb dX4_readUnit_9 (by decide) (lv_istore_n (lv' := [(2, .int 1), (0, .ref p0), (1, .int 6)]) hx hb dX4_readUnit_13 rfl hl (by decide) rfl (fun ls hl => ?_)))
    refine lv_aload_n hx hb dX4_readUnit_14 rfl (lv_at hl 1 rfl) (qg_X4_4 hx hb hts i_X4 hown hK hP 0 rfl k_0 fv_1 dX4_readUnit_15 (lv_bipush (v := 40) hx hb dX4_readUnit_18 (by decide) (lv_icmp_ne (tgt := 27) hx hb dX4_readUnit_20 (by decide) (fun c_91 => ?_) (fun c_91 => by exfalso; have t9 := q_eqN c_91; omega))))
    have tc_91 := q_ne c_91
    refine lv_iconst (v := 0) hx hb dX4_readUnit_27 (by decide) (lv_istore_n (lv' := [(3, .int 0), (2, .int 1), (0, .ref p0), (1, .int 6)]) hx hb dX4_readUnit_28 rfl hl (by decide) rfl (fun ls hl => ?_))
    refine lv_iload_n hx hb dX4_readUnit_29 rfl (lv_at hl 1 rfl) (lv_if_ne (tgt := 53) hx hb dX4_readUnit_30 (by decide) (fun c_92 => ?_) (fun c_92 => absurd c_92 (by decide)))
    refine lv_aload_n hx hb dX4_readUnit_53 rfl (lv_at hl 2 rfl) (qg_X4_8 hx hb hts i_X4 hown hK hP 0 rfl k_4 fr_p0_8 dX4_readUnit_54 (qg_X5_12 hx hb hts i_X5 hown hK hP 1 rfl k_5 fr_p0_draft_12 dX4_readUnit_57 ?_))
    obtain ⟨v_93, fv_93⟩ := OKX3_g5 ho_p0_draft_laws
    refine qg_X3_5 hx hb hts i_X3 hown hK hP 2 rfl k_6 fv_93 dX4_readUnit_60 (lv_bipush (v := 60) hx hb dX4_readUnit_63 (by decide) ?_)
    refine lv_icmp_ge (tgt := 78) hx hb dX4_readUnit_65 (by decide) (fun c_94 => ?_) (fun c_94 => ?_)
    · have tc_94 := q_ge c_94
      refine lv_aload_n hx hb dX4_readUnit_78 rfl (lv_at hl 2 rfl) (lv_iconst (v := 2) hx hb dX4_readUnit_79 (by decide) ?_)
      refine q_cVi (As := [.int 2]) (rest := []) q_w0 trivial hK hP hDa za_t_readUnit6 hS hA [0] [] (by decide +kernel) ⟨hx, hb, hml, hown, hts⟩ (t_refuse l dC dI s.heap.size p0 f_p0 2 ho_p0) rfl rfl (cwV 1 hts (p1_gV m_7 m_8 m_9 m_10 g_t_refuse gz_t_refuse) rfl rfl rfl (by decide +kernel) ⟨by decide, by decide⟩) (va_recv hK hP (ci := 4) (q0 := 0) rfl rfl) zm_t_refuse rfl hl.1 rfl (Nat.le_of_ble_eq_true rfl) dX4_readUnit_80 ⟨by decide, by decide⟩ (fun r_95 H96 lo96 hG96 hS96 => ?_)
      obtain ⟨o_97, z_98, ho_99, hf_100, hQ96⟩ := hG96
      have hP96 : va_P (dC, dI) vwCl (zW_t_readUnit6 p0 o_97 p0_draft f_p0_draft p0_draft_laws f_p0_draft_laws p0_draft_laws_code c_p0_draft_laws_code b_p0_draft_laws_code p0_text c_p0_text b_p0_text p0_words c_p0_words b_p0_words) H96 := hQ96
      clear hQ96 hP hS
      rcases z_98 with ⟨rfl, z_98⟩ | ⟨rfl, z_98⟩
      · exact z_98.elim
      · exact q_zret hx hb hr hlocks (by decide) hS96 dX4_readUnit_83 ⟨o_97, f_p0_draft_laws, b_p0_draft_laws_code, (Or.inr ⟨rfl, by first | trivial | omega⟩), ho_99, (q_fr.rf.tr hf_100 (by decide)), ho_p0_draft_laws, q_fr.rf, hP96, za_t_readUnit6⟩
    · have tc_94 := q_ltN c_94
      refine lv_iload_n hx hb dX4_readUnit_68 rfl (lv_at hl 0 rfl) (lv_if_eq (tgt := 84) hx hb dX4_readUnit_69 (by decide) (fun c_101 => ?_) (fun c_101 => absurd c_101 (by decide)))
      refine lv_aload_n hx hb dX4_readUnit_84 rfl (lv_at hl 2 rfl) (qg_X4_8 hx hb hts i_X4 hown hK hP 0 rfl k_4 fr_p0_8 dX4_readUnit_85 (qg_X5_12 hx hb hts i_X5 hown hK hP 1 rfl k_5 fr_p0_draft_12 dX4_readUnit_88 (lv_dup hx hb dX4_readUnit_91 rfl (qg_X3_5 hx hb hts i_X3 hown hK hP 2 rfl k_6 fv_93 dX4_readUnit_92 (lv_iconst (v := 1) hx hb dX4_readUnit_95 (by decide) (lv_iadd hx hb dX4_readUnit_96 (lv_topi fun v_102 ev_102 => ?_)))))))
      have tv_102 := q_add ev_102 (by have z0 := q_rng v_93; omega) (by have z0 := q_rng v_93; omega)
      refine qp_X3_5 hx hb hts i_X3 hown hK hP hDa za_t_readUnit6 hS 2 rfl k_6 (OKX3_l ho_p0_draft_laws) dX4_readUnit_97 (fun H103 lo103 fs103 efs103 (hP103 : va_P (dC, dI) vwCl (zW_t_readUnit6 p0 f_p0 p0_draft f_p0_draft p0_draft_laws fs103 p0_draft_laws_code c_p0_draft_laws_code b_p0_draft_laws_code p0_text c_p0_text b_p0_text p0_words c_p0_words b_p0_words) H103) hS103 => ?_)
      have ho103 := OKX3_p5 ho_p0_draft_laws efs103
      clear hP hS
      refine lv_iload_n hx hb dX4_readUnit_100 rfl (lv_at hl 1 rfl) (lv_if_eq (tgt := 115) hx hb dX4_readUnit_101 (by decide) (fun c_104 => absurd c_104 (by decide)) (fun c_104 => ?_))
      refine lv_sipush (v := 1000) hx hb dX4_readUnit_104 (by decide) (lv_aload_n hx hb dX4_readUnit_107 rfl (lv_at hl 2 rfl) ?_)
      obtain ⟨v_105, fv_105⟩ := OKX4_g6 ho_p0
      refine qg_X4_6 hx hb hts i_X4 hown hK hP103 0 rfl k_23 fv_105 dX4_readUnit_108 (lv_iadd hx hb dX4_readUnit_111 (lv_topi fun v_106 ev_106 => lv_goto (tgt := 119) hx hb dX4_readUnit_112 (by decide) (lv_istore (lv' := [(4, .int v_106), (3, .int 0), (2, .int 1), (0, .ref p0), (1, .int 6)]) hx hb dX4_readUnit_119 hl (by decide) rfl (fun ls hl => ?_))))
      refine lv_iload_n hx hb dX4_readUnit_121 rfl (lv_at hl 1 rfl) (lv_if_ne (tgt := 136) hx hb dX4_readUnit_122 (by decide) (fun c_107 => absurd c_107 (by decide)) (fun c_107 => ?_))
      refine lv_aload_n hx hb dX4_readUnit_125 rfl (lv_at hl 3 rfl) (lv_iload hx hb dX4_readUnit_126 (lv_at hl 0 rfl) ?_)
      refine q_cVi (As := [.int v_106]) (rest := []) q_w0 trivial hK hP103 hDa za_t_readUnit6 hS103 hA [0, 1, 2, 3] [0] (by decide +kernel) ⟨hx, hb, hml, hown, hts⟩ (t_putToken l dC dI H103.size p0 f_p0 p0_draft f_p0_draft p0_draft_laws fs103 p0_draft_laws_code c_p0_draft_laws_code b_p0_draft_laws_code v_106 ho_p0 fr_p0_8 ho_p0_draft fr_p0_draft_12 ho103 ((q_sn efs103 (by decide) fr_p0_draft_laws_0))) rfl rfl (cwV 1 hts (p1_gV m_11 m_12 m_13 m_10 g_t_putToken gz_t_putToken) rfl rfl rfl (by decide +kernel) ⟨by decide, by decide⟩) (va_recv hK hP103 (ci := 4) (q0 := 0) rfl rfl) zm_t_putToken rfl hl.1 rfl (Nat.le_of_ble_eq_true rfl) dX4_readUnit_128 ⟨by decide, by decide⟩ (fun r_108 H109 lo109 hG109 hS109 => ?_)
      obtain ⟨o_110, o_111, o_112, z_113, ho_114, hf_115, ho_116, hf_117, hQ109⟩ := hG109
      have hP109 : va_P (dC, dI) vwCl (zW_t_readUnit6 p0 o_110 p0_draft f_p0_draft p0_draft_laws o_111 p0_draft_laws_code c_p0_draft_laws_code o_112 p0_text c_p0_text b_p0_text p0_words c_p0_words b_p0_words) H109 := hQ109
      clear hQ109 hP103 hS103
      rcases z_113 with ⟨rfl, z_113⟩ | ⟨rfl, z_113⟩
      · refine lv_if_ne (tgt := 136) hx hb dX4_readUnit_131 (by decide) (fun c_118 => ?_) (fun c_118 => absurd c_118 (by decide))
        refine lv_aload_n hx hb dX4_readUnit_136 rfl (lv_at hl 3 rfl) ?_
        refine q_cVv (As := []) (rest := []) q_exw hE hK hP109 hDa za_t_readUnit6 hS109 hA [0, 4, 5] [1, 2] (by decide +kernel) ⟨hx, hb, hml, hown, hts⟩ (t_step l dC dI H109.size p0 o_110 p0_text c_p0_text b_p0_text p0_words c_p0_words b_p0_words ho_114 ((hf_115.u (by decide) fr_p0_0)) ((hf_115.u (by decide) fr_p0_1))) rfl rfl (cwV 0 hts (p1_gV m_14 m_15 m_16 m_10 g_t_step gz_t_step) rfl rfl rfl (by decide +kernel) ⟨by decide, by decide⟩) (va_recv hK hP109 (ci := 4) (q0 := 0) rfl rfl) zm_t_step rfl hl.1 rfl (Nat.le_of_ble_eq_true rfl) dX4_readUnit_137 ⟨by decide, by decide⟩ (fun H120 lo120 hG120 hS120 => ?_)
        obtain ⟨o_121, ho_122, hf_123, hQ120⟩ := hG120
        have hP120 : va_P (dC, dI) vwCl (zW_t_readUnit6 p0 o_121 p0_draft f_p0_draft p0_draft_laws o_111 p0_draft_laws_code c_p0_draft_laws_code o_112 p0_text c_p0_text b_p0_text p0_words c_p0_words b_p0_words) H120 := hQ120
        clear hQ120 hP109 hS109
        refine lv_iload_n hx hb dX4_readUnit_140 rfl (lv_at hl 1 rfl) (lv_if_eq (tgt := 163) hx hb dX4_readUnit_141 (by decide) (fun c_124 => ?_) (fun c_124 => absurd c_124 (by decide)))
        refine lv_iconst (v := 1) hx hb dX4_readUnit_163 (by decide) (lv_goto (tgt := 168) hx hb dX4_readUnit_164 (by decide) ?_)
        exact q_zret hx hb hr hlocks (by decide) hS120 dX4_readUnit_168 ⟨o_121, o_111, o_112, (Or.inl ⟨rfl, by first | trivial | omega⟩), ho_122, ((q_fr.rf.tr hf_115 (by decide)).tr hf_123 (by decide)), ho_116, ((q_fr.rf.st efs103 (by decide)).tr hf_117 (by decide)), hP120, za_t_readUnit6⟩
      · refine lv_if_ne (tgt := 136) hx hb dX4_readUnit_131 (by decide) (fun c_125 => absurd c_125 (by decide)) (fun c_125 => ?_)
        refine lv_iconst (v := 0) hx hb dX4_readUnit_134 (by decide) ?_
        exact q_zret hx hb hr hlocks (by decide) hS109 dX4_readUnit_135 ⟨o_110, o_111, o_112, (Or.inr ⟨rfl, by first | trivial | omega⟩), ho_114, (q_fr.rf.tr hf_115 (by decide)), ho_116, ((q_fr.rf.st efs103 (by decide)).tr hf_117 (by decide)), hP109, za_t_readUnit6⟩
def zo_t_readTerm6 : List Cond := [.code yX4_readTerm cX4_readTerm 5 (some .boolean), .fieldLink RX4 28 "BowWalk$Reader" "token" "I", .methodLink RX4 78 yX4_step, .instanceMethod yX4_step, .selects RX4 yX4_step yX4_step, .initialized RX4, .methodLink RX4 229 yX4_readUnit, .instanceMethod yX4_readUnit, .selects RX4 yX4_readUnit yX4_readUnit, .methodLink RX4 214 yX4_putToken, .instanceMethod yX4_putToken, .selects RX4 yX4_putToken yX4_putToken]
def zw_t_readTerm6 : List Cond := zo_t_readTerm6 ++ (zw_t_step ++ (zw_t_readUnit6 ++ (zw_t_putToken ++ (wsX40 ++ []))))
theorem gz_t_readTerm6 : zw_t_readTerm6.all goodWord = true := p1_ga (by decide +kernel) (p1_ga gz_t_step (p1_ga gz_t_readUnit6 (p1_ga gz_t_putToken (p1_ga gk_X4 p1_g0))))
theorem iz_t_readTerm6 : ∀ w ∈ zw_t_readTerm6, w ∈ lw_tbl := p1_ia (p1_all [668, 311, 573, 575, 1, 105, 669, 671, 20, 676, 678, 21] (by decide +kernel)) (p1_ia iz_t_step (p1_ia iz_t_readUnit6 (p1_ia iz_t_putToken (p1_ia ik_X4 p1_i0))))
def zW_t_readTerm6 (p0 : Nat) (f_p0 : List Value) (p0_draft : Nat) (f_p0_draft : List Value) (p0_draft_laws : Nat) (f_p0_draft_laws : List Value) (p0_draft_laws_code : Nat) (c_p0_draft_laws_code : ClassId) (b_p0_draft_laws_code : Nat → Int32) (p0_text : Nat) (c_p0_text : ClassId) (b_p0_text : Nat → Int32) (p0_words : Nat) (c_p0_words : ClassId) (b_p0_words : Nat → Int64) : va_W := [(p0, .inr (4, f_p0)), (p0_draft, .inr (5, f_p0_draft)), (p0_draft_laws, .inr (3, f_p0_draft_laws)), (p0_draft_laws_code, .inl (c_p0_draft_laws_code, 600, .inl b_p0_draft_laws_code)), (p0_text, .inl (c_p0_text, 1600, .inl b_p0_text)), (p0_words, .inl (c_p0_words, 22, .inr (.inl b_p0_words)))]
def zT_t_readTerm6 (c_p0_draft_laws_code : ClassId) (c_p0_text : ClassId) (c_p0_words : ClassId) : List (ClassId × FieldType) := [(c_p0_draft_laws_code, .int), (c_p0_text, .byte), (c_p0_words, .long)]
def zA_t_readTerm6 (p0 : Nat) (p0_draft : Nat) (p0_draft_laws : Nat) (p0_draft_laws_code : Nat) (p0_text : Nat) (p0_words : Nat) : List Nat := [p0, p0_draft, p0_draft_laws, p0_draft_laws_code, p0_text, p0_words]
theorem za_t_readTerm6 {p0 : Nat} {f_p0 : List Value} {p0_draft : Nat} {f_p0_draft : List Value} {p0_draft_laws : Nat} {f_p0_draft_laws : List Value} {p0_draft_laws_code : Nat} {c_p0_draft_laws_code : ClassId} {b_p0_draft_laws_code : Nat → Int32} {p0_text : Nat} {c_p0_text : ClassId} {b_p0_text : Nat → Int32} {p0_words : Nat} {c_p0_words : ClassId} {b_p0_words : Nat → Int64} : (zW_t_readTerm6 p0 f_p0 p0_draft f_p0_draft p0_draft_laws f_p0_draft_laws p0_draft_laws_code c_p0_draft_laws_code b_p0_draft_laws_code p0_text c_p0_text b_p0_text p0_words c_p0_words b_p0_words).map Prod.fst = (zA_t_readTerm6 p0 p0_draft p0_draft_laws p0_draft_laws_code p0_text p0_words) := rfl
def zG_t_readTerm6 (p0 : Nat) (f_p0 : List Value) (p0_draft : Nat) (f_p0_draft : List Value) (p0_draft_laws : Nat) (f_p0_draft_laws : List Value) (p0_draft_laws_code : Nat) (c_p0_draft_laws_code : ClassId) (b_p0_draft_laws_code : Nat → Int32) (p0_text : Nat) (c_p0_text : ClassId) (b_p0_text : Nat → Int32) (p0_words : Nat) (c_p0_words : ClassId) (b_p0_words : Nat → Int64) (r : Int32) (X : va_W → Prop) : Prop := ∃ (y_p0 : List Value) (y_p0_draft_laws : List Value) (y_p0_draft_laws_code : Nat → Int32), ((r = 1 ∧ (True)) ∨ (r = 0 ∧ (True))) ∧ OKX4 y_p0 ∧ q_fr [3, 4, 5, 6, 7, 9, 10] f_p0 y_p0 ∧ OKX3 y_p0_draft_laws ∧ q_fr [3, 5] f_p0_draft_laws y_p0_draft_laws ∧ X (zW_t_readTerm6 p0 y_p0 p0_draft f_p0_draft p0_draft_laws y_p0_draft_laws p0_draft_laws_code c_p0_draft_laws_code y_p0_draft_laws_code p0_text c_p0_text b_p0_text p0_words c_p0_words b_p0_words)
theorem zm_t_readTerm6 {p0 : Nat} {f_p0 : List Value} {p0_draft : Nat} {f_p0_draft : List Value} {p0_draft_laws : Nat} {f_p0_draft_laws : List Value} {p0_draft_laws_code : Nat} {c_p0_draft_laws_code : ClassId} {b_p0_draft_laws_code : Nat → Int32} {p0_text : Nat} {c_p0_text : ClassId} {b_p0_text : Nat → Int32} {p0_words : Nat} {c_p0_words : ClassId} {b_p0_words : Nat → Int64} : ∀ (r : Int32), ∀ X Y : va_W → Prop, (∀ w, X w → Y w) → zG_t_readTerm6 p0 f_p0 p0_draft f_p0_draft p0_draft_laws f_p0_draft_laws p0_draft_laws_code c_p0_draft_laws_code b_p0_draft_laws_code p0_text c_p0_text b_p0_text p0_words c_p0_words b_p0_words r X → zG_t_readTerm6 p0 f_p0 p0_draft f_p0_draft p0_draft_laws f_p0_draft_laws p0_draft_laws_code c_p0_draft_laws_code b_p0_draft_laws_code p0_text c_p0_text b_p0_text p0_words c_p0_words b_p0_words r Y := fun r X Y h h1 => by obtain ⟨x0, x1, x2, x3, x4, x5, x6, x7, hx⟩ := h1; exact ⟨x0, x1, x2, x3, x4, x5, x6, x7, h _ hx⟩
set_option maxHeartbeats 4000000 in
set_option maxRecDepth 100000 in
theorem t_readTerm6 (l : Launch) (dC : Nat → ClassId) (dI : Nat → Nat → Nat) (sz : Nat) (p0 : Nat) (f_p0 : List Value) (p0_draft : Nat) (f_p0_draft : List Value) (p0_draft_laws : Nat) (f_p0_draft_laws : List Value) (p0_draft_laws_code : Nat) (c_p0_draft_laws_code : ClassId) (b_p0_draft_laws_code : Nat → Int32) (p0_text : Nat) (c_p0_text : ClassId) (b_p0_text : Nat → Int32) (p0_words : Nat) (c_p0_words : ClassId) (b_p0_words : Nat → Int64) (ho_p0 : OKX4 f_p0) (fr_p0_0 : q_rf f_p0 0 p0_words) (fr_p0_1 : q_rf f_p0 1 p0_text) (fr_p0_8 : q_rf f_p0 8 p0_draft) (ho_p0_draft : OKX5 f_p0_draft) (fr_p0_draft_12 : q_rf f_p0_draft 12 p0_draft_laws) (ho_p0_draft_laws : OKX3 f_p0_draft_laws) (fr_p0_draft_laws_0 : q_rf f_p0_draft_laws 0 p0_draft_laws_code) : Met l yX4_readTerm zw_t_readTerm6 ({ frames := 14, cells := 0, slots := 0, locals := 311 }) (va_Pc [.ref p0, .int 6] (q_pre (dC, dI) (zW_t_readTerm6 p0 f_p0 p0_draft f_p0_draft p0_draft_laws f_p0_draft_laws p0_draft_laws_code c_p0_draft_laws_code b_p0_draft_laws_code p0_text c_p0_text b_p0_text p0_words c_p0_words b_p0_words) (zT_t_readTerm6 c_p0_draft_laws_code c_p0_text c_p0_words) q_ex sz)) (q_Qi (dC, dI) (zG_t_readTerm6 p0 f_p0 p0_draft f_p0_draft p0_draft_laws f_p0_draft_laws p0_draft_laws_code c_p0_draft_laws_code b_p0_draft_laws_code p0_text c_p0_text b_p0_text p0_words c_p0_words b_p0_words) (zA_t_readTerm6 p0 p0_draft p0_draft_laws p0_draft_laws_code p0_text p0_words) (va_A (zW_t_readTerm6 p0 f_p0 p0_draft f_p0_draft p0_draft_laws f_p0_draft_laws p0_draft_laws_code c_p0_draft_laws_code b_p0_draft_laws_code p0_text c_p0_text b_p0_text p0_words c_p0_words b_p0_words) sz)) 0 0 (va_A (zW_t_readTerm6 p0 f_p0 p0_draft f_p0_draft p0_draft_laws f_p0_draft_laws p0_draft_laws_code c_p0_draft_laws_code b_p0_draft_laws_code p0_text c_p0_text b_p0_text p0_words c_p0_words b_p0_words) sz) := by
  refine Met.ofW (cc := cX4_readTerm) (maxL := 5) (ret := (some .boolean)) (by decide) rfl ?_
  intro p e s m args below meth c s₁ B hml hv
  obtain ⟨rfl, hsz, hP, hK, hD0, hE⟩ := hv
  have hx := B.exec
  have hb := B.bytes
  have hr := B.returns
  have hts := atoms_spec (ws := zw_t_readTerm6) B.pre
  have hown : s.vm.findClass RX4 = some m.cls := findClass_of_methodNamed B.named
  have hlocks := B.notSynchronized
  subst hsz
  have hD := hD0.self (sz := s.heap.size)
  generalize hAe : va_A (zW_t_readTerm6 p0 f_p0 p0_draft f_p0_draft p0_draft_laws f_p0_draft_laws p0_draft_laws_code c_p0_draft_laws_code b_p0_draft_laws_code p0_text c_p0_text b_p0_text p0_words c_p0_words b_p0_words) s.heap.size = A at hD hE ⊢
  have hA : ∀ q : Nat, s.heap.size ≤ q → A q := fun q h => by rw [← hAe]; exact Or.inr h
  have hDa : q_DA A (zA_t_readTerm6 p0 p0_draft p0_draft_laws p0_draft_laws_code p0_text p0_words) := q_DA.mk hD za_t_readTerm6
  clear hAe hD0 hD
  have hS : va_S A s.heap s.heap [] := va_S.rf
  have m_0 : (.fieldLink RX4 28 "BowWalk$Reader" "token" "I" : Cond) ∈ zw_t_readTerm6 := List.mem_append_left _ (List.mem_of_getElem? (i := 1) rfl)
  have k_0 := hts _ m_0
  have m_1 : (.methodLink RX4 78 yX4_step : Cond) ∈ zw_t_readTerm6 := List.mem_append_left _ (List.mem_of_getElem? (i := 2) rfl)
  have k_1 := hts _ m_1
  have m_2 : (.instanceMethod yX4_step : Cond) ∈ zw_t_readTerm6 := List.mem_append_left _ (List.mem_of_getElem? (i := 3) rfl)
  have k_2 := hts _ m_2
  have m_3 : (.selects RX4 yX4_step yX4_step : Cond) ∈ zw_t_readTerm6 := List.mem_append_left _ (List.mem_of_getElem? (i := 4) rfl)
  have k_3 := hts _ m_3
  have m_4 : (.initialized RX4 : Cond) ∈ zw_t_readTerm6 := List.mem_append_left _ (List.mem_of_getElem? (i := 5) rfl)
  have k_4 := hts _ m_4
  have m_5 : (.methodLink RX4 229 yX4_readUnit : Cond) ∈ zw_t_readTerm6 := List.mem_append_left _ (List.mem_of_getElem? (i := 6) rfl)
  have k_5 := hts _ m_5
  have m_6 : (.instanceMethod yX4_readUnit : Cond) ∈ zw_t_readTerm6 := List.mem_append_left _ (List.mem_of_getElem? (i := 7) rfl)
  have k_6 := hts _ m_6
  have m_7 : (.selects RX4 yX4_readUnit yX4_readUnit : Cond) ∈ zw_t_readTerm6 := List.mem_append_left _ (List.mem_of_getElem? (i := 8) rfl)
  have k_7 := hts _ m_7
  have m_8 : (.methodLink RX4 214 yX4_putToken : Cond) ∈ zw_t_readTerm6 := List.mem_append_left _ (List.mem_of_getElem? (i := 9) rfl)
  have k_8 := hts _ m_8
  have m_9 : (.instanceMethod yX4_putToken : Cond) ∈ zw_t_readTerm6 := List.mem_append_left _ (List.mem_of_getElem? (i := 10) rfl)
  have k_9 := hts _ m_9
  have m_10 : (.selects RX4 yX4_putToken yX4_putToken : Cond) ∈ zw_t_readTerm6 := List.mem_append_left _ (List.mem_of_getElem? (i := 11) rfl)
  have k_10 := hts _ m_10
  have g_t_step : ∀ w ∈ zw_t_step, w ∈ zw_t_readTerm6 := fun w h => List.mem_append_right _ (List.mem_append_left _ h)
  have g_t_readUnit6 : ∀ w ∈ zw_t_readUnit6, w ∈ zw_t_readTerm6 := fun w h => List.mem_append_right _ (List.mem_append_right _ (List.mem_append_left _ h))
  have g_t_putToken : ∀ w ∈ zw_t_putToken, w ∈ zw_t_readTerm6 := fun w h => List.mem_append_right _ (List.mem_append_right _ (List.mem_append_right _ (List.mem_append_left _ h)))
  have i_X4 : ∀ w ∈ u_ws RX4 TX4 11, w ∈ zw_t_readTerm6 := fun w h => List.mem_append_right _ (List.mem_append_right _ (List.mem_append_right _ (List.mem_append_right _ (List.mem_append_left _ h))))
  have lt_0 : (0 : Int32).toInt = 0 := by decide
  have lt_1 : (1 : Int32).toInt = 1 := by decide
  have lt_6 : (6 : Int32).toInt = 6 := by decide
  have lt_42 : (42 : Int32).toInt = 42 := by decide
  have lt_47 : (47 : Int32).toInt = 47 := by decide
  have lt_60 : (60 : Int32).toInt = 60 := by decide
  have hl := lv_entry ([.ref p0, .int 6]) (n := 5) (Nat.le_of_ble_eq_true rfl)
  rw [lg_entry_eq]
  generalize (lg_sl ([.ref p0, .int 6]) ++ List.replicate (5 - (lg_sl ([.ref p0, .int 6])).length) Slot.unset).toArray = ls at hl ⊢
  have hl : lv_has ls 5 [(0, .ref p0), (1, .int 6)] := hl
  have jn_2 : ∀ (fz_p0 : List Value) (fz_p0_draft_laws : List Value) (bz_p0_draft_laws_code : Nat → Int32) (j_1 : Int32) (H : Heap) (locs : List Loc) (ls : Array Slot) (ho_fz_p0 : OKX4 fz_p0) (hf_fz_p0 : q_fr [3, 4, 5, 6, 7, 9, 10] f_p0 fz_p0) (fr_fz_p0_0 : q_rf fz_p0 0 p0_words) (fr_fz_p0_1 : q_rf fz_p0 1 p0_text) (fr_fz_p0_8 : q_rf fz_p0 8 p0_draft) (ho_fz_p0_draft_laws : OKX3 fz_p0_draft_laws) (hf_fz_p0_draft_laws : q_fr [3, 5] f_p0_draft_laws fz_p0_draft_laws) (fr_fz_p0_draft_laws_0 : q_rf fz_p0_draft_laws 0 p0_draft_laws_code) (tj_1 : (0) ≤ j_1.toInt ∧ j_1.toInt ≤ 1), va_P (dC, dI) vwCl (zW_t_readTerm6 p0 fz_p0 p0_draft f_p0_draft p0_draft_laws fz_p0_draft_laws p0_draft_laws_code c_p0_draft_laws_code bz_p0_draft_laws_code p0_text c_p0_text b_p0_text p0_words c_p0_words b_p0_words) H → va_S A s.heap H locs → lv_has ls 5 [(0, .ref p0), (1, .int 6)] → W p l e (headSpec zw_t_readTerm6 { frames := 14, cells := 0, slots := 0, locals := 311 }).room s m ([.ref p0, .int 6] : List Value).toArray below meth c H locs 0 0 (MQ below (q_Qi (dC, dI) (zG_t_readTerm6 p0 f_p0 p0_draft f_p0_draft p0_draft_laws f_p0_draft_laws p0_draft_laws_code c_p0_draft_laws_code b_p0_draft_laws_code p0_text c_p0_text b_p0_text p0_words c_p0_words b_p0_words) (zA_t_readTerm6 p0 p0_draft p0_draft_laws p0_draft_laws_code p0_text p0_words) A) ([.ref p0, .int 6] : List Value).toArray s 0 0 A) (F0 m 5 ls [.int j_1]) := by
    intro fz_p0 fz_p0_draft_laws bz_p0_draft_laws_code j_1 H3 lo3 ls ho_fz_p0 hf_fz_p0 fr_fz_p0_0 fr_fz_p0_1 fr_fz_p0_8 ho_fz_p0_draft_laws hf_fz_p0_draft_laws fr_fz_p0_draft_laws_0 tj_1 hP3 hS3 hl
    refine lv_istore_n (lv' := [(2, .int j_1), (0, .ref p0), (1, .int 6)]) hx hb dX4_readTerm_5 rfl hl (by decide) rfl (fun ls hl => ?_)
    refine lv_iconst (v := 0) hx hb dX4_readTerm_6 (by decide) (lv_istore_n (lv' := [(3, .int 0), (2, .int j_1), (0, .ref p0), (1, .int 6)]) hx hb dX4_readTerm_7 rfl hl (by decide) rfl (fun ls hl => ?_))
    have key8 : ∀ (fu8 : Nat) (rd : Int32) (n : Int32) (fz_p0 : List Value) (fz_p0_draft_laws : List Value) (bz_p0_draft_laws_code : Nat → Int32) (H : Heap) (locs : List Loc) (ls : Array Slot) (hfu8 : 60 - n.toInt ≤ (fu8 : Int)) (trd : (0) ≤ rd.toInt ∧ rd.toInt ≤ 1) (tn : (0) ≤ n.toInt ∧ n.toInt ≤ 60) (ho_fz_p0 : OKX4 fz_p0) (hf_fz_p0 : q_fr [3, 4, 5, 6, 7, 9, 10] f_p0 fz_p0) (fr_fz_p0_0 : q_rf fz_p0 0 p0_words) (fr_fz_p0_1 : q_rf fz_p0 1 p0_text) (fr_fz_p0_8 : q_rf fz_p0 8 p0_draft) (ho_fz_p0_draft_laws : OKX3 fz_p0_draft_laws) (hf_fz_p0_draft_laws : q_fr [3, 5] f_p0_draft_laws fz_p0_draft_laws) (fr_fz_p0_draft_laws_0 : q_rf fz_p0_draft_laws 0 p0_draft_laws_code), va_P (dC, dI) vwCl (zW_t_readTerm6 p0 fz_p0 p0_draft f_p0_draft p0_draft_laws fz_p0_draft_laws p0_draft_laws_code c_p0_draft_laws_code bz_p0_draft_laws_code p0_text c_p0_text b_p0_text p0_words c_p0_words b_p0_words) H → va_S A s.heap H locs → lv_has ls 5 [(3, .int n), (2, .int rd), (0, .ref p0), (1, .int 6)] → W p l e (headSpec zw_t_readTerm6 { frames := 14, cells := 0, slots := 0, locals := 311 }).room s m ([.ref p0, .int 6] : List Value).toArray below meth c H locs 0 0 (MQ below (q_Qi (dC, dI) (zG_t_readTerm6 p0 f_p0 p0_draft f_p0_draft p0_draft_laws f_p0_draft_laws p0_draft_laws_code c_p0_draft_laws_code b_p0_draft_laws_code p0_text c_p0_text b_p0_text p0_words c_p0_words b_p0_words) (zA_t_readTerm6 p0 p0_draft p0_draft_laws p0_draft_laws_code p0_text p0_words) A) ([.ref p0, .int 6] : List Value).toArray s 0 0 A) (F0 m 8 ls []) := by
      intro fu8
      induction fu8 using Nat.strongRecOn with
      | ind fu8 ih8 =>
        intro rd n fz_p0 fz_p0_draft_laws bz_p0_draft_laws_code H4 lo4 ls hfu8 trd tn ho_fz_p0 hf_fz_p0 fr_fz_p0_0 fr_fz_p0_1 fr_fz_p0_8 ho_fz_p0_draft_laws hf_fz_p0_draft_laws fr_fz_p0_draft_laws_0 hP4 hS4 hl
        refine lv_iload_n hx hb dX4_readTerm_8 rfl (lv_at hl 0 rfl) (lv_bipush (v := 60) hx hb dX4_readTerm_9 (by decide) ?_)
        refine lv_icmp_ge (tgt := 75) hx hb dX4_readTerm_11 (by decide) (fun c_5 => ?_) (fun c_5 => ?_)
        · have tc_5 := q_ge c_5
          refine lv_iload_n hx hb dX4_readTerm_75 rfl (lv_at hl 1 rfl) ?_
          rcases q_c2 (i := rd) (by omega) (by omega) with hb_6 | hb_6
          · exact q_zret hx hb hr hlocks (by rw [hb_6]; decide) hS4 dX4_readTerm_76 ⟨fz_p0, fz_p0_draft_laws, bz_p0_draft_laws_code, (Or.inr ⟨hb_6, by first | trivial | omega⟩), ho_fz_p0, hf_fz_p0, ho_fz_p0_draft_laws, hf_fz_p0_draft_laws, hP4, za_t_readTerm6⟩
          · exact q_zret hx hb hr hlocks (by rw [hb_6]; decide) hS4 dX4_readTerm_76 ⟨fz_p0, fz_p0_draft_laws, bz_p0_draft_laws_code, (Or.inl ⟨hb_6, by first | trivial | omega⟩), ho_fz_p0, hf_fz_p0, ho_fz_p0_draft_laws, hf_fz_p0_draft_laws, hP4, za_t_readTerm6⟩
        · have tc_5 := q_ltN c_5
          refine lv_iload_n hx hb dX4_readTerm_14 rfl (lv_at hl 1 rfl) ?_
          refine lv_if_eq (tgt := 75) hx hb dX4_readTerm_15 (by decide) (fun c_7 => ?_) (fun c_7 => ?_)
          · have tc_7 := q_eq c_7
            refine lv_iload_n hx hb dX4_readTerm_75 rfl (lv_at hl 1 rfl) ?_
            rcases q_c2 (i := rd) (by omega) (by omega) with hb_8 | hb_8
            · exact q_zret hx hb hr hlocks (by rw [hb_8]; decide) hS4 dX4_readTerm_76 ⟨fz_p0, fz_p0_draft_laws, bz_p0_draft_laws_code, (Or.inr ⟨hb_8, by first | trivial | omega⟩), ho_fz_p0, hf_fz_p0, ho_fz_p0_draft_laws, hf_fz_p0_draft_laws, hP4, za_t_readTerm6⟩
            · exact q_zret hx hb hr hlocks (by rw [hb_8]; decide) hS4 dX4_readTerm_76 ⟨fz_p0, fz_p0_draft_laws, bz_p0_draft_laws_code, (Or.inl ⟨hb_8, by first | trivial | omega⟩), ho_fz_p0, hf_fz_p0, ho_fz_p0_draft_laws, hf_fz_p0_draft_laws, hP4, za_t_readTerm6⟩
          · have tc_7 := q_neN c_7
            refine lv_aload_n hx hb dX4_readTerm_18 rfl (lv_at hl 2 rfl) ?_
            obtain ⟨v_9, fv_9⟩ := OKX4_g4 ho_fz_p0
            refine qg_X4_4 hx hb hts i_X4 hown hK hP4 0 rfl k_0 fv_9 dX4_readTerm_19 (lv_bipush (v := 42) hx hb dX4_readTerm_22 (by decide) ?_)
            refine lv_icmp_eq (tgt := 36) hx hb dX4_readTerm_24 (by decide) (fun c_10 => ?_) (fun c_10 => ?_)
            · have tc_10 := q_eq c_10
              refine lv_aload_n hx hb dX4_readTerm_36 rfl (lv_at hl 2 rfl) (qg_X4_4 hx hb hts i_X4 hown hK hP4 0 rfl k_0 fv_9 dX4_readTerm_37 (lv_istore (lv' := [(4, .int v_9), (3, .int n), (2, .int rd), (0, .ref p0), (1, .int 6)]) hx hb dX4_readTerm_40 hl (by decide) rfl (fun ls hl => ?_)))
              refine lv_aload_n hx hb dX4_readTerm_42 rfl (lv_at hl 3 rfl) ?_
              refine q_cVv (As := []) (rest := []) q_exw hE hK hP4 hDa za_t_readTerm6 hS4 hA [0, 4, 5] [1, 2] (by decide +kernel) ⟨hx, hb, hml, hown, hts⟩ (t_step l dC dI H4.size p0 fz_p0 p0_text c_p0_text b_p0_text p0_words c_p0_words b_p0_words ho_fz_p0 fr_fz_p0_0 fr_fz_p0_1) rfl rfl (cwV 0 hts (p1_gV m_1 m_2 m_3 m_4 g_t_step gz_t_step) rfl rfl rfl (by decide +kernel) ⟨by decide, by decide⟩) (va_recv hK hP4 (ci := 4) (q0 := 0) rfl rfl) zm_t_step rfl hl.1 rfl (Nat.le_of_ble_eq_true rfl) dX4_readTerm_43 ⟨by decide, by decide⟩ (fun H12 lo12 hG12 hS12 => ?_)
              obtain ⟨o_13, ho_14, hf_15, hQ12⟩ := hG12
              have hP12 : va_P (dC, dI) vwCl (zW_t_readTerm6 p0 o_13 p0_draft f_p0_draft p0_draft_laws fz_p0_draft_laws p0_draft_laws_code c_p0_draft_laws_code bz_p0_draft_laws_code p0_text c_p0_text b_p0_text p0_words c_p0_words b_p0_words) H12 := hQ12
              clear hQ12 hP4 hS4
              refine lv_aload_n hx hb dX4_readTerm_46 rfl (lv_at hl 3 rfl) (lv_iload_n hx hb dX4_readTerm_47 rfl (lv_at hl 4 rfl) ?_)
              refine q_cVi (As := [.int 6]) (rest := []) q_exw hE hK hP12 hDa za_t_readTerm6 hS12 hA [0, 1, 2, 3, 4, 5] [0, 1, 2] (by decide +kernel) ⟨hx, hb, hml, hown, hts⟩ (t_readUnit6 l dC dI H12.size p0 o_13 p0_draft f_p0_draft p0_draft_laws fz_p0_draft_laws p0_draft_laws_code c_p0_draft_laws_code bz_p0_draft_laws_code p0_text c_p0_text b_p0_text p0_words c_p0_words b_p0_words ho_14 ((hf_15.u (by decide) fr_fz_p0_0)) ((hf_15.u (by decide) fr_fz_p0_1)) ((hf_15.u (by decide) fr_fz_p0_8)) ho_p0_draft fr_p0_draft_12 ho_fz_p0_draft_laws fr_fz_p0_draft_laws_0) rfl rfl (cwV 1 hts (p1_gV m_5 m_6 m_7 m_4 g_t_readUnit6 gz_t_readUnit6) rfl rfl rfl (by decide +kernel) ⟨by decide, by decide⟩) (va_recv hK hP12 (ci := 4) (q0 := 0) rfl rfl) zm_t_readUnit6 rfl hl.1 rfl (Nat.le_of_ble_eq_true rfl) dX4_readTerm_48 ⟨by decide, by decide⟩ (fun r_16 H17 lo17 hG17 hS17 => ?_)
              obtain ⟨o_18, o_19, o_20, z_21, ho_22, hf_23, ho_24, hf_25, hQ17⟩ := hG17
              have hP17 : va_P (dC, dI) vwCl (zW_t_readTerm6 p0 o_18 p0_draft f_p0_draft p0_draft_laws o_19 p0_draft_laws_code c_p0_draft_laws_code o_20 p0_text c_p0_text b_p0_text p0_words c_p0_words b_p0_words) H17 := hQ17
              clear hQ17 hP12 hS12
              rcases z_21 with ⟨rfl, z_21⟩ | ⟨rfl, z_21⟩
              · refine lv_if_eq (tgt := 67) hx hb dX4_readTerm_51 (by decide) (fun c_26 => absurd c_26 (by decide)) (fun c_26 => ?_)
                refine lv_aload_n hx hb dX4_readTerm_54 rfl (lv_at hl 3 rfl) (lv_iload hx hb dX4_readTerm_55 (lv_at hl 0 rfl) ?_)
                refine q_cVi (As := [.int v_9]) (rest := []) q_w0 trivial hK hP17 hDa za_t_readTerm6 hS17 hA [0, 1, 2, 3] [0] (by decide +kernel) ⟨hx, hb, hml, hown, hts⟩ (t_putToken l dC dI H17.size p0 o_18 p0_draft f_p0_draft p0_draft_laws o_19 p0_draft_laws_code c_p0_draft_laws_code o_20 v_9 ho_22 ((hf_23.u (by decide) (hf_15.u (by decide) fr_fz_p0_8))) ho_p0_draft fr_p0_draft_12 ho_24 ((hf_25.u (by decide) fr_fz_p0_draft_laws_0))) rfl rfl (cwV 1 hts (p1_gV m_8 m_9 m_10 m_4 g_t_putToken gz_t_putToken) rfl rfl rfl (by decide +kernel) ⟨by decide, by decide⟩) (va_recv hK hP17 (ci := 4) (q0 := 0) rfl rfl) zm_t_putToken rfl hl.1 rfl (Nat.le_of_ble_eq_true rfl) dX4_readTerm_57 ⟨by decide, by decide⟩ (fun r_27 H28 lo28 hG28 hS28 => ?_)
                obtain ⟨o_29, o_30, o_31, z_32, ho_33, hf_34, ho_35, hf_36, hQ28⟩ := hG28
                have hP28 : va_P (dC, dI) vwCl (zW_t_readTerm6 p0 o_29 p0_draft f_p0_draft p0_draft_laws o_30 p0_draft_laws_code c_p0_draft_laws_code o_31 p0_text c_p0_text b_p0_text p0_words c_p0_words b_p0_words) H28 := hQ28
                clear hQ28 hP17 hS17
                rcases z_32 with ⟨rfl, z_32⟩ | ⟨rfl, z_32⟩
                · refine lv_if_eq (tgt := 67) hx hb dX4_readTerm_60 (by decide) (fun c_37 => absurd c_37 (by decide)) (fun c_37 => ?_)
                  refine lv_iconst (v := 1) hx hb dX4_readTerm_63 (by decide) (lv_goto (tgt := 68) hx hb dX4_readTerm_64 (by decide) (lv_istore_n (lv' := [(2, .int 1), (4, .int v_9), (3, .int n), (0, .ref p0), (1, .int 6)]) hx hb dX4_readTerm_68 rfl hl (by decide) rfl (fun ls hl => ?_)))
                  obtain ⟨v_38, ev_38⟩ : ∃ y : Int32, y = n + 1 := ⟨_, rfl⟩
                  have tv_38 := q_add ev_38 (by omega) (by omega)
                  refine lv_iinc (v := v_38) (lv' := [(3, .int v_38), (2, .int 1), (4, .int v_9), (0, .ref p0), (1, .int 6)]) hx hb dX4_readTerm_69 hl (k := 2) rfl (by rw [ev_38]; rfl) (by decide) rfl (fun ls hl => ?_)
                  refine lv_goto (tgt := 8) hx hb dX4_readTerm_72 (by decide) ?_
                  exact ih8 (fu8 - 1) (by omega) 1 v_38 o_29 o_30 o_31 _ _ _ (by omega) (by omega) (by omega) ho_33 (((hf_fz_p0.tr hf_15 (by decide)).tr hf_23 (by decide)).tr hf_34 (by decide)) (hf_34.u (by decide) (hf_23.u (by decide) (hf_15.u (by decide) fr_fz_p0_0))) (hf_34.u (by decide) (hf_23.u (by decide) (hf_15.u (by decide) fr_fz_p0_1))) (hf_34.u (by decide) (hf_23.u (by decide) (hf_15.u (by decide) fr_fz_p0_8))) ho_35 ((hf_fz_p0_draft_laws.tr hf_25 (by decide)).tr hf_36 (by decide)) (hf_36.u (by decide) (hf_25.u (by decide) fr_fz_p0_draft_laws_0)) hP28 hS28 (lv_sub hl [0, 1, 3, 4] rfl)
                · refine lv_if_eq (tgt := 67) hx hb dX4_readTerm_60 (by decide) (fun c_39 => ?_) (fun c_39 => absurd c_39 (by decide))
                  refine lv_iconst (v := 0) hx hb dX4_readTerm_67 (by decide) (lv_istore_n (lv' := [(2, .int 0), (4, .int v_9), (3, .int n), (0, .ref p0), (1, .int 6)]) hx hb dX4_readTerm_68 rfl hl (by decide) rfl (fun ls hl => ?_))
                  obtain ⟨v_40, ev_40⟩ : ∃ y : Int32, y = n + 1 := ⟨_, rfl⟩
                  have tv_40 := q_add ev_40 (by omega) (by omega)
                  refine lv_iinc (v := v_40) (lv' := [(3, .int v_40), (2, .int 0), (4, .int v_9), (0, .ref p0), (1, .int 6)]) hx hb dX4_readTerm_69 hl (k := 2) rfl (by rw [ev_40]; rfl) (by decide) rfl (fun ls hl => ?_)
                  refine lv_goto (tgt := 8) hx hb dX4_readTerm_72 (by decide) ?_
                  exact ih8 (fu8 - 1) (by omega) 0 v_40 o_29 o_30 o_31 _ _ _ (by omega) (by omega) (by omega) ho_33 (((hf_fz_p0.tr hf_15 (by decide)).tr hf_23 (by decide)).tr hf_34 (by decide)) (hf_34.u (by decide) (hf_23.u (by decide) (hf_15.u (by decide) fr_fz_p0_0))) (hf_34.u (by decide) (hf_23.u (by decide) (hf_15.u (by decide) fr_fz_p0_1))) (hf_34.u (by decide) (hf_23.u (by decide) (hf_15.u (by decide) fr_fz_p0_8))) ho_35 ((hf_fz_p0_draft_laws.tr hf_25 (by decide)).tr hf_36 (by decide)) (hf_36.u (by decide) (hf_25.u (by decide) fr_fz_p0_draft_laws_0)) hP28 hS28 (lv_sub hl [0, 1, 3, 4] rfl)
              · refine lv_if_eq (tgt := 67) hx hb dX4_readTerm_51 (by decide) (fun c_41 => ?_) (fun c_41 => absurd c_41 (by decide))
                refine lv_iconst (v := 0) hx hb dX4_readTerm_67 (by decide) (lv_istore_n (lv' := [(2, .int 0), (4, .int v_9), (3, .int n), (0, .ref p0), (1, .int 6)]) hx hb dX4_readTerm_68 rfl hl (by decide) rfl (fun ls hl => ?_))
                obtain ⟨v_42, ev_42⟩ : ∃ y : Int32, y = n + 1 := ⟨_, rfl⟩
                have tv_42 := q_add ev_42 (by omega) (by omega)
                refine lv_iinc (v := v_42) (lv' := [(3, .int v_42), (2, .int 0), (4, .int v_9), (0, .ref p0), (1, .int 6)]) hx hb dX4_readTerm_69 hl (k := 2) rfl (by rw [ev_42]; rfl) (by decide) rfl (fun ls hl => ?_)
                refine lv_goto (tgt := 8) hx hb dX4_readTerm_72 (by decide) ?_
                exact ih8 (fu8 - 1) (by omega) 0 v_42 o_18 o_19 o_20 _ _ _ (by omega) (by omega) (by omega) ho_22 ((hf_fz_p0.tr hf_15 (by decide)).tr hf_23 (by decide)) (hf_23.u (by decide) (hf_15.u (by decide) fr_fz_p0_0)) (hf_23.u (by decide) (hf_15.u (by decide) fr_fz_p0_1)) (hf_23.u (by decide) (hf_15.u (by decide) fr_fz_p0_8)) ho_24 (hf_fz_p0_draft_laws.tr hf_25 (by decide)) (hf_25.u (by decide) fr_fz_p0_draft_laws_0) hP17 hS17 (lv_sub hl [0, 1, 3, 4] rfl)
            · have tc_10 := q_neN c_10
              refine lv_aload_n hx hb dX4_readTerm_27 rfl (lv_at hl 2 rfl) (qg_X4_4 hx hb hts i_X4 hown hK hP4 0 rfl k_0 fv_9 dX4_readTerm_28 (lv_bipush (v := 47) hx hb dX4_readTerm_31 (by decide) ?_))
              refine lv_icmp_ne (tgt := 75) hx hb dX4_readTerm_33 (by decide) (fun c_43 => ?_) (fun c_43 => ?_)
              · have tc_43 := q_ne c_43
                refine lv_iload_n hx hb dX4_readTerm_75 rfl (lv_at hl 1 rfl) ?_
                rcases q_c2 (i := rd) (by omega) (by omega) with hb_44 | hb_44
                · exact q_zret hx hb hr hlocks (by rw [hb_44]; decide) hS4 dX4_readTerm_76 ⟨fz_p0, fz_p0_draft_laws, bz_p0_draft_laws_code, (Or.inr ⟨hb_44, by first | trivial | omega⟩), ho_fz_p0, hf_fz_p0, ho_fz_p0_draft_laws, hf_fz_p0_draft_laws, hP4, za_t_readTerm6⟩
                · exact q_zret hx hb hr hlocks (by rw [hb_44]; decide) hS4 dX4_readTerm_76 ⟨fz_p0, fz_p0_draft_laws, bz_p0_draft_laws_code, (Or.inl ⟨hb_44, by first | trivial | omega⟩), ho_fz_p0, hf_fz_p0, ho_fz_p0_draft_laws, hf_fz_p0_draft_laws, hP4, za_t_readTerm6⟩
              · have tc_43 := q_eqN c_43
                refine lv_aload_n hx hb dX4_readTerm_36 rfl (lv_at hl 2 rfl) (qg_X4_4 hx hb hts i_X4 hown hK hP4 0 rfl k_0 fv_9 dX4_readTerm_37 (lv_istore (lv' := [(4, .int v_9), (3, .int n), (2, .int rd), (0, .ref p0), (1, .int 6)]) hx hb dX4_readTerm_40 hl (by decide) rfl (fun ls hl => ?_)))
                refine lv_aload_n hx hb dX4_readTerm_42 rfl (lv_at hl 3 rfl) ?_
                refine q_cVv (As := []) (rest := []) q_exw hE hK hP4 hDa za_t_readTerm6 hS4 hA [0, 4, 5] [1, 2] (by decide +kernel) ⟨hx, hb, hml, hown, hts⟩ (t_step l dC dI H4.size p0 fz_p0 p0_text c_p0_text b_p0_text p0_words c_p0_words b_p0_words ho_fz_p0 fr_fz_p0_0 fr_fz_p0_1) rfl rfl (cwV 0 hts (p1_gV m_1 m_2 m_3 m_4 g_t_step gz_t_step) rfl rfl rfl (by decide +kernel) ⟨by decide, by decide⟩) (va_recv hK hP4 (ci := 4) (q0 := 0) rfl rfl) zm_t_step rfl hl.1 rfl (Nat.le_of_ble_eq_true rfl) dX4_readTerm_43 ⟨by decide, by decide⟩ (fun H46 lo46 hG46 hS46 => ?_)
                obtain ⟨o_47, ho_48, hf_49, hQ46⟩ := hG46
                have hP46 : va_P (dC, dI) vwCl (zW_t_readTerm6 p0 o_47 p0_draft f_p0_draft p0_draft_laws fz_p0_draft_laws p0_draft_laws_code c_p0_draft_laws_code bz_p0_draft_laws_code p0_text c_p0_text b_p0_text p0_words c_p0_words b_p0_words) H46 := hQ46
                clear hQ46 hP4 hS4
                refine lv_aload_n hx hb dX4_readTerm_46 rfl (lv_at hl 3 rfl) (lv_iload_n hx hb dX4_readTerm_47 rfl (lv_at hl 4 rfl) ?_)
                refine q_cVi (As := [.int 6]) (rest := []) q_exw hE hK hP46 hDa za_t_readTerm6 hS46 hA [0, 1, 2, 3, 4, 5] [0, 1, 2] (by decide +kernel) ⟨hx, hb, hml, hown, hts⟩ (t_readUnit6 l dC dI H46.size p0 o_47 p0_draft f_p0_draft p0_draft_laws fz_p0_draft_laws p0_draft_laws_code c_p0_draft_laws_code bz_p0_draft_laws_code p0_text c_p0_text b_p0_text p0_words c_p0_words b_p0_words ho_48 ((hf_49.u (by decide) fr_fz_p0_0)) ((hf_49.u (by decide) fr_fz_p0_1)) ((hf_49.u (by decide) fr_fz_p0_8)) ho_p0_draft fr_p0_draft_12 ho_fz_p0_draft_laws fr_fz_p0_draft_laws_0) rfl rfl (cwV 1 hts (p1_gV m_5 m_6 m_7 m_4 g_t_readUnit6 gz_t_readUnit6) rfl rfl rfl (by decide +kernel) ⟨by decide, by decide⟩) (va_recv hK hP46 (ci := 4) (q0 := 0) rfl rfl) zm_t_readUnit6 rfl hl.1 rfl (Nat.le_of_ble_eq_true rfl) dX4_readTerm_48 ⟨by decide, by decide⟩ (fun r_50 H51 lo51 hG51 hS51 => ?_)
                obtain ⟨o_52, o_53, o_54, z_55, ho_56, hf_57, ho_58, hf_59, hQ51⟩ := hG51
                have hP51 : va_P (dC, dI) vwCl (zW_t_readTerm6 p0 o_52 p0_draft f_p0_draft p0_draft_laws o_53 p0_draft_laws_code c_p0_draft_laws_code o_54 p0_text c_p0_text b_p0_text p0_words c_p0_words b_p0_words) H51 := hQ51
                clear hQ51 hP46 hS46
                rcases z_55 with ⟨rfl, z_55⟩ | ⟨rfl, z_55⟩
                · refine lv_if_eq (tgt := 67) hx hb dX4_readTerm_51 (by decide) (fun c_60 => absurd c_60 (by decide)) (fun c_60 => ?_)
                  refine lv_aload_n hx hb dX4_readTerm_54 rfl (lv_at hl 3 rfl) (lv_iload hx hb dX4_readTerm_55 (lv_at hl 0 rfl) ?_)
                  refine q_cVi (As := [.int v_9]) (rest := []) q_w0 trivial hK hP51 hDa za_t_readTerm6 hS51 hA [0, 1, 2, 3] [0] (by decide +kernel) ⟨hx, hb, hml, hown, hts⟩ (t_putToken l dC dI H51.size p0 o_52 p0_draft f_p0_draft p0_draft_laws o_53 p0_draft_laws_code c_p0_draft_laws_code o_54 v_9 ho_56 ((hf_57.u (by decide) (hf_49.u (by decide) fr_fz_p0_8))) ho_p0_draft fr_p0_draft_12 ho_58 ((hf_59.u (by decide) fr_fz_p0_draft_laws_0))) rfl rfl (cwV 1 hts (p1_gV m_8 m_9 m_10 m_4 g_t_putToken gz_t_putToken) rfl rfl rfl (by decide +kernel) ⟨by decide, by decide⟩) (va_recv hK hP51 (ci := 4) (q0 := 0) rfl rfl) zm_t_putToken rfl hl.1 rfl (Nat.le_of_ble_eq_true rfl) dX4_readTerm_57 ⟨by decide, by decide⟩ (fun r_61 H62 lo62 hG62 hS62 => ?_)
                  obtain ⟨o_63, o_64, o_65, z_66, ho_67, hf_68, ho_69, hf_70, hQ62⟩ := hG62
                  have hP62 : va_P (dC, dI) vwCl (zW_t_readTerm6 p0 o_63 p0_draft f_p0_draft p0_draft_laws o_64 p0_draft_laws_code c_p0_draft_laws_code o_65 p0_text c_p0_text b_p0_text p0_words c_p0_words b_p0_words) H62 := hQ62
                  clear hQ62 hP51 hS51
                  rcases z_66 with ⟨rfl, z_66⟩ | ⟨rfl, z_66⟩
                  · refine lv_if_eq (tgt := 67) hx hb dX4_readTerm_60 (by decide) (fun c_71 => absurd c_71 (by decide)) (fun c_71 => ?_)
                    refine lv_iconst (v := 1) hx hb dX4_readTerm_63 (by decide) (lv_goto (tgt := 68) hx hb dX4_readTerm_64 (by decide) (lv_istore_n (lv' := [(2, .int 1), (4, .int v_9), (3, .int n), (0, .ref p0), (1, .int 6)]) hx hb dX4_readTerm_68 rfl hl (by decide) rfl (fun ls hl => ?_)))
                    obtain ⟨v_72, ev_72⟩ : ∃ y : Int32, y = n + 1 := ⟨_, rfl⟩
                    have tv_72 := q_add ev_72 (by omega) (by omega)
                    refine lv_iinc (v := v_72) (lv' := [(3, .int v_72), (2, .int 1), (4, .int v_9), (0, .ref p0), (1, .int 6)]) hx hb dX4_readTerm_69 hl (k := 2) rfl (by rw [ev_72]; rfl) (by decide) rfl (fun ls hl => ?_)
                    refine lv_goto (tgt := 8) hx hb dX4_readTerm_72 (by decide) ?_
                    exact ih8 (fu8 - 1) (by omega) 1 v_72 o_63 o_64 o_65 _ _ _ (by omega) (by omega) (by omega) ho_67 (((hf_fz_p0.tr hf_49 (by decide)).tr hf_57 (by decide)).tr hf_68 (by decide)) (hf_68.u (by decide) (hf_57.u (by decide) (hf_49.u (by decide) fr_fz_p0_0))) (hf_68.u (by decide) (hf_57.u (by decide) (hf_49.u (by decide) fr_fz_p0_1))) (hf_68.u (by decide) (hf_57.u (by decide) (hf_49.u (by decide) fr_fz_p0_8))) ho_69 ((hf_fz_p0_draft_laws.tr hf_59 (by decide)).tr hf_70 (by decide)) (hf_70.u (by decide) (hf_59.u (by decide) fr_fz_p0_draft_laws_0)) hP62 hS62 (lv_sub hl [0, 1, 3, 4] rfl)
                  · refine lv_if_eq (tgt := 67) hx hb dX4_readTerm_60 (by decide) (fun c_73 => ?_) (fun c_73 => absurd c_73 (by decide))
                    refine lv_iconst (v := 0) hx hb dX4_readTerm_67 (by decide) (lv_istore_n (lv' := [(2, .int 0), (4, .int v_9), (3, .int n), (0, .ref p0), (1, .int 6)]) hx hb dX4_readTerm_68 rfl hl (by decide) rfl (fun ls hl => ?_))
                    obtain ⟨v_74, ev_74⟩ : ∃ y : Int32, y = n + 1 := ⟨_, rfl⟩
                    have tv_74 := q_add ev_74 (by omega) (by omega)
                    refine lv_iinc (v := v_74) (lv' := [(3, .int v_74), (2, .int 0), (4, .int v_9), (0, .ref p0), (1, .int 6)]) hx hb dX4_readTerm_69 hl (k := 2) rfl (by rw [ev_74]; rfl) (by decide) rfl (fun ls hl => ?_)
                    refine lv_goto (tgt := 8) hx hb dX4_readTerm_72 (by decide) ?_
                    exact ih8 (fu8 - 1) (by omega) 0 v_74 o_63 o_64 o_65 _ _ _ (by omega) (by omega) (by omega) ho_67 (((hf_fz_p0.tr hf_49 (by decide)).tr hf_57 (by decide)).tr hf_68 (by decide)) (hf_68.u (by decide) (hf_57.u (by decide) (hf_49.u (by decide) fr_fz_p0_0))) (hf_68.u (by decide) (hf_57.u (by decide) (hf_49.u (by decide) fr_fz_p0_1))) (hf_68.u (by decide) (hf_57.u (by decide) (hf_49.u (by decide) fr_fz_p0_8))) ho_69 ((hf_fz_p0_draft_laws.tr hf_59 (by decide)).tr hf_70 (by decide)) (hf_70.u (by decide) (hf_59.u (by decide) fr_fz_p0_draft_laws_0)) hP62 hS62 (lv_sub hl [0, 1, 3, 4] rfl)
                · refine lv_if_eq (tgt := 67) hx hb dX4_readTerm_51 (by decide) (fun c_75 => ?_) (fun c_75 => absurd c_75 (by decide))
                  refine lv_iconst (v := 0) hx hb dX4_readTerm_67 (by decide) (lv_istore_n (lv' := [(2, .int 0), (4, .int v_9), (3, .int n), (0, .ref p0), (1, .int 6)]) hx hb dX4_readTerm_68 rfl hl (by decide) rfl (fun ls hl => ?_))
                  obtain ⟨v_76, ev_76⟩ : ∃ y : Int32, y = n + 1 := ⟨_, rfl⟩
                  have tv_76 := q_add ev_76 (by omega) (by omega)
                  refine lv_iinc (v := v_76) (lv' := [(3, .int v_76), (2, .int 0), (4, .int v_9), (0, .ref p0), (1, .int 6)]) hx hb dX4_readTerm_69 hl (k := 2) rfl (by rw [ev_76]; rfl) (by decide) rfl (fun ls hl => ?_)
                  refine lv_goto (tgt := 8) hx hb dX4_readTerm_72 (by decide) ?_
                  exact ih8 (fu8 - 1) (by omega) 0 v_76 o_52 o_53 o_54 _ _ _ (by omega) (by omega) (by omega) ho_56 ((hf_fz_p0.tr hf_49 (by decide)).tr hf_57 (by decide)) (hf_57.u (by decide) (hf_49.u (by decide) fr_fz_p0_0)) (hf_57.u (by decide) (hf_49.u (by decide) fr_fz_p0_1)) (hf_57.u (by decide) (hf_49.u (by decide) fr_fz_p0_8)) ho_58 (hf_fz_p0_draft_laws.tr hf_59 (by decide)) (hf_59.u (by decide) fr_fz_p0_draft_laws_0) hP51 hS51 (lv_sub hl [0, 1, 3, 4] rfl)
    exact key8 60 j_1 0 fz_p0 fz_p0_draft_laws bz_p0_draft_laws_code _ _ _ (by omega) (by omega) (by omega) ho_fz_p0 hf_fz_p0 fr_fz_p0_0 fr_fz_p0_1 fr_fz_p0_8 ho_fz_p0_draft_laws hf_fz_p0_draft_laws fr_fz_p0_draft_laws_0 hP3 hS3 (lv_sub hl [0, 1, 2, 3] rfl)
  refine lv_aload_n hx hb dX4_readTerm_0 rfl (lv_at hl 0 rfl) (lv_iload_n hx hb dX4_readTerm_1 rfl (lv_at hl 1 rfl) ?_)
  refine q_cVi (As := [.int 6]) (rest := []) q_exw hE hK hP hDa za_t_readTerm6 hS hA [0, 1, 2, 3, 4, 5] [0, 1, 2] (by decide +kernel) ⟨hx, hb, hml, hown, hts⟩ (t_readUnit6 l dC dI s.heap.size p0 f_p0 p0_draft f_p0_draft p0_draft_laws f_p0_draft_laws p0_draft_laws_code c_p0_draft_laws_code b_p0_draft_laws_code p0_text c_p0_text b_p0_text p0_words c_p0_words b_p0_words ho_p0 fr_p0_0 fr_p0_1 fr_p0_8 ho_p0_draft fr_p0_draft_12 ho_p0_draft_laws fr_p0_draft_laws_0) rfl rfl (cwV 1 hts (p1_gV m_5 m_6 m_7 m_4 g_t_readUnit6 gz_t_readUnit6) rfl rfl rfl (by decide +kernel) ⟨by decide, by decide⟩) (va_recv hK hP (ci := 4) (q0 := 0) rfl rfl) zm_t_readUnit6 rfl hl.1 rfl (Nat.le_of_ble_eq_true rfl) dX4_readTerm_2 ⟨by decide, by decide⟩ (fun r_77 H78 lo78 hG78 hS78 => ?_)
  obtain ⟨o_79, o_80, o_81, z_82, ho_83, hf_84, ho_85, hf_86, hQ78⟩ := hG78
  have hP78 : va_P (dC, dI) vwCl (zW_t_readTerm6 p0 o_79 p0_draft f_p0_draft p0_draft_laws o_80 p0_draft_laws_code c_p0_draft_laws_code o_81 p0_text c_p0_text b_p0_text p0_words c_p0_words b_p0_words) H78 := hQ78
  clear hQ78 hP hS
  rcases z_82 with ⟨rfl, z_82⟩ | ⟨rfl, z_82⟩
  · exact jn_2 o_79 o_80 o_81 1 _ _ _ ho_83 (q_fr.rf.tr hf_84 (by decide)) (hf_84.u (by decide) fr_p0_0) (hf_84.u (by decide) fr_p0_1) (hf_84.u (by decide) fr_p0_8) ho_85 (q_fr.rf.tr hf_86 (by decide)) (hf_86.u (by decide) fr_p0_draft_laws_0) (by omega) hP78 hS78 (lv_sub hl [0, 1] rfl)
  · exact jn_2 o_79 o_80 o_81 0 _ _ _ ho_83 (q_fr.rf.tr hf_84 (by decide)) (hf_84.u (by decide) fr_p0_0) (hf_84.u (by decide) fr_p0_1) (hf_84.u (by decide) fr_p0_8) ho_85 (q_fr.rf.tr hf_86 (by decide)) (hf_86.u (by decide) fr_p0_draft_laws_0) (by omega) hP78 hS78 (lv_sub hl [0, 1] rfl)
def zo_t_readSum6 : List Cond := [.code yX4_readSum cX4_readSum 5 (some .boolean), .fieldLink RX4 28 "BowWalk$Reader" "token" "I", .methodLink RX4 78 yX4_step, .instanceMethod yX4_step, .selects RX4 yX4_step yX4_step, .initialized RX4, .methodLink RX4 226 yX4_readTerm, .instanceMethod yX4_readTerm, .selects RX4 yX4_readTerm yX4_readTerm, .methodLink RX4 214 yX4_putToken, .instanceMethod yX4_putToken, .selects RX4 yX4_putToken yX4_putToken]
def zw_t_readSum6 : List Cond := zo_t_readSum6 ++ (zw_t_step ++ (zw_t_readTerm6 ++ (zw_t_putToken ++ (wsX40 ++ []))))
theorem gz_t_readSum6 : zw_t_readSum6.all goodWord = true := p1_ga (by decide +kernel) (p1_ga gz_t_step (p1_ga gz_t_readTerm6 (p1_ga gz_t_putToken (p1_ga gk_X4 p1_g0))))
theorem iz_t_readSum6 : ∀ w ∈ zw_t_readSum6, w ∈ lw_tbl := p1_ia (p1_all [664, 311, 573, 575, 1, 105, 665, 667, 19, 676, 678, 21] (by decide +kernel)) (p1_ia iz_t_step (p1_ia iz_t_readTerm6 (p1_ia iz_t_putToken (p1_ia ik_X4 p1_i0))))
def zW_t_readSum6 (p0 : Nat) (f_p0 : List Value) (p0_draft : Nat) (f_p0_draft : List Value) (p0_draft_laws : Nat) (f_p0_draft_laws : List Value) (p0_draft_laws_code : Nat) (c_p0_draft_laws_code : ClassId) (b_p0_draft_laws_code : Nat → Int32) (p0_text : Nat) (c_p0_text : ClassId) (b_p0_text : Nat → Int32) (p0_words : Nat) (c_p0_words : ClassId) (b_p0_words : Nat → Int64) : va_W := [(p0, .inr (4, f_p0)), (p0_draft, .inr (5, f_p0_draft)), (p0_draft_laws, .inr (3, f_p0_draft_laws)), (p0_draft_laws_code, .inl (c_p0_draft_laws_code, 600, .inl b_p0_draft_laws_code)), (p0_text, .inl (c_p0_text, 1600, .inl b_p0_text)), (p0_words, .inl (c_p0_words, 22, .inr (.inl b_p0_words)))]
def zT_t_readSum6 (c_p0_draft_laws_code : ClassId) (c_p0_text : ClassId) (c_p0_words : ClassId) : List (ClassId × FieldType) := [(c_p0_draft_laws_code, .int), (c_p0_text, .byte), (c_p0_words, .long)]
def zA_t_readSum6 (p0 : Nat) (p0_draft : Nat) (p0_draft_laws : Nat) (p0_draft_laws_code : Nat) (p0_text : Nat) (p0_words : Nat) : List Nat := [p0, p0_draft, p0_draft_laws, p0_draft_laws_code, p0_text, p0_words]
theorem za_t_readSum6 {p0 : Nat} {f_p0 : List Value} {p0_draft : Nat} {f_p0_draft : List Value} {p0_draft_laws : Nat} {f_p0_draft_laws : List Value} {p0_draft_laws_code : Nat} {c_p0_draft_laws_code : ClassId} {b_p0_draft_laws_code : Nat → Int32} {p0_text : Nat} {c_p0_text : ClassId} {b_p0_text : Nat → Int32} {p0_words : Nat} {c_p0_words : ClassId} {b_p0_words : Nat → Int64} : (zW_t_readSum6 p0 f_p0 p0_draft f_p0_draft p0_draft_laws f_p0_draft_laws p0_draft_laws_code c_p0_draft_laws_code b_p0_draft_laws_code p0_text c_p0_text b_p0_text p0_words c_p0_words b_p0_words).map Prod.fst = (zA_t_readSum6 p0 p0_draft p0_draft_laws p0_draft_laws_code p0_text p0_words) := rfl
def zG_t_readSum6 (p0 : Nat) (f_p0 : List Value) (p0_draft : Nat) (f_p0_draft : List Value) (p0_draft_laws : Nat) (f_p0_draft_laws : List Value) (p0_draft_laws_code : Nat) (c_p0_draft_laws_code : ClassId) (b_p0_draft_laws_code : Nat → Int32) (p0_text : Nat) (c_p0_text : ClassId) (b_p0_text : Nat → Int32) (p0_words : Nat) (c_p0_words : ClassId) (b_p0_words : Nat → Int64) (r : Int32) (X : va_W → Prop) : Prop := ∃ (y_p0 : List Value) (y_p0_draft_laws : List Value) (y_p0_draft_laws_code : Nat → Int32), ((r = 1 ∧ (True)) ∨ (r = 0 ∧ (True))) ∧ OKX4 y_p0 ∧ q_fr [3, 4, 5, 6, 7, 9, 10] f_p0 y_p0 ∧ OKX3 y_p0_draft_laws ∧ q_fr [3, 5] f_p0_draft_laws y_p0_draft_laws ∧ X (zW_t_readSum6 p0 y_p0 p0_draft f_p0_draft p0_draft_laws y_p0_draft_laws p0_draft_laws_code c_p0_draft_laws_code y_p0_draft_laws_code p0_text c_p0_text b_p0_text p0_words c_p0_words b_p0_words)
theorem zm_t_readSum6 {p0 : Nat} {f_p0 : List Value} {p0_draft : Nat} {f_p0_draft : List Value} {p0_draft_laws : Nat} {f_p0_draft_laws : List Value} {p0_draft_laws_code : Nat} {c_p0_draft_laws_code : ClassId} {b_p0_draft_laws_code : Nat → Int32} {p0_text : Nat} {c_p0_text : ClassId} {b_p0_text : Nat → Int32} {p0_words : Nat} {c_p0_words : ClassId} {b_p0_words : Nat → Int64} : ∀ (r : Int32), ∀ X Y : va_W → Prop, (∀ w, X w → Y w) → zG_t_readSum6 p0 f_p0 p0_draft f_p0_draft p0_draft_laws f_p0_draft_laws p0_draft_laws_code c_p0_draft_laws_code b_p0_draft_laws_code p0_text c_p0_text b_p0_text p0_words c_p0_words b_p0_words r X → zG_t_readSum6 p0 f_p0 p0_draft f_p0_draft p0_draft_laws f_p0_draft_laws p0_draft_laws_code c_p0_draft_laws_code b_p0_draft_laws_code p0_text c_p0_text b_p0_text p0_words c_p0_words b_p0_words r Y := fun r X Y h h1 => by obtain ⟨x0, x1, x2, x3, x4, x5, x6, x7, hx⟩ := h1; exact ⟨x0, x1, x2, x3, x4, x5, x6, x7, h _ hx⟩
set_option maxHeartbeats 4000000 in
set_option maxRecDepth 100000 in
theorem t_readSum6 (l : Launch) (dC : Nat → ClassId) (dI : Nat → Nat → Nat) (sz : Nat) (p0 : Nat) (f_p0 : List Value) (p0_draft : Nat) (f_p0_draft : List Value) (p0_draft_laws : Nat) (f_p0_draft_laws : List Value) (p0_draft_laws_code : Nat) (c_p0_draft_laws_code : ClassId) (b_p0_draft_laws_code : Nat → Int32) (p0_text : Nat) (c_p0_text : ClassId) (b_p0_text : Nat → Int32) (p0_words : Nat) (c_p0_words : ClassId) (b_p0_words : Nat → Int64) (ho_p0 : OKX4 f_p0) (fr_p0_0 : q_rf f_p0 0 p0_words) (fr_p0_1 : q_rf f_p0 1 p0_text) (fr_p0_8 : q_rf f_p0 8 p0_draft) (ho_p0_draft : OKX5 f_p0_draft) (fr_p0_draft_12 : q_rf f_p0_draft 12 p0_draft_laws) (ho_p0_draft_laws : OKX3 f_p0_draft_laws) (fr_p0_draft_laws_0 : q_rf f_p0_draft_laws 0 p0_draft_laws_code) : Met l yX4_readSum zw_t_readSum6 ({ frames := 15, cells := 0, slots := 0, locals := 335 }) (va_Pc [.ref p0, .int 6] (q_pre (dC, dI) (zW_t_readSum6 p0 f_p0 p0_draft f_p0_draft p0_draft_laws f_p0_draft_laws p0_draft_laws_code c_p0_draft_laws_code b_p0_draft_laws_code p0_text c_p0_text b_p0_text p0_words c_p0_words b_p0_words) (zT_t_readSum6 c_p0_draft_laws_code c_p0_text c_p0_words) q_ex sz)) (q_Qi (dC, dI) (zG_t_readSum6 p0 f_p0 p0_draft f_p0_draft p0_draft_laws f_p0_draft_laws p0_draft_laws_code c_p0_draft_laws_code b_p0_draft_laws_code p0_text c_p0_text b_p0_text p0_words c_p0_words b_p0_words) (zA_t_readSum6 p0 p0_draft p0_draft_laws p0_draft_laws_code p0_text p0_words) (va_A (zW_t_readSum6 p0 f_p0 p0_draft f_p0_draft p0_draft_laws f_p0_draft_laws p0_draft_laws_code c_p0_draft_laws_code b_p0_draft_laws_code p0_text c_p0_text b_p0_text p0_words c_p0_words b_p0_words) sz)) 0 0 (va_A (zW_t_readSum6 p0 f_p0 p0_draft f_p0_draft p0_draft_laws f_p0_draft_laws p0_draft_laws_code c_p0_draft_laws_code b_p0_draft_laws_code p0_text c_p0_text b_p0_text p0_words c_p0_words b_p0_words) sz) := by
  refine Met.ofW (cc := cX4_readSum) (maxL := 5) (ret := (some .boolean)) (by decide) rfl ?_
  intro p e s m args below meth c s₁ B hml hv
  obtain ⟨rfl, hsz, hP, hK, hD0, hE⟩ := hv
  have hx := B.exec
  have hb := B.bytes
  have hr := B.returns
  have hts := atoms_spec (ws := zw_t_readSum6) B.pre
  have hown : s.vm.findClass RX4 = some m.cls := findClass_of_methodNamed B.named
  have hlocks := B.notSynchronized
  subst hsz
  have hD := hD0.self (sz := s.heap.size)
  generalize hAe : va_A (zW_t_readSum6 p0 f_p0 p0_draft f_p0_draft p0_draft_laws f_p0_draft_laws p0_draft_laws_code c_p0_draft_laws_code b_p0_draft_laws_code p0_text c_p0_text b_p0_text p0_words c_p0_words b_p0_words) s.heap.size = A at hD hE ⊢
  have hA : ∀ q : Nat, s.heap.size ≤ q → A q := fun q h => by rw [← hAe]; exact Or.inr h
  have hDa : q_DA A (zA_t_readSum6 p0 p0_draft p0_draft_laws p0_draft_laws_code p0_text p0_words) := q_DA.mk hD za_t_readSum6
  clear hAe hD0 hD
  have hS : va_S A s.heap s.heap [] := va_S.rf
  have m_0 : (.fieldLink RX4 28 "BowWalk$Reader" "token" "I" : Cond) ∈ zw_t_readSum6 := List.mem_append_left _ (List.mem_of_getElem? (i := 1) rfl)
  have k_0 := hts _ m_0
  have m_1 : (.methodLink RX4 78 yX4_step : Cond) ∈ zw_t_readSum6 := List.mem_append_left _ (List.mem_of_getElem? (i := 2) rfl)
  have k_1 := hts _ m_1
  have m_2 : (.instanceMethod yX4_step : Cond) ∈ zw_t_readSum6 := List.mem_append_left _ (List.mem_of_getElem? (i := 3) rfl)
  have k_2 := hts _ m_2
  have m_3 : (.selects RX4 yX4_step yX4_step : Cond) ∈ zw_t_readSum6 := List.mem_append_left _ (List.mem_of_getElem? (i := 4) rfl)
  have k_3 := hts _ m_3
  have m_4 : (.initialized RX4 : Cond) ∈ zw_t_readSum6 := List.mem_append_left _ (List.mem_of_getElem? (i := 5) rfl)
  have k_4 := hts _ m_4
  have m_5 : (.methodLink RX4 226 yX4_readTerm : Cond) ∈ zw_t_readSum6 := List.mem_append_left _ (List.mem_of_getElem? (i := 6) rfl)
  have k_5 := hts _ m_5
  have m_6 : (.instanceMethod yX4_readTerm : Cond) ∈ zw_t_readSum6 := List.mem_append_left _ (List.mem_of_getElem? (i := 7) rfl)
  have k_6 := hts _ m_6
  have m_7 : (.selects RX4 yX4_readTerm yX4_readTerm : Cond) ∈ zw_t_readSum6 := List.mem_append_left _ (List.mem_of_getElem? (i := 8) rfl)
  have k_7 := hts _ m_7
  have m_8 : (.methodLink RX4 214 yX4_putToken : Cond) ∈ zw_t_readSum6 := List.mem_append_left _ (List.mem_of_getElem? (i := 9) rfl)
  have k_8 := hts _ m_8
  have m_9 : (.instanceMethod yX4_putToken : Cond) ∈ zw_t_readSum6 := List.mem_append_left _ (List.mem_of_getElem? (i := 10) rfl)
  have k_9 := hts _ m_9
  have m_10 : (.selects RX4 yX4_putToken yX4_putToken : Cond) ∈ zw_t_readSum6 := List.mem_append_left _ (List.mem_of_getElem? (i := 11) rfl)
  have k_10 := hts _ m_10
  have g_t_step : ∀ w ∈ zw_t_step, w ∈ zw_t_readSum6 := fun w h => List.mem_append_right _ (List.mem_append_left _ h)
  have g_t_readTerm6 : ∀ w ∈ zw_t_readTerm6, w ∈ zw_t_readSum6 := fun w h => List.mem_append_right _ (List.mem_append_right _ (List.mem_append_left _ h))
  have g_t_putToken : ∀ w ∈ zw_t_putToken, w ∈ zw_t_readSum6 := fun w h => List.mem_append_right _ (List.mem_append_right _ (List.mem_append_right _ (List.mem_append_left _ h)))
  have i_X4 : ∀ w ∈ u_ws RX4 TX4 11, w ∈ zw_t_readSum6 := fun w h => List.mem_append_right _ (List.mem_append_right _ (List.mem_append_right _ (List.mem_append_right _ (List.mem_append_left _ h))))
  have lt_0 : (0 : Int32).toInt = 0 := by decide
  have lt_1 : (1 : Int32).toInt = 1 := by decide
  have lt_6 : (6 : Int32).toInt = 6 := by decide
  have lt_43 : (43 : Int32).toInt = 43 := by decide
  have lt_45 : (45 : Int32).toInt = 45 := by decide
  have lt_60 : (60 : Int32).toInt = 60 := by decide
  have hl := lv_entry ([.ref p0, .int 6]) (n := 5) (Nat.le_of_ble_eq_true rfl)
  rw [lg_entry_eq]
  generalize (lg_sl ([.ref p0, .int 6]) ++ List.replicate (5 - (lg_sl ([.ref p0, .int 6])).length) Slot.unset).toArray = ls at hl ⊢
  have hl : lv_has ls 5 [(0, .ref p0), (1, .int 6)] := hl
  have jn_2 : ∀ (fz_p0 : List Value) (fz_p0_draft_laws : List Value) (bz_p0_draft_laws_code : Nat → Int32) (j_1 : Int32) (H : Heap) (locs : List Loc) (ls : Array Slot) (ho_fz_p0 : OKX4 fz_p0) (hf_fz_p0 : q_fr [3, 4, 5, 6, 7, 9, 10] f_p0 fz_p0) (fr_fz_p0_0 : q_rf fz_p0 0 p0_words) (fr_fz_p0_1 : q_rf fz_p0 1 p0_text) (fr_fz_p0_8 : q_rf fz_p0 8 p0_draft) (ho_fz_p0_draft_laws : OKX3 fz_p0_draft_laws) (hf_fz_p0_draft_laws : q_fr [3, 5] f_p0_draft_laws fz_p0_draft_laws) (fr_fz_p0_draft_laws_0 : q_rf fz_p0_draft_laws 0 p0_draft_laws_code) (tj_1 : (0) ≤ j_1.toInt ∧ j_1.toInt ≤ 1), va_P (dC, dI) vwCl (zW_t_readSum6 p0 fz_p0 p0_draft f_p0_draft p0_draft_laws fz_p0_draft_laws p0_draft_laws_code c_p0_draft_laws_code bz_p0_draft_laws_code p0_text c_p0_text b_p0_text p0_words c_p0_words b_p0_words) H → va_S A s.heap H locs → lv_has ls 5 [(0, .ref p0), (1, .int 6)] → W p l e (headSpec zw_t_readSum6 { frames := 15, cells := 0, slots := 0, locals := 335 }).room s m ([.ref p0, .int 6] : List Value).toArray below meth c H locs 0 0 (MQ below (q_Qi (dC, dI) (zG_t_readSum6 p0 f_p0 p0_draft f_p0_draft p0_draft_laws f_p0_draft_laws p0_draft_laws_code c_p0_draft_laws_code b_p0_draft_laws_code p0_text c_p0_text b_p0_text p0_words c_p0_words b_p0_words) (zA_t_readSum6 p0 p0_draft p0_draft_laws p0_draft_laws_code p0_text p0_words) A) ([.ref p0, .int 6] : List Value).toArray s 0 0 A) (F0 m 5 ls [.int j_1]) := by
    intro fz_p0 fz_p0_draft_laws bz_p0_draft_laws_code j_1 H3 lo3 ls ho_fz_p0 hf_fz_p0 fr_fz_p0_0 fr_fz_p0_1 fr_fz_p0_8 ho_fz_p0_draft_laws hf_fz_p0_draft_laws fr_fz_p0_draft_laws_0 tj_1 hP3 hS3 hl
    refine lv_istore_n (lv' := [(2, .int j_1), (0, .ref p0), (1, .int 6)]) hx hb dX4_readSum_5 rfl hl (by decide) rfl (fun ls hl => ?_)
    refine lv_iconst (v := 0) hx hb dX4_readSum_6 (by decide) (lv_istore_n (lv' := [(3, .int 0), (2, .int j_1), (0, .ref p0), (1, .int 6)]) hx hb dX4_readSum_7 rfl hl (by decide) rfl (fun ls hl => ?_))
    have key8 : ∀ (fu8 : Nat) (rd : Int32) (n : Int32) (fz_p0 : List Value) (fz_p0_draft_laws : List Value) (bz_p0_draft_laws_code : Nat → Int32) (H : Heap) (locs : List Loc) (ls : Array Slot) (hfu8 : 60 - n.toInt ≤ (fu8 : Int)) (trd : (0) ≤ rd.toInt ∧ rd.toInt ≤ 1) (tn : (0) ≤ n.toInt ∧ n.toInt ≤ 60) (ho_fz_p0 : OKX4 fz_p0) (hf_fz_p0 : q_fr [3, 4, 5, 6, 7, 9, 10] f_p0 fz_p0) (fr_fz_p0_0 : q_rf fz_p0 0 p0_words) (fr_fz_p0_1 : q_rf fz_p0 1 p0_text) (fr_fz_p0_8 : q_rf fz_p0 8 p0_draft) (ho_fz_p0_draft_laws : OKX3 fz_p0_draft_laws) (hf_fz_p0_draft_laws : q_fr [3, 5] f_p0_draft_laws fz_p0_draft_laws) (fr_fz_p0_draft_laws_0 : q_rf fz_p0_draft_laws 0 p0_draft_laws_code), va_P (dC, dI) vwCl (zW_t_readSum6 p0 fz_p0 p0_draft f_p0_draft p0_draft_laws fz_p0_draft_laws p0_draft_laws_code c_p0_draft_laws_code bz_p0_draft_laws_code p0_text c_p0_text b_p0_text p0_words c_p0_words b_p0_words) H → va_S A s.heap H locs → lv_has ls 5 [(3, .int n), (2, .int rd), (0, .ref p0), (1, .int 6)] → W p l e (headSpec zw_t_readSum6 { frames := 15, cells := 0, slots := 0, locals := 335 }).room s m ([.ref p0, .int 6] : List Value).toArray below meth c H locs 0 0 (MQ below (q_Qi (dC, dI) (zG_t_readSum6 p0 f_p0 p0_draft f_p0_draft p0_draft_laws f_p0_draft_laws p0_draft_laws_code c_p0_draft_laws_code b_p0_draft_laws_code p0_text c_p0_text b_p0_text p0_words c_p0_words b_p0_words) (zA_t_readSum6 p0 p0_draft p0_draft_laws p0_draft_laws_code p0_text p0_words) A) ([.ref p0, .int 6] : List Value).toArray s 0 0 A) (F0 m 8 ls []) := by
      intro fu8
      induction fu8 using Nat.strongRecOn with
      | ind fu8 ih8 =>
        intro rd n fz_p0 fz_p0_draft_laws bz_p0_draft_laws_code H4 lo4 ls hfu8 trd tn ho_fz_p0 hf_fz_p0 fr_fz_p0_0 fr_fz_p0_1 fr_fz_p0_8 ho_fz_p0_draft_laws hf_fz_p0_draft_laws fr_fz_p0_draft_laws_0 hP4 hS4 hl
        refine lv_iload_n hx hb dX4_readSum_8 rfl (lv_at hl 0 rfl) (lv_bipush (v := 60) hx hb dX4_readSum_9 (by decide) ?_)
        refine lv_icmp_ge (tgt := 75) hx hb dX4_readSum_11 (by decide) (fun c_5 => ?_) (fun c_5 => ?_)
        · have tc_5 := q_ge c_5
          refine lv_iload_n hx hb dX4_readSum_75 rfl (lv_at hl 1 rfl) ?_
          rcases q_c2 (i := rd) (by omega) (by omega) with hb_6 | hb_6
          · exact q_zret hx hb hr hlocks (by rw [hb_6]; decide) hS4 dX4_readSum_76 ⟨fz_p0, fz_p0_draft_laws, bz_p0_draft_laws_code, (Or.inr ⟨hb_6, by first | trivial | omega⟩), ho_fz_p0, hf_fz_p0, ho_fz_p0_draft_laws, hf_fz_p0_draft_laws, hP4, za_t_readSum6⟩
          · exact q_zret hx hb hr hlocks (by rw [hb_6]; decide) hS4 dX4_readSum_76 ⟨fz_p0, fz_p0_draft_laws, bz_p0_draft_laws_code, (Or.inl ⟨hb_6, by first | trivial | omega⟩), ho_fz_p0, hf_fz_p0, ho_fz_p0_draft_laws, hf_fz_p0_draft_laws, hP4, za_t_readSum6⟩
        · have tc_5 := q_ltN c_5
          refine lv_iload_n hx hb dX4_readSum_14 rfl (lv_at hl 1 rfl) ?_
          refine lv_if_eq (tgt := 75) hx hb dX4_readSum_15 (by decide) (fun c_7 => ?_) (fun c_7 => ?_)
          · have tc_7 := q_eq c_7
            refine lv_iload_n hx hb dX4_readSum_75 rfl (lv_at hl 1 rfl) ?_
            rcases q_c2 (i := rd) (by omega) (by omega) with hb_8 | hb_8
            · exact q_zret hx hb hr hlocks (by rw [hb_8]; decide) hS4 dX4_readSum_76 ⟨fz_p0, fz_p0_draft_laws, bz_p0_draft_laws_code, (Or.inr ⟨hb_8, by first | trivial | omega⟩), ho_fz_p0, hf_fz_p0, ho_fz_p0_draft_laws, hf_fz_p0_draft_laws, hP4, za_t_readSum6⟩
            · exact q_zret hx hb hr hlocks (by rw [hb_8]; decide) hS4 dX4_readSum_76 ⟨fz_p0, fz_p0_draft_laws, bz_p0_draft_laws_code, (Or.inl ⟨hb_8, by first | trivial | omega⟩), ho_fz_p0, hf_fz_p0, ho_fz_p0_draft_laws, hf_fz_p0_draft_laws, hP4, za_t_readSum6⟩
          · have tc_7 := q_neN c_7
            refine lv_aload_n hx hb dX4_readSum_18 rfl (lv_at hl 2 rfl) ?_
            obtain ⟨v_9, fv_9⟩ := OKX4_g4 ho_fz_p0
            refine qg_X4_4 hx hb hts i_X4 hown hK hP4 0 rfl k_0 fv_9 dX4_readSum_19 (lv_bipush (v := 43) hx hb dX4_readSum_22 (by decide) ?_)
            refine lv_icmp_eq (tgt := 36) hx hb dX4_readSum_24 (by decide) (fun c_10 => ?_) (fun c_10 => ?_)
            · have tc_10 := q_eq c_10
              refine lv_aload_n hx hb dX4_readSum_36 rfl (lv_at hl 2 rfl) (qg_X4_4 hx hb hts i_X4 hown hK hP4 0 rfl k_0 fv_9 dX4_readSum_37 (lv_istore (lv' := [(4, .int v_9), (3, .int n), (2, .int rd), (0, .ref p0), (1, .int 6)]) hx hb dX4_readSum_40 hl (by decide) rfl (fun ls hl => ?_)))
              refine lv_aload_n hx hb dX4_readSum_42 rfl (lv_at hl 3 rfl) ?_
              refine q_cVv (As := []) (rest := []) q_exw hE hK hP4 hDa za_t_readSum6 hS4 hA [0, 4, 5] [1, 2] (by decide +kernel) ⟨hx, hb, hml, hown, hts⟩ (t_step l dC dI H4.size p0 fz_p0 p0_text c_p0_text b_p0_text p0_words c_p0_words b_p0_words ho_fz_p0 fr_fz_p0_0 fr_fz_p0_1) rfl rfl (cwV 0 hts (p1_gV m_1 m_2 m_3 m_4 g_t_step gz_t_step) rfl rfl rfl (by decide +kernel) ⟨by decide, by decide⟩) (va_recv hK hP4 (ci := 4) (q0 := 0) rfl rfl) zm_t_step rfl hl.1 rfl (Nat.le_of_ble_eq_true rfl) dX4_readSum_43 ⟨by decide, by decide⟩ (fun H12 lo12 hG12 hS12 => ?_)
              obtain ⟨o_13, ho_14, hf_15, hQ12⟩ := hG12
              have hP12 : va_P (dC, dI) vwCl (zW_t_readSum6 p0 o_13 p0_draft f_p0_draft p0_draft_laws fz_p0_draft_laws p0_draft_laws_code c_p0_draft_laws_code bz_p0_draft_laws_code p0_text c_p0_text b_p0_text p0_words c_p0_words b_p0_words) H12 := hQ12
              clear hQ12 hP4 hS4
              refine lv_aload_n hx hb dX4_readSum_46 rfl (lv_at hl 3 rfl) (lv_iload_n hx hb dX4_readSum_47 rfl (lv_at hl 4 rfl) ?_)
              refine q_cVi (As := [.int 6]) (rest := []) q_exw hE hK hP12 hDa za_t_readSum6 hS12 hA [0, 1, 2, 3, 4, 5] [0, 1, 2] (by decide +kernel) ⟨hx, hb, hml, hown, hts⟩ (t_readTerm6 l dC dI H12.size p0 o_13 p0_draft f_p0_draft p0_draft_laws fz_p0_draft_laws p0_draft_laws_code c_p0_draft_laws_code bz_p0_draft_laws_code p0_text c_p0_text b_p0_text p0_words c_p0_words b_p0_words ho_14 ((hf_15.u (by decide) fr_fz_p0_0)) ((hf_15.u (by decide) fr_fz_p0_1)) ((hf_15.u (by decide) fr_fz_p0_8)) ho_p0_draft fr_p0_draft_12 ho_fz_p0_draft_laws fr_fz_p0_draft_laws_0) rfl rfl (cwV 1 hts (p1_gV m_5 m_6 m_7 m_4 g_t_readTerm6 gz_t_readTerm6) rfl rfl rfl (by decide +kernel) ⟨by decide, by decide⟩) (va_recv hK hP12 (ci := 4) (q0 := 0) rfl rfl) zm_t_readTerm6 rfl hl.1 rfl (Nat.le_of_ble_eq_true rfl) dX4_readSum_48 ⟨by decide, by decide⟩ (fun r_16 H17 lo17 hG17 hS17 => ?_)
              obtain ⟨o_18, o_19, o_20, z_21, ho_22, hf_23, ho_24, hf_25, hQ17⟩ := hG17
              have hP17 : va_P (dC, dI) vwCl (zW_t_readSum6 p0 o_18 p0_draft f_p0_draft p0_draft_laws o_19 p0_draft_laws_code c_p0_draft_laws_code o_20 p0_text c_p0_text b_p0_text p0_words c_p0_words b_p0_words) H17 := hQ17
              clear hQ17 hP12 hS12
              rcases z_21 with ⟨rfl, z_21⟩ | ⟨rfl, z_21⟩
              · refine lv_if_eq (tgt := 67) hx hb dX4_readSum_51 (by decide) (fun c_26 => absurd c_26 (by decide)) (fun c_26 => ?_)
                refine lv_aload_n hx hb dX4_readSum_54 rfl (lv_at hl 3 rfl) (lv_iload hx hb dX4_readSum_55 (lv_at hl 0 rfl) ?_)
                refine q_cVi (As := [.int v_9]) (rest := []) q_w0 trivial hK hP17 hDa za_t_readSum6 hS17 hA [0, 1, 2, 3] [0] (by decide +kernel) ⟨hx, hb, hml, hown, hts⟩ (t_putToken l dC dI H17.size p0 o_18 p0_draft f_p0_draft p0_draft_laws o_19 p0_draft_laws_code c_p0_draft_laws_code o_20 v_9 ho_22 ((hf_23.u (by decide) (hf_15.u (by decide) fr_fz_p0_8))) ho_p0_draft fr_p0_draft_12 ho_24 ((hf_25.u (by decide) fr_fz_p0_draft_laws_0))) rfl rfl (cwV 1 hts (p1_gV m_8 m_9 m_10 m_4 g_t_putToken gz_t_putToken) rfl rfl rfl (by decide +kernel) ⟨by decide, by decide⟩) (va_recv hK hP17 (ci := 4) (q0 := 0) rfl rfl) zm_t_putToken rfl hl.1 rfl (Nat.le_of_ble_eq_true rfl) dX4_readSum_57 ⟨by decide, by decide⟩ (fun r_27 H28 lo28 hG28 hS28 => ?_)
                obtain ⟨o_29, o_30, o_31, z_32, ho_33, hf_34, ho_35, hf_36, hQ28⟩ := hG28
                have hP28 : va_P (dC, dI) vwCl (zW_t_readSum6 p0 o_29 p0_draft f_p0_draft p0_draft_laws o_30 p0_draft_laws_code c_p0_draft_laws_code o_31 p0_text c_p0_text b_p0_text p0_words c_p0_words b_p0_words) H28 := hQ28
                clear hQ28 hP17 hS17
                rcases z_32 with ⟨rfl, z_32⟩ | ⟨rfl, z_32⟩
                · refine lv_if_eq (tgt := 67) hx hb dX4_readSum_60 (by decide) (fun c_37 => absurd c_37 (by decide)) (fun c_37 => ?_)
                  refine lv_iconst (v := 1) hx hb dX4_readSum_63 (by decide) (lv_goto (tgt := 68) hx hb dX4_readSum_64 (by decide) (lv_istore_n (lv' := [(2, .int 1), (4, .int v_9), (3, .int n), (0, .ref p0), (1, .int 6)]) hx hb dX4_readSum_68 rfl hl (by decide) rfl (fun ls hl => ?_)))
                  obtain ⟨v_38, ev_38⟩ : ∃ y : Int32, y = n + 1 := ⟨_, rfl⟩
                  have tv_38 := q_add ev_38 (by omega) (by omega)
                  refine lv_iinc (v := v_38) (lv' := [(3, .int v_38), (2, .int 1), (4, .int v_9), (0, .ref p0), (1, .int 6)]) hx hb dX4_readSum_69 hl (k := 2) rfl (by rw [ev_38]; rfl) (by decide) rfl (fun ls hl => ?_)
                  refine lv_goto (tgt := 8) hx hb dX4_readSum_72 (by decide) ?_
                  exact ih8 (fu8 - 1) (by omega) 1 v_38 o_29 o_30 o_31 _ _ _ (by omega) (by omega) (by omega) ho_33 (((hf_fz_p0.tr hf_15 (by decide)).tr hf_23 (by decide)).tr hf_34 (by decide)) (hf_34.u (by decide) (hf_23.u (by decide) (hf_15.u (by decide) fr_fz_p0_0))) (hf_34.u (by decide) (hf_23.u (by decide) (hf_15.u (by decide) fr_fz_p0_1))) (hf_34.u (by decide) (hf_23.u (by decide) (hf_15.u (by decide) fr_fz_p0_8))) ho_35 ((hf_fz_p0_draft_laws.tr hf_25 (by decide)).tr hf_36 (by decide)) (hf_36.u (by decide) (hf_25.u (by decide) fr_fz_p0_draft_laws_0)) hP28 hS28 (lv_sub hl [0, 1, 3, 4] rfl)
                · refine lv_if_eq (tgt := 67) hx hb dX4_readSum_60 (by decide) (fun c_39 => ?_) (fun c_39 => absurd c_39 (by decide))
                  refine lv_iconst (v := 0) hx hb dX4_readSum_67 (by decide) (lv_istore_n (lv' := [(2, .int 0), (4, .int v_9), (3, .int n), (0, .ref p0), (1, .int 6)]) hx hb dX4_readSum_68 rfl hl (by decide) rfl (fun ls hl => ?_))
                  obtain ⟨v_40, ev_40⟩ : ∃ y : Int32, y = n + 1 := ⟨_, rfl⟩
                  have tv_40 := q_add ev_40 (by omega) (by omega)
                  refine lv_iinc (v := v_40) (lv' := [(3, .int v_40), (2, .int 0), (4, .int v_9), (0, .ref p0), (1, .int 6)]) hx hb dX4_readSum_69 hl (k := 2) rfl (by rw [ev_40]; rfl) (by decide) rfl (fun ls hl => ?_)
                  refine lv_goto (tgt := 8) hx hb dX4_readSum_72 (by decide) ?_
                  exact ih8 (fu8 - 1) (by omega) 0 v_40 o_29 o_30 o_31 _ _ _ (by omega) (by omega) (by omega) ho_33 (((hf_fz_p0.tr hf_15 (by decide)).tr hf_23 (by decide)).tr hf_34 (by decide)) (hf_34.u (by decide) (hf_23.u (by decide) (hf_15.u (by decide) fr_fz_p0_0))) (hf_34.u (by decide) (hf_23.u (by decide) (hf_15.u (by decide) fr_fz_p0_1))) (hf_34.u (by decide) (hf_23.u (by decide) (hf_15.u (by decide) fr_fz_p0_8))) ho_35 ((hf_fz_p0_draft_laws.tr hf_25 (by decide)).tr hf_36 (by decide)) (hf_36.u (by decide) (hf_25.u (by decide) fr_fz_p0_draft_laws_0)) hP28 hS28 (lv_sub hl [0, 1, 3, 4] rfl)
              · refine lv_if_eq (tgt := 67) hx hb dX4_readSum_51 (by decide) (fun c_41 => ?_) (fun c_41 => absurd c_41 (by decide))
                refine lv_iconst (v := 0) hx hb dX4_readSum_67 (by decide) (lv_istore_n (lv' := [(2, .int 0), (4, .int v_9), (3, .int n), (0, .ref p0), (1, .int 6)]) hx hb dX4_readSum_68 rfl hl (by decide) rfl (fun ls hl => ?_))
                obtain ⟨v_42, ev_42⟩ : ∃ y : Int32, y = n + 1 := ⟨_, rfl⟩
                have tv_42 := q_add ev_42 (by omega) (by omega)
                refine lv_iinc (v := v_42) (lv' := [(3, .int v_42), (2, .int 0), (4, .int v_9), (0, .ref p0), (1, .int 6)]) hx hb dX4_readSum_69 hl (k := 2) rfl (by rw [ev_42]; rfl) (by decide) rfl (fun ls hl => ?_)
                refine lv_goto (tgt := 8) hx hb dX4_readSum_72 (by decide) ?_
                exact ih8 (fu8 - 1) (by omega) 0 v_42 o_18 o_19 o_20 _ _ _ (by omega) (by omega) (by omega) ho_22 ((hf_fz_p0.tr hf_15 (by decide)).tr hf_23 (by decide)) (hf_23.u (by decide) (hf_15.u (by decide) fr_fz_p0_0)) (hf_23.u (by decide) (hf_15.u (by decide) fr_fz_p0_1)) (hf_23.u (by decide) (hf_15.u (by decide) fr_fz_p0_8)) ho_24 (hf_fz_p0_draft_laws.tr hf_25 (by decide)) (hf_25.u (by decide) fr_fz_p0_draft_laws_0) hP17 hS17 (lv_sub hl [0, 1, 3, 4] rfl)
            · have tc_10 := q_neN c_10
              refine lv_aload_n hx hb dX4_readSum_27 rfl (lv_at hl 2 rfl) (qg_X4_4 hx hb hts i_X4 hown hK hP4 0 rfl k_0 fv_9 dX4_readSum_28 (lv_bipush (v := 45) hx hb dX4_readSum_31 (by decide) ?_))
              refine lv_icmp_ne (tgt := 75) hx hb dX4_readSum_33 (by decide) (fun c_43 => ?_) (fun c_43 => ?_)
              · have tc_43 := q_ne c_43
                refine lv_iload_n hx hb dX4_readSum_75 rfl (lv_at hl 1 rfl) ?_
                rcases q_c2 (i := rd) (by omega) (by omega) with hb_44 | hb_44
                · exact q_zret hx hb hr hlocks (by rw [hb_44]; decide) hS4 dX4_readSum_76 ⟨fz_p0, fz_p0_draft_laws, bz_p0_draft_laws_code, (Or.inr ⟨hb_44, by first | trivial | omega⟩), ho_fz_p0, hf_fz_p0, ho_fz_p0_draft_laws, hf_fz_p0_draft_laws, hP4, za_t_readSum6⟩
                · exact q_zret hx hb hr hlocks (by rw [hb_44]; decide) hS4 dX4_readSum_76 ⟨fz_p0, fz_p0_draft_laws, bz_p0_draft_laws_code, (Or.inl ⟨hb_44, by first | trivial | omega⟩), ho_fz_p0, hf_fz_p0, ho_fz_p0_draft_laws, hf_fz_p0_draft_laws, hP4, za_t_readSum6⟩
              · have tc_43 := q_eqN c_43
                refine lv_aload_n hx hb dX4_readSum_36 rfl (lv_at hl 2 rfl) (qg_X4_4 hx hb hts i_X4 hown hK hP4 0 rfl k_0 fv_9 dX4_readSum_37 (lv_istore (lv' := [(4, .int v_9), (3, .int n), (2, .int rd), (0, .ref p0), (1, .int 6)]) hx hb dX4_readSum_40 hl (by decide) rfl (fun ls hl => ?_)))
                refine lv_aload_n hx hb dX4_readSum_42 rfl (lv_at hl 3 rfl) ?_
                refine q_cVv (As := []) (rest := []) q_exw hE hK hP4 hDa za_t_readSum6 hS4 hA [0, 4, 5] [1, 2] (by decide +kernel) ⟨hx, hb, hml, hown, hts⟩ (t_step l dC dI H4.size p0 fz_p0 p0_text c_p0_text b_p0_text p0_words c_p0_words b_p0_words ho_fz_p0 fr_fz_p0_0 fr_fz_p0_1) rfl rfl (cwV 0 hts (p1_gV m_1 m_2 m_3 m_4 g_t_step gz_t_step) rfl rfl rfl (by decide +kernel) ⟨by decide, by decide⟩) (va_recv hK hP4 (ci := 4) (q0 := 0) rfl rfl) zm_t_step rfl hl.1 rfl (Nat.le_of_ble_eq_true rfl) dX4_readSum_43 ⟨by decide, by decide⟩ (fun H46 lo46 hG46 hS46 => ?_)
                obtain ⟨o_47, ho_48, hf_49, hQ46⟩ := hG46
                have hP46 : va_P (dC, dI) vwCl (zW_t_readSum6 p0 o_47 p0_draft f_p0_draft p0_draft_laws fz_p0_draft_laws p0_draft_laws_code c_p0_draft_laws_code bz_p0_draft_laws_code p0_text c_p0_text b_p0_text p0_words c_p0_words b_p0_words) H46 := hQ46
                clear hQ46 hP4 hS4
                refine lv_aload_n hx hb dX4_readSum_46 rfl (lv_at hl 3 rfl) (lv_iload_n hx hb dX4_readSum_47 rfl (lv_at hl 4 rfl) ?_)
                refine q_cVi (As := [.int 6]) (rest := []) q_exw hE hK hP46 hDa za_t_readSum6 hS46 hA [0, 1, 2, 3, 4, 5] [0, 1, 2] (by decide +kernel) ⟨hx, hb, hml, hown, hts⟩ (t_readTerm6 l dC dI H46.size p0 o_47 p0_draft f_p0_draft p0_draft_laws fz_p0_draft_laws p0_draft_laws_code c_p0_draft_laws_code bz_p0_draft_laws_code p0_text c_p0_text b_p0_text p0_words c_p0_words b_p0_words ho_48 ((hf_49.u (by decide) fr_fz_p0_0)) ((hf_49.u (by decide) fr_fz_p0_1)) ((hf_49.u (by decide) fr_fz_p0_8)) ho_p0_draft fr_p0_draft_12 ho_fz_p0_draft_laws fr_fz_p0_draft_laws_0) rfl rfl (cwV 1 hts (p1_gV m_5 m_6 m_7 m_4 g_t_readTerm6 gz_t_readTerm6) rfl rfl rfl (by decide +kernel) ⟨by decide, by decide⟩) (va_recv hK hP46 (ci := 4) (q0 := 0) rfl rfl) zm_t_readTerm6 rfl hl.1 rfl (Nat.le_of_ble_eq_true rfl) dX4_readSum_48 ⟨by decide, by decide⟩ (fun r_50 H51 lo51 hG51 hS51 => ?_)
                obtain ⟨o_52, o_53, o_54, z_55, ho_56, hf_57, ho_58, hf_59, hQ51⟩ := hG51
                have hP51 : va_P (dC, dI) vwCl (zW_t_readSum6 p0 o_52 p0_draft f_p0_draft p0_draft_laws o_53 p0_draft_laws_code c_p0_draft_laws_code o_54 p0_text c_p0_text b_p0_text p0_words c_p0_words b_p0_words) H51 := hQ51
                clear hQ51 hP46 hS46
                rcases z_55 with ⟨rfl, z_55⟩ | ⟨rfl, z_55⟩
                · refine lv_if_eq (tgt := 67) hx hb dX4_readSum_51 (by decide) (fun c_60 => absurd c_60 (by decide)) (fun c_60 => ?_)
                  refine lv_aload_n hx hb dX4_readSum_54 rfl (lv_at hl 3 rfl) (lv_iload hx hb dX4_readSum_55 (lv_at hl 0 rfl) ?_)
                  refine q_cVi (As := [.int v_9]) (rest := []) q_w0 trivial hK hP51 hDa za_t_readSum6 hS51 hA [0, 1, 2, 3] [0] (by decide +kernel) ⟨hx, hb, hml, hown, hts⟩ (t_putToken l dC dI H51.size p0 o_52 p0_draft f_p0_draft p0_draft_laws o_53 p0_draft_laws_code c_p0_draft_laws_code o_54 v_9 ho_56 ((hf_57.u (by decide) (hf_49.u (by decide) fr_fz_p0_8))) ho_p0_draft fr_p0_draft_12 ho_58 ((hf_59.u (by decide) fr_fz_p0_draft_laws_0))) rfl rfl (cwV 1 hts (p1_gV m_8 m_9 m_10 m_4 g_t_putToken gz_t_putToken) rfl rfl rfl (by decide +kernel) ⟨by decide, by decide⟩) (va_recv hK hP51 (ci := 4) (q0 := 0) rfl rfl) zm_t_putToken rfl hl.1 rfl (Nat.le_of_ble_eq_true rfl) dX4_readSum_57 ⟨by decide, by decide⟩ (fun r_61 H62 lo62 hG62 hS62 => ?_)
                  obtain ⟨o_63, o_64, o_65, z_66, ho_67, hf_68, ho_69, hf_70, hQ62⟩ := hG62
                  have hP62 : va_P (dC, dI) vwCl (zW_t_readSum6 p0 o_63 p0_draft f_p0_draft p0_draft_laws o_64 p0_draft_laws_code c_p0_draft_laws_code o_65 p0_text c_p0_text b_p0_text p0_words c_p0_words b_p0_words) H62 := hQ62
                  clear hQ62 hP51 hS51
                  rcases z_66 with ⟨rfl, z_66⟩ | ⟨rfl, z_66⟩
                  · refine lv_if_eq (tgt := 67) hx hb dX4_readSum_60 (by decide) (fun c_71 => absurd c_71 (by decide)) (fun c_71 => ?_)
                    refine lv_iconst (v := 1) hx hb dX4_readSum_63 (by decide) (lv_goto (tgt := 68) hx hb dX4_readSum_64 (by decide) (lv_istore_n (lv' := [(2, .int 1), (4, .int v_9), (3, .int n), (0, .ref p0), (1, .int 6)]) hx hb dX4_readSum_68 rfl hl (by decide) rfl (fun ls hl => ?_)))
                    obtain ⟨v_72, ev_72⟩ : ∃ y : Int32, y = n + 1 := ⟨_, rfl⟩
                    have tv_72 := q_add ev_72 (by omega) (by omega)
                    refine lv_iinc (v := v_72) (lv' := [(3, .int v_72), (2, .int 1), (4, .int v_9), (0, .ref p0), (1, .int 6)]) hx hb dX4_readSum_69 hl (k := 2) rfl (by rw [ev_72]; rfl) (by decide) rfl (fun ls hl => ?_)
                    refine lv_goto (tgt := 8) hx hb dX4_readSum_72 (by decide) ?_
                    exact ih8 (fu8 - 1) (by omega) 1 v_72 o_63 o_64 o_65 _ _ _ (by omega) (by omega) (by omega) ho_67 (((hf_fz_p0.tr hf_49 (by decide)).tr hf_57 (by decide)).tr hf_68 (by decide)) (hf_68.u (by decide) (hf_57.u (by decide) (hf_49.u (by decide) fr_fz_p0_0))) (hf_68.u (by decide) (hf_57.u (by decide) (hf_49.u (by decide) fr_fz_p0_1))) (hf_68.u (by decide) (hf_57.u (by decide) (hf_49.u (by decide) fr_fz_p0_8))) ho_69 ((hf_fz_p0_draft_laws.tr hf_59 (by decide)).tr hf_70 (by decide)) (hf_70.u (by decide) (hf_59.u (by decide) fr_fz_p0_draft_laws_0)) hP62 hS62 (lv_sub hl [0, 1, 3, 4] rfl)
                  · refine lv_if_eq (tgt := 67) hx hb dX4_readSum_60 (by decide) (fun c_73 => ?_) (fun c_73 => absurd c_73 (by decide))
                    refine lv_iconst (v := 0) hx hb dX4_readSum_67 (by decide) (lv_istore_n (lv' := [(2, .int 0), (4, .int v_9), (3, .int n), (0, .ref p0), (1, .int 6)]) hx hb dX4_readSum_68 rfl hl (by decide) rfl (fun ls hl => ?_))
                    obtain ⟨v_74, ev_74⟩ : ∃ y : Int32, y = n + 1 := ⟨_, rfl⟩
                    have tv_74 := q_add ev_74 (by omega) (by omega)
                    refine lv_iinc (v := v_74) (lv' := [(3, .int v_74), (2, .int 0), (4, .int v_9), (0, .ref p0), (1, .int 6)]) hx hb dX4_readSum_69 hl (k := 2) rfl (by rw [ev_74]; rfl) (by decide) rfl (fun ls hl => ?_)
                    refine lv_goto (tgt := 8) hx hb dX4_readSum_72 (by decide) ?_
                    exact ih8 (fu8 - 1) (by omega) 0 v_74 o_63 o_64 o_65 _ _ _ (by omega) (by omega) (by omega) ho_67 (((hf_fz_p0.tr hf_49 (by decide)).tr hf_57 (by decide)).tr hf_68 (by decide)) (hf_68.u (by decide) (hf_57.u (by decide) (hf_49.u (by decide) fr_fz_p0_0))) (hf_68.u (by decide) (hf_57.u (by decide) (hf_49.u (by decide) fr_fz_p0_1))) (hf_68.u (by decide) (hf_57.u (by decide) (hf_49.u (by decide) fr_fz_p0_8))) ho_69 ((hf_fz_p0_draft_laws.tr hf_59 (by decide)).tr hf_70 (by decide)) (hf_70.u (by decide) (hf_59.u (by decide) fr_fz_p0_draft_laws_0)) hP62 hS62 (lv_sub hl [0, 1, 3, 4] rfl)
                · refine lv_if_eq (tgt := 67) hx hb dX4_readSum_51 (by decide) (fun c_75 => ?_) (fun c_75 => absurd c_75 (by decide))
                  refine lv_iconst (v := 0) hx hb dX4_readSum_67 (by decide) (lv_istore_n (lv' := [(2, .int 0), (4, .int v_9), (3, .int n), (0, .ref p0), (1, .int 6)]) hx hb dX4_readSum_68 rfl hl (by decide) rfl (fun ls hl => ?_))
                  obtain ⟨v_76, ev_76⟩ : ∃ y : Int32, y = n + 1 := ⟨_, rfl⟩
                  have tv_76 := q_add ev_76 (by omega) (by omega)
                  refine lv_iinc (v := v_76) (lv' := [(3, .int v_76), (2, .int 0), (4, .int v_9), (0, .ref p0), (1, .int 6)]) hx hb dX4_readSum_69 hl (k := 2) rfl (by rw [ev_76]; rfl) (by decide) rfl (fun ls hl => ?_)
                  refine lv_goto (tgt := 8) hx hb dX4_readSum_72 (by decide) ?_
                  exact ih8 (fu8 - 1) (by omega) 0 v_76 o_52 o_53 o_54 _ _ _ (by omega) (by omega) (by omega) ho_56 ((hf_fz_p0.tr hf_49 (by decide)).tr hf_57 (by decide)) (hf_57.u (by decide) (hf_49.u (by decide) fr_fz_p0_0)) (hf_57.u (by decide) (hf_49.u (by decide) fr_fz_p0_1)) (hf_57.u (by decide) (hf_49.u (by decide) fr_fz_p0_8)) ho_58 (hf_fz_p0_draft_laws.tr hf_59 (by decide)) (hf_59.u (by decide) fr_fz_p0_draft_laws_0) hP51 hS51 (lv_sub hl [0, 1, 3, 4] rfl)
    exact key8 60 j_1 0 fz_p0 fz_p0_draft_laws bz_p0_draft_laws_code _ _ _ (by omega) (by omega) (by omega) ho_fz_p0 hf_fz_p0 fr_fz_p0_0 fr_fz_p0_1 fr_fz_p0_8 ho_fz_p0_draft_laws hf_fz_p0_draft_laws fr_fz_p0_draft_laws_0 hP3 hS3 (lv_sub hl [0, 1, 2, 3] rfl)
  refine lv_aload_n hx hb dX4_readSum_0 rfl (lv_at hl 0 rfl) (lv_iload_n hx hb dX4_readSum_1 rfl (lv_at hl 1 rfl) ?_)
  refine q_cVi (As := [.int 6]) (rest := []) q_exw hE hK hP hDa za_t_readSum6 hS hA [0, 1, 2, 3, 4, 5] [0, 1, 2] (by decide +kernel) ⟨hx, hb, hml, hown, hts⟩ (t_readTerm6 l dC dI s.heap.size p0 f_p0 p0_draft f_p0_draft p0_draft_laws f_p0_draft_laws p0_draft_laws_code c_p0_draft_laws_code b_p0_draft_laws_code p0_text c_p0_text b_p0_text p0_words c_p0_words b_p0_words ho_p0 fr_p0_0 fr_p0_1 fr_p0_8 ho_p0_draft fr_p0_draft_12 ho_p0_draft_laws fr_p0_draft_laws_0) rfl rfl (cwV 1 hts (p1_gV m_5 m_6 m_7 m_4 g_t_readTerm6 gz_t_readTerm6) rfl rfl rfl (by decide +kernel) ⟨by decide, by decide⟩) (va_recv hK hP (ci := 4) (q0 := 0) rfl rfl) zm_t_readTerm6 rfl hl.1 rfl (Nat.le_of_ble_eq_true rfl) dX4_readSum_2 ⟨by decide, by decide⟩ (fun r_77 H78 lo78 hG78 hS78 => ?_)
  obtain ⟨o_79, o_80, o_81, z_82, ho_83, hf_84, ho_85, hf_86, hQ78⟩ := hG78
  have hP78 : va_P (dC, dI) vwCl (zW_t_readSum6 p0 o_79 p0_draft f_p0_draft p0_draft_laws o_80 p0_draft_laws_code c_p0_draft_laws_code o_81 p0_text c_p0_text b_p0_text p0_words c_p0_words b_p0_words) H78 := hQ78
  clear hQ78 hP hS
  rcases z_82 with ⟨rfl, z_82⟩ | ⟨rfl, z_82⟩
  · exact jn_2 o_79 o_80 o_81 1 _ _ _ ho_83 (q_fr.rf.tr hf_84 (by decide)) (hf_84.u (by decide) fr_p0_0) (hf_84.u (by decide) fr_p0_1) (hf_84.u (by decide) fr_p0_8) ho_85 (q_fr.rf.tr hf_86 (by decide)) (hf_86.u (by decide) fr_p0_draft_laws_0) (by omega) hP78 hS78 (lv_sub hl [0, 1] rfl)
  · exact jn_2 o_79 o_80 o_81 0 _ _ _ ho_83 (q_fr.rf.tr hf_84 (by decide)) (hf_84.u (by decide) fr_p0_0) (hf_84.u (by decide) fr_p0_1) (hf_84.u (by decide) fr_p0_8) ho_85 (q_fr.rf.tr hf_86 (by decide)) (hf_86.u (by decide) fr_p0_draft_laws_0) (by omega) hP78 hS78 (lv_sub hl [0, 1] rfl)
def zo_t_readRelation6 : List Cond := [.code yX4_readRelation cX4_readRelation 3 (some .boolean), .methodLink RX4 223 yX4_readSum, .instanceMethod yX4_readSum, .selects RX4 yX4_readSum yX4_readSum, .initialized RX4, .fieldLink RX4 28 "BowWalk$Reader" "token" "I", .methodLink RX4 78 yX4_step, .instanceMethod yX4_step, .selects RX4 yX4_step yX4_step, .methodLink RX4 214 yX4_putToken, .instanceMethod yX4_putToken, .selects RX4 yX4_putToken yX4_putToken]
def zw_t_readRelation6 : List Cond := zo_t_readRelation6 ++ (zw_t_readSum6 ++ (zw_t_step ++ (zw_t_putToken ++ (wsX40 ++ []))))
theorem gz_t_readRelation6 : zw_t_readRelation6.all goodWord = true := p1_ga (by decide +kernel) (p1_ga gz_t_readSum6 (p1_ga gz_t_step (p1_ga gz_t_putToken (p1_ga gk_X4 p1_g0))))
theorem iz_t_readRelation6 : ∀ w ∈ zw_t_readRelation6, w ∈ lw_tbl := p1_ia (p1_all [660, 661, 663, 18, 105, 311, 573, 575, 1, 676, 678, 21] (by decide +kernel)) (p1_ia iz_t_readSum6 (p1_ia iz_t_step (p1_ia iz_t_putToken (p1_ia ik_X4 p1_i0))))
def zW_t_readRelation6 (p0 : Nat) (f_p0 : List Value) (p0_draft : Nat) (f_p0_draft : List Value) (p0_draft_laws : Nat) (f_p0_draft_laws : List Value) (p0_draft_laws_code : Nat) (c_p0_draft_laws_code : ClassId) (b_p0_draft_laws_code : Nat → Int32) (p0_text : Nat) (c_p0_text : ClassId) (b_p0_text : Nat → Int32) (p0_words : Nat) (c_p0_words : ClassId) (b_p0_words : Nat → Int64) : va_W := [(p0, .inr (4, f_p0)), (p0_draft, .inr (5, f_p0_draft)), (p0_draft_laws, .inr (3, f_p0_draft_laws)), (p0_draft_laws_code, .inl (c_p0_draft_laws_code, 600, .inl b_p0_draft_laws_code)), (p0_text, .inl (c_p0_text, 1600, .inl b_p0_text)), (p0_words, .inl (c_p0_words, 22, .inr (.inl b_p0_words)))]
def zT_t_readRelation6 (c_p0_draft_laws_code : ClassId) (c_p0_text : ClassId) (c_p0_words : ClassId) : List (ClassId × FieldType) := [(c_p0_draft_laws_code, .int), (c_p0_text, .byte), (c_p0_words, .long)]
def zA_t_readRelation6 (p0 : Nat) (p0_draft : Nat) (p0_draft_laws : Nat) (p0_draft_laws_code : Nat) (p0_text : Nat) (p0_words : Nat) : List Nat := [p0, p0_draft, p0_draft_laws, p0_draft_laws_code, p0_text, p0_words]
theorem za_t_readRelation6 {p0 : Nat} {f_p0 : List Value} {p0_draft : Nat} {f_p0_draft : List Value} {p0_draft_laws : Nat} {f_p0_draft_laws : List Value} {p0_draft_laws_code : Nat} {c_p0_draft_laws_code : ClassId} {b_p0_draft_laws_code : Nat → Int32} {p0_text : Nat} {c_p0_text : ClassId} {b_p0_text : Nat → Int32} {p0_words : Nat} {c_p0_words : ClassId} {b_p0_words : Nat → Int64} : (zW_t_readRelation6 p0 f_p0 p0_draft f_p0_draft p0_draft_laws f_p0_draft_laws p0_draft_laws_code c_p0_draft_laws_code b_p0_draft_laws_code p0_text c_p0_text b_p0_text p0_words c_p0_words b_p0_words).map Prod.fst = (zA_t_readRelation6 p0 p0_draft p0_draft_laws p0_draft_laws_code p0_text p0_words) := rfl
def zG_t_readRelation6 (p0 : Nat) (f_p0 : List Value) (p0_draft : Nat) (f_p0_draft : List Value) (p0_draft_laws : Nat) (f_p0_draft_laws : List Value) (p0_draft_laws_code : Nat) (c_p0_draft_laws_code : ClassId) (b_p0_draft_laws_code : Nat → Int32) (p0_text : Nat) (c_p0_text : ClassId) (b_p0_text : Nat → Int32) (p0_words : Nat) (c_p0_words : ClassId) (b_p0_words : Nat → Int64) (r : Int32) (X : va_W → Prop) : Prop := ∃ (y_p0 : List Value) (y_p0_draft_laws : List Value) (y_p0_draft_laws_code : Nat → Int32), ((r = 1 ∧ (True)) ∨ (r = 0 ∧ (True))) ∧ OKX4 y_p0 ∧ q_fr [3, 4, 5, 6, 7, 9, 10] f_p0 y_p0 ∧ OKX3 y_p0_draft_laws ∧ q_fr [3, 5] f_p0_draft_laws y_p0_draft_laws ∧ X (zW_t_readRelation6 p0 y_p0 p0_draft f_p0_draft p0_draft_laws y_p0_draft_laws p0_draft_laws_code c_p0_draft_laws_code y_p0_draft_laws_code p0_text c_p0_text b_p0_text p0_words c_p0_words b_p0_words)
theorem zm_t_readRelation6 {p0 : Nat} {f_p0 : List Value} {p0_draft : Nat} {f_p0_draft : List Value} {p0_draft_laws : Nat} {f_p0_draft_laws : List Value} {p0_draft_laws_code : Nat} {c_p0_draft_laws_code : ClassId} {b_p0_draft_laws_code : Nat → Int32} {p0_text : Nat} {c_p0_text : ClassId} {b_p0_text : Nat → Int32} {p0_words : Nat} {c_p0_words : ClassId} {b_p0_words : Nat → Int64} : ∀ (r : Int32), ∀ X Y : va_W → Prop, (∀ w, X w → Y w) → zG_t_readRelation6 p0 f_p0 p0_draft f_p0_draft p0_draft_laws f_p0_draft_laws p0_draft_laws_code c_p0_draft_laws_code b_p0_draft_laws_code p0_text c_p0_text b_p0_text p0_words c_p0_words b_p0_words r X → zG_t_readRelation6 p0 f_p0 p0_draft f_p0_draft p0_draft_laws f_p0_draft_laws p0_draft_laws_code c_p0_draft_laws_code b_p0_draft_laws_code p0_text c_p0_text b_p0_text p0_words c_p0_words b_p0_words r Y := fun r X Y h h1 => by obtain ⟨x0, x1, x2, x3, x4, x5, x6, x7, hx⟩ := h1; exact ⟨x0, x1, x2, x3, x4, x5, x6, x7, h _ hx⟩
set_option maxHeartbeats 4000000 in
set_option maxRecDepth 100000 in
theorem t_readRelation6 (l : Launch) (dC : Nat → ClassId) (dI : Nat → Nat → Nat) (sz : Nat) (p0 : Nat) (f_p0 : List Value) (p0_draft : Nat) (f_p0_draft : List Value) (p0_draft_laws : Nat) (f_p0_draft_laws : List Value) (p0_draft_laws_code : Nat) (c_p0_draft_laws_code : ClassId) (b_p0_draft_laws_code : Nat → Int32) (p0_text : Nat) (c_p0_text : ClassId) (b_p0_text : Nat → Int32) (p0_words : Nat) (c_p0_words : ClassId) (b_p0_words : Nat → Int64) (ho_p0 : OKX4 f_p0) (fr_p0_0 : q_rf f_p0 0 p0_words) (fr_p0_1 : q_rf f_p0 1 p0_text) (fr_p0_8 : q_rf f_p0 8 p0_draft) (ho_p0_draft : OKX5 f_p0_draft) (fr_p0_draft_12 : q_rf f_p0_draft 12 p0_draft_laws) (ho_p0_draft_laws : OKX3 f_p0_draft_laws) (fr_p0_draft_laws_0 : q_rf f_p0_draft_laws 0 p0_draft_laws_code) : Met l yX4_readRelation zw_t_readRelation6 ({ frames := 16, cells := 0, slots := 0, locals := 359 }) (va_Pc [.ref p0, .int 6] (q_pre (dC, dI) (zW_t_readRelation6 p0 f_p0 p0_draft f_p0_draft p0_draft_laws f_p0_draft_laws p0_draft_laws_code c_p0_draft_laws_code b_p0_draft_laws_code p0_text c_p0_text b_p0_text p0_words c_p0_words b_p0_words) (zT_t_readRelation6 c_p0_draft_laws_code c_p0_text c_p0_words) q_ex sz)) (q_Qi (dC, dI) (zG_t_readRelation6 p0 f_p0 p0_draft f_p0_draft p0_draft_laws f_p0_draft_laws p0_draft_laws_code c_p0_draft_laws_code b_p0_draft_laws_code p0_text c_p0_text b_p0_text p0_words c_p0_words b_p0_words) (zA_t_readRelation6 p0 p0_draft p0_draft_laws p0_draft_laws_code p0_text p0_words) (va_A (zW_t_readRelation6 p0 f_p0 p0_draft f_p0_draft p0_draft_laws f_p0_draft_laws p0_draft_laws_code c_p0_draft_laws_code b_p0_draft_laws_code p0_text c_p0_text b_p0_text p0_words c_p0_words b_p0_words) sz)) 0 0 (va_A (zW_t_readRelation6 p0 f_p0 p0_draft f_p0_draft p0_draft_laws f_p0_draft_laws p0_draft_laws_code c_p0_draft_laws_code b_p0_draft_laws_code p0_text c_p0_text b_p0_text p0_words c_p0_words b_p0_words) sz) := by
  refine Met.ofW (cc := cX4_readRelation) (maxL := 3) (ret := (some .boolean)) (by decide) rfl ?_
  intro p e s m args below meth c s₁ B hml hv
  obtain ⟨rfl, hsz, hP, hK, hD0, hE⟩ := hv
  have hx := B.exec
  have hb := B.bytes
  have hr := B.returns
  have hts := atoms_spec (ws := zw_t_readRelation6) B.pre
  have hown : s.vm.findClass RX4 = some m.cls := findClass_of_methodNamed B.named
  have hlocks := B.notSynchronized
  subst hsz
  have hD := hD0.self (sz := s.heap.size)
  generalize hAe : va_A (zW_t_readRelation6 p0 f_p0 p0_draft f_p0_draft p0_draft_laws f_p0_draft_laws p0_draft_laws_code c_p0_draft_laws_code b_p0_draft_laws_code p0_text c_p0_text b_p0_text p0_words c_p0_words b_p0_words) s.heap.size = A at hD hE ⊢
  have hA : ∀ q : Nat, s.heap.size ≤ q → A q := fun q h => by rw [← hAe]; exact Or.inr h
  have hDa : q_DA A (zA_t_readRelation6 p0 p0_draft p0_draft_laws p0_draft_laws_code p0_text p0_words) := q_DA.mk hD za_t_readRelation6
  clear hAe hD0 hD
  have hS : va_S A s.heap s.heap [] := va_S.rf
  have m_0 : (.methodLink RX4 223 yX4_readSum : Cond) ∈ zw_t_readRelation6 := List.mem_append_left _ (List.mem_of_getElem? (i := 1) rfl)
  have k_0 := hts _ m_0
  have m_1 : (.instanceMethod yX4_readSum : Cond) ∈ zw_t_readRelation6 := List.mem_append_left _ (List.mem_of_getElem? (i := 2) rfl)
  have k_1 := hts _ m_1
  have m_2 : (.selects RX4 yX4_readSum yX4_readSum : Cond) ∈ zw_t_readRelation6 := List.mem_append_left _ (List.mem_of_getElem? (i := 3) rfl)
  have k_2 := hts _ m_2
  have m_3 : (.initialized RX4 : Cond) ∈ zw_t_readRelation6 := List.mem_append_left _ (List.mem_of_getElem? (i := 4) rfl)
  have k_3 := hts _ m_3
  have m_4 : (.fieldLink RX4 28 "BowWalk$Reader" "token" "I" : Cond) ∈ zw_t_readRelation6 := List.mem_append_left _ (List.mem_of_getElem? (i := 5) rfl)
  have k_4 := hts _ m_4
  have m_5 : (.methodLink RX4 78 yX4_step : Cond) ∈ zw_t_readRelation6 := List.mem_append_left _ (List.mem_of_getElem? (i := 6) rfl)
  have k_5 := hts _ m_5
  have m_6 : (.instanceMethod yX4_step : Cond) ∈ zw_t_readRelation6 := List.mem_append_left _ (List.mem_of_getElem? (i := 7) rfl)
  have k_6 := hts _ m_6
  have m_7 : (.selects RX4 yX4_step yX4_step : Cond) ∈ zw_t_readRelation6 := List.mem_append_left _ (List.mem_of_getElem? (i := 8) rfl)
  have k_7 := hts _ m_7
  have m_8 : (.methodLink RX4 214 yX4_putToken : Cond) ∈ zw_t_readRelation6 := List.mem_append_left _ (List.mem_of_getElem? (i := 9) rfl)
  have k_8 := hts _ m_8
  have m_9 : (.instanceMethod yX4_putToken : Cond) ∈ zw_t_readRelation6 := List.mem_append_left _ (List.mem_of_getElem? (i := 10) rfl)
  have k_9 := hts _ m_9
  have m_10 : (.selects RX4 yX4_putToken yX4_putToken : Cond) ∈ zw_t_readRelation6 := List.mem_append_left _ (List.mem_of_getElem? (i := 11) rfl)
  have k_10 := hts _ m_10
  have g_t_readSum6 : ∀ w ∈ zw_t_readSum6, w ∈ zw_t_readRelation6 := fun w h => List.mem_append_right _ (List.mem_append_left _ h)
  have g_t_step : ∀ w ∈ zw_t_step, w ∈ zw_t_readRelation6 := fun w h => List.mem_append_right _ (List.mem_append_right _ (List.mem_append_left _ h))
  have g_t_putToken : ∀ w ∈ zw_t_putToken, w ∈ zw_t_readRelation6 := fun w h => List.mem_append_right _ (List.mem_append_right _ (List.mem_append_right _ (List.mem_append_left _ h)))
  have i_X4 : ∀ w ∈ u_ws RX4 TX4 11, w ∈ zw_t_readRelation6 := fun w h => List.mem_append_right _ (List.mem_append_right _ (List.mem_append_right _ (List.mem_append_right _ (List.mem_append_left _ h))))
  have lt_0 : (0 : Int32).toInt = 0 := by decide
  have lt_1 : (1 : Int32).toInt = 1 := by decide
  have lt_6 : (6 : Int32).toInt = 6 := by decide
  have lt_60 : (60 : Int32).toInt = 60 := by decide
  have lt_61 : (61 : Int32).toInt = 61 := by decide
  have lt_62 : (62 : Int32).toInt = 62 := by decide
  have hl := lv_entry ([.ref p0, .int 6]) (n := 3) (Nat.le_of_ble_eq_true rfl)
  rw [lg_entry_eq]
  generalize (lg_sl ([.ref p0, .int 6]) ++ List.replicate (3 - (lg_sl ([.ref p0, .int 6])).length) Slot.unset).toArray = ls at hl ⊢
  have hl : lv_has ls 3 [(0, .ref p0), (1, .int 6)] := hl
  refine lv_aload_n hx hb dX4_readRelation_0 rfl (lv_at hl 0 rfl) (lv_iload_n hx hb dX4_readRelation_1 rfl (lv_at hl 1 rfl) ?_)
  refine q_cVi (As := [.int 6]) (rest := []) q_exw hE hK hP hDa za_t_readRelation6 hS hA [0, 1, 2, 3, 4, 5] [0, 1, 2] (by decide +kernel) ⟨hx, hb, hml, hown, hts⟩ (t_readSum6 l dC dI s.heap.size p0 f_p0 p0_draft f_p0_draft p0_draft_laws f_p0_draft_laws p0_draft_laws_code c_p0_draft_laws_code b_p0_draft_laws_code p0_text c_p0_text b_p0_text p0_words c_p0_words b_p0_words ho_p0 fr_p0_0 fr_p0_1 fr_p0_8 ho_p0_draft fr_p0_draft_12 ho_p0_draft_laws fr_p0_draft_laws_0) rfl rfl (cwV 1 hts (p1_gV m_0 m_1 m_2 m_3 g_t_readSum6 gz_t_readSum6) rfl rfl rfl (by decide +kernel) ⟨by decide, by decide⟩) (va_recv hK hP (ci := 4) (q0 := 0) rfl rfl) zm_t_readSum6 rfl hl.1 rfl (Nat.le_of_ble_eq_true rfl) dX4_readRelation_2 ⟨by decide, by decide⟩ (fun r_1 H2 lo2 hG2 hS2 => ?_)
  obtain ⟨o_3, o_4, o_5, z_6, ho_7, hf_8, ho_9, hf_10, hQ2⟩ := hG2
  have hP2 : va_P (dC, dI) vwCl (zW_t_readRelation6 p0 o_3 p0_draft f_p0_draft p0_draft_laws o_4 p0_draft_laws_code c_p0_draft_laws_code o_5 p0_text c_p0_text b_p0_text p0_words c_p0_words b_p0_words) H2 := hQ2
  clear hQ2 hP hS
  rcases z_6 with ⟨rfl, z_6⟩ | ⟨rfl, z_6⟩
  · refine lv_if_ne (tgt := 10) hx hb dX4_readRelation_5 (by decide) (fun c_11 => ?_) (fun c_11 => absurd c_11 (by decide))
    refine lv_aload_n hx hb dX4_readRelation_10 rfl (lv_at hl 0 rfl) ?_
    obtain ⟨v_12, fv_12⟩ := OKX4_g4 ho_7
    refine qg_X4_4 hx hb hts i_X4 hown hK hP2 0 rfl k_4 fv_12 dX4_readRelation_11 (lv_istore_n (lv' := [(2, .int v_12), (0, .ref p0), (1, .int 6)]) hx hb dX4_readRelation_14 rfl hl (by decide) rfl (fun ls hl => ?_))
    refine lv_iload_n hx hb dX4_readRelation_15 rfl (lv_at hl 0 rfl) (lv_bipush (v := 60) hx hb dX4_readRelation_16 (by decide) ?_)
    refine lv_icmp_eq (tgt := 35) hx hb dX4_readRelation_18 (by decide) (fun c_13 => ?_) (fun c_13 => ?_)
    · have tc_13 := q_eq c_13
      refine lv_aload_n hx hb dX4_readRelation_35 rfl (lv_at hl 1 rfl) ?_
      refine q_cVv (As := []) (rest := []) q_exw hE hK hP2 hDa za_t_readRelation6 hS2 hA [0, 4, 5] [1, 2] (by decide +kernel) ⟨hx, hb, hml, hown, hts⟩ (t_step l dC dI H2.size p0 o_3 p0_text c_p0_text b_p0_text p0_words c_p0_words b_p0_words ho_7 ((hf_8.u (by decide) fr_p0_0)) ((hf_8.u (by decide) fr_p0_1))) rfl rfl (cwV 0 hts (p1_gV m_5 m_6 m_7 m_3 g_t_step gz_t_step) rfl rfl rfl (by decide +kernel) ⟨by decide, by decide⟩) (va_recv hK hP2 (ci := 4) (q0 := 0) rfl rfl) zm_t_step rfl hl.1 rfl (Nat.le_of_ble_eq_true rfl) dX4_readRelation_36 ⟨by decide, by decide⟩ (fun H15 lo15 hG15 hS15 => ?_)
      obtain ⟨o_16, ho_17, hf_18, hQ15⟩ := hG15
      have hP15 : va_P (dC, dI) vwCl (zW_t_readRelation6 p0 o_16 p0_draft f_p0_draft p0_draft_laws o_4 p0_draft_laws_code c_p0_draft_laws_code o_5 p0_text c_p0_text b_p0_text p0_words c_p0_words b_p0_words) H15 := hQ15
      clear hQ15 hP2 hS2
      refine lv_aload_n hx hb dX4_readRelation_39 rfl (lv_at hl 1 rfl) (lv_iload_n hx hb dX4_readRelation_40 rfl (lv_at hl 2 rfl) ?_)
      refine q_cVi (As := [.int 6]) (rest := []) q_exw hE hK hP15 hDa za_t_readRelation6 hS15 hA [0, 1, 2, 3, 4, 5] [0, 1, 2] (by decide +kernel) ⟨hx, hb, hml, hown, hts⟩ (t_readSum6 l dC dI H15.size p0 o_16 p0_draft f_p0_draft p0_draft_laws o_4 p0_draft_laws_code c_p0_draft_laws_code o_5 p0_text c_p0_text b_p0_text p0_words c_p0_words b_p0_words ho_17 ((hf_18.u (by decide) (hf_8.u (by decide) fr_p0_0))) ((hf_18.u (by decide) (hf_8.u (by decide) fr_p0_1))) ((hf_18.u (by decide) (hf_8.u (by decide) fr_p0_8))) ho_p0_draft fr_p0_draft_12 ho_9 ((hf_10.u (by decide) fr_p0_draft_laws_0))) rfl rfl (cwV 1 hts (p1_gV m_0 m_1 m_2 m_3 g_t_readSum6 gz_t_readSum6) rfl rfl rfl (by decide +kernel) ⟨by decide, by decide⟩) (va_recv hK hP15 (ci := 4) (q0 := 0) rfl rfl) zm_t_readSum6 rfl hl.1 rfl (Nat.le_of_ble_eq_true rfl) dX4_readRelation_41 ⟨by decide, by decide⟩ (fun r_19 H20 lo20 hG20 hS20 => ?_)
      obtain ⟨o_21, o_22, o_23, z_24, ho_25, hf_26, ho_27, hf_28, hQ20⟩ := hG20
      have hP20 : va_P (dC, dI) vwCl (zW_t_readRelation6 p0 o_21 p0_draft f_p0_draft p0_draft_laws o_22 p0_draft_laws_code c_p0_draft_laws_code o_23 p0_text c_p0_text b_p0_text p0_words c_p0_words b_p0_words) H20 := hQ20
      clear hQ20 hP15 hS15
      rcases z_24 with ⟨rfl, z_24⟩ | ⟨rfl, z_24⟩
      · refine lv_if_eq (tgt := 59) hx hb dX4_readRelation_44 (by decide) (fun c_29 => absurd c_29 (by decide)) (fun c_29 => ?_)
        refine lv_aload_n hx hb dX4_readRelation_47 rfl (lv_at hl 1 rfl) (lv_iload_n hx hb dX4_readRelation_48 rfl (lv_at hl 0 rfl) ?_)
        refine q_cVi (As := [.int v_12]) (rest := []) q_w0 trivial hK hP20 hDa za_t_readRelation6 hS20 hA [0, 1, 2, 3] [0] (by decide +kernel) ⟨hx, hb, hml, hown, hts⟩ (t_putToken l dC dI H20.size p0 o_21 p0_draft f_p0_draft p0_draft_laws o_22 p0_draft_laws_code c_p0_draft_laws_code o_23 v_12 ho_25 ((hf_26.u (by decide) (hf_18.u (by decide) (hf_8.u (by decide) fr_p0_8)))) ho_p0_draft fr_p0_draft_12 ho_27 ((hf_28.u (by decide) (hf_10.u (by decide) fr_p0_draft_laws_0)))) rfl rfl (cwV 1 hts (p1_gV m_8 m_9 m_10 m_3 g_t_putToken gz_t_putToken) rfl rfl rfl (by decide +kernel) ⟨by decide, by decide⟩) (va_recv hK hP20 (ci := 4) (q0 := 0) rfl rfl) zm_t_putToken rfl hl.1 rfl (Nat.le_of_ble_eq_true rfl) dX4_readRelation_49 ⟨by decide, by decide⟩ (fun r_30 H31 lo31 hG31 hS31 => ?_)
        obtain ⟨o_32, o_33, o_34, z_35, ho_36, hf_37, ho_38, hf_39, hQ31⟩ := hG31
        have hP31 : va_P (dC, dI) vwCl (zW_t_readRelation6 p0 o_32 p0_draft f_p0_draft p0_draft_laws o_33 p0_draft_laws_code c_p0_draft_laws_code o_34 p0_text c_p0_text b_p0_text p0_words c_p0_words b_p0_words) H31 := hQ31
        clear hQ31 hP20 hS20
        rcases z_35 with ⟨rfl, z_35⟩ | ⟨rfl, z_35⟩
        · refine lv_if_eq (tgt := 59) hx hb dX4_readRelation_52 (by decide) (fun c_40 => absurd c_40 (by decide)) (fun c_40 => ?_)
          refine lv_iconst (v := 1) hx hb dX4_readRelation_55 (by decide) (lv_goto (tgt := 60) hx hb dX4_readRelation_56 (by decide) ?_)
          exact q_zret hx hb hr hlocks (by decide) hS31 dX4_readRelation_60 ⟨o_32, o_33, o_34, (Or.inl ⟨rfl, by first | trivial | omega⟩), ho_36, ((((q_fr.rf.tr hf_8 (by decide)).tr hf_18 (by decide)).tr hf_26 (by decide)).tr hf_37 (by decide)), ho_38, (((q_fr.rf.tr hf_10 (by decide)).tr hf_28 (by decide)).tr hf_39 (by decide)), hP31, za_t_readRelation6⟩
        · refine lv_if_eq (tgt := 59) hx hb dX4_readRelation_52 (by decide) (fun c_41 => ?_) (fun c_41 => absurd c_41 (by decide))
          refine lv_iconst (v := 0) hx hb dX4_readRelation_59 (by decide) ?_
          exact q_zret hx hb hr hlocks (by decide) hS31 dX4_readRelation_60 ⟨o_32, o_33, o_34, (Or.inr ⟨rfl, by first | trivial | omega⟩), ho_36, ((((q_fr.rf.tr hf_8 (by decide)).tr hf_18 (by decide)).tr hf_26 (by decide)).tr hf_37 (by decide)), ho_38, (((q_fr.rf.tr hf_10 (by decide)).tr hf_28 (by decide)).tr hf_39 (by decide)), hP31, za_t_readRelation6⟩
      · refine lv_if_eq (tgt := 59) hx hb dX4_readRelation_44 (by decide) (fun c_42 => ?_) (fun c_42 => absurd c_42 (by decide))
        refine lv_iconst (v := 0) hx hb dX4_readRelation_59 (by decide) ?_
        exact q_zret hx hb hr hlocks (by decide) hS20 dX4_readRelation_60 ⟨o_21, o_22, o_23, (Or.inr ⟨rfl, by first | trivial | omega⟩), ho_25, (((q_fr.rf.tr hf_8 (by decide)).tr hf_18 (by decide)).tr hf_26 (by decide)), ho_27, ((q_fr.rf.tr hf_10 (by decide)).tr hf_28 (by decide)), hP20, za_t_readRelation6⟩
    · have tc_13 := q_neN c_13
      refine lv_iload_n hx hb dX4_readRelation_21 rfl (lv_at hl 0 rfl) (lv_bipush (v := 62) hx hb dX4_readRelation_22 (by decide) ?_)
      refine lv_icmp_eq (tgt := 35) hx hb dX4_readRelation_24 (by decide) (fun c_43 => ?_) (fun c_43 => ?_)
      · have tc_43 := q_eq c_43
        refine lv_aload_n hx hb dX4_readRelation_35 rfl (lv_at hl 1 rfl) ?_
        refine q_cVv (As := []) (rest := []) q_exw hE hK hP2 hDa za_t_readRelation6 hS2 hA [0, 4, 5] [1, 2] (by decide +kernel) ⟨hx, hb, hml, hown, hts⟩ (t_step l dC dI H2.size p0 o_3 p0_text c_p0_text b_p0_text p0_words c_p0_words b_p0_words ho_7 ((hf_8.u (by decide) fr_p0_0)) ((hf_8.u (by decide) fr_p0_1))) rfl rfl (cwV 0 hts (p1_gV m_5 m_6 m_7 m_3 g_t_step gz_t_step) rfl rfl rfl (by decide +kernel) ⟨by decide, by decide⟩) (va_recv hK hP2 (ci := 4) (q0 := 0) rfl rfl) zm_t_step rfl hl.1 rfl (Nat.le_of_ble_eq_true rfl) dX4_readRelation_36 ⟨by decide, by decide⟩ (fun H45 lo45 hG45 hS45 => ?_)
        obtain ⟨o_46, ho_47, hf_48, hQ45⟩ := hG45
        have hP45 : va_P (dC, dI) vwCl (zW_t_readRelation6 p0 o_46 p0_draft f_p0_draft p0_draft_laws o_4 p0_draft_laws_code c_p0_draft_laws_code o_5 p0_text c_p0_text b_p0_text p0_words c_p0_words b_p0_words) H45 := hQ45
        clear hQ45 hP2 hS2
        refine lv_aload_n hx hb dX4_readRelation_39 rfl (lv_at hl 1 rfl) (lv_iload_n hx hb dX4_readRelation_40 rfl (lv_at hl 2 rfl) ?_)
        refine q_cVi (As := [.int 6]) (rest := []) q_exw hE hK hP45 hDa za_t_readRelation6 hS45 hA [0, 1, 2, 3, 4, 5] [0, 1, 2] (by decide +kernel) ⟨hx, hb, hml, hown, hts⟩ (t_readSum6 l dC dI H45.size p0 o_46 p0_draft f_p0_draft p0_draft_laws o_4 p0_draft_laws_code c_p0_draft_laws_code o_5 p0_text c_p0_text b_p0_text p0_words c_p0_words b_p0_words ho_47 ((hf_48.u (by decide) (hf_8.u (by decide) fr_p0_0))) ((hf_48.u (by decide) (hf_8.u (by decide) fr_p0_1))) ((hf_48.u (by decide) (hf_8.u (by decide) fr_p0_8))) ho_p0_draft fr_p0_draft_12 ho_9 ((hf_10.u (by decide) fr_p0_draft_laws_0))) rfl rfl (cwV 1 hts (p1_gV m_0 m_1 m_2 m_3 g_t_readSum6 gz_t_readSum6) rfl rfl rfl (by decide +kernel) ⟨by decide, by decide⟩) (va_recv hK hP45 (ci := 4) (q0 := 0) rfl rfl) zm_t_readSum6 rfl hl.1 rfl (Nat.le_of_ble_eq_true rfl) dX4_readRelation_41 ⟨by decide, by decide⟩ (fun r_49 H50 lo50 hG50 hS50 => ?_)
        obtain ⟨o_51, o_52, o_53, z_54, ho_55, hf_56, ho_57, hf_58, hQ50⟩ := hG50
        have hP50 : va_P (dC, dI) vwCl (zW_t_readRelation6 p0 o_51 p0_draft f_p0_draft p0_draft_laws o_52 p0_draft_laws_code c_p0_draft_laws_code o_53 p0_text c_p0_text b_p0_text p0_words c_p0_words b_p0_words) H50 := hQ50
        clear hQ50 hP45 hS45
        rcases z_54 with ⟨rfl, z_54⟩ | ⟨rfl, z_54⟩
        · refine lv_if_eq (tgt := 59) hx hb dX4_readRelation_44 (by decide) (fun c_59 => absurd c_59 (by decide)) (fun c_59 => ?_)
          refine lv_aload_n hx hb dX4_readRelation_47 rfl (lv_at hl 1 rfl) (lv_iload_n hx hb dX4_readRelation_48 rfl (lv_at hl 0 rfl) ?_)
          refine q_cVi (As := [.int v_12]) (rest := []) q_w0 trivial hK hP50 hDa za_t_readRelation6 hS50 hA [0, 1, 2, 3] [0] (by decide +kernel) ⟨hx, hb, hml, hown, hts⟩ (t_putToken l dC dI H50.size p0 o_51 p0_draft f_p0_draft p0_draft_laws o_52 p0_draft_laws_code c_p0_draft_laws_code o_53 v_12 ho_55 ((hf_56.u (by decide) (hf_48.u (by decide) (hf_8.u (by decide) fr_p0_8)))) ho_p0_draft fr_p0_draft_12 ho_57 ((hf_58.u (by decide) (hf_10.u (by decide) fr_p0_draft_laws_0)))) rfl rfl (cwV 1 hts (p1_gV m_8 m_9 m_10 m_3 g_t_putToken gz_t_putToken) rfl rfl rfl (by decide +kernel) ⟨by decide, by decide⟩) (va_recv hK hP50 (ci := 4) (q0 := 0) rfl rfl) zm_t_putToken rfl hl.1 rfl (Nat.le_of_ble_eq_true rfl) dX4_readRelation_49 ⟨by decide, by decide⟩ (fun r_60 H61 lo61 hG61 hS61 => ?_)
          obtain ⟨o_62, o_63, o_64, z_65, ho_66, hf_67, ho_68, hf_69, hQ61⟩ := hG61
          have hP61 : va_P (dC, dI) vwCl (zW_t_readRelation6 p0 o_62 p0_draft f_p0_draft p0_draft_laws o_63 p0_draft_laws_code c_p0_draft_laws_code o_64 p0_text c_p0_text b_p0_text p0_words c_p0_words b_p0_words) H61 := hQ61
          clear hQ61 hP50 hS50
          rcases z_65 with ⟨rfl, z_65⟩ | ⟨rfl, z_65⟩
          · refine lv_if_eq (tgt := 59) hx hb dX4_readRelation_52 (by decide) (fun c_70 => absurd c_70 (by decide)) (fun c_70 => ?_)
            refine lv_iconst (v := 1) hx hb dX4_readRelation_55 (by decide) (lv_goto (tgt := 60) hx hb dX4_readRelation_56 (by decide) ?_)
            exact q_zret hx hb hr hlocks (by decide) hS61 dX4_readRelation_60 ⟨o_62, o_63, o_64, (Or.inl ⟨rfl, by first | trivial | omega⟩), ho_66, ((((q_fr.rf.tr hf_8 (by decide)).tr hf_48 (by decide)).tr hf_56 (by decide)).tr hf_67 (by decide)), ho_68, (((q_fr.rf.tr hf_10 (by decide)).tr hf_58 (by decide)).tr hf_69 (by decide)), hP61, za_t_readRelation6⟩
          · refine lv_if_eq (tgt := 59) hx hb dX4_readRelation_52 (by decide) (fun c_71 => ?_) (fun c_71 => absurd c_71 (by decide))
            refine lv_iconst (v := 0) hx hb dX4_readRelation_59 (by decide) ?_
            exact q_zret hx hb hr hlocks (by decide) hS61 dX4_readRelation_60 ⟨o_62, o_63, o_64, (Or.inr ⟨rfl, by first | trivial | omega⟩), ho_66, ((((q_fr.rf.tr hf_8 (by decide)).tr hf_48 (by decide)).tr hf_56 (by decide)).tr hf_67 (by decide)), ho_68, (((q_fr.rf.tr hf_10 (by decide)).tr hf_58 (by decide)).tr hf_69 (by decide)), hP61, za_t_readRelation6⟩
        · refine lv_if_eq (tgt := 59) hx hb dX4_readRelation_44 (by decide) (fun c_72 => ?_) (fun c_72 => absurd c_72 (by decide))
          refine lv_iconst (v := 0) hx hb dX4_readRelation_59 (by decide) ?_
          exact q_zret hx hb hr hlocks (by decide) hS50 dX4_readRelation_60 ⟨o_51, o_52, o_53, (Or.inr ⟨rfl, by first | trivial | omega⟩), ho_55, (((q_fr.rf.tr hf_8 (by decide)).tr hf_48 (by decide)).tr hf_56 (by decide)), ho_57, ((q_fr.rf.tr hf_10 (by decide)).tr hf_58 (by decide)), hP50, za_t_readRelation6⟩
      · have tc_43 := q_neN c_43
        refine lv_iload_n hx hb dX4_readRelation_27 rfl (lv_at hl 0 rfl) (lv_bipush (v := 61) hx hb dX4_readRelation_28 (by decide) ?_)
        refine lv_icmp_eq (tgt := 35) hx hb dX4_readRelation_30 (by decide) (fun c_73 => ?_) (fun c_73 => ?_)
        · have tc_73 := q_eq c_73
          refine lv_aload_n hx hb dX4_readRelation_35 rfl (lv_at hl 1 rfl) ?_
          refine q_cVv (As := []) (rest := []) q_exw hE hK hP2 hDa za_t_readRelation6 hS2 hA [0, 4, 5] [1, 2] (by decide +kernel) ⟨hx, hb, hml, hown, hts⟩ (t_step l dC dI H2.size p0 o_3 p0_text c_p0_text b_p0_text p0_words c_p0_words b_p0_words ho_7 ((hf_8.u (by decide) fr_p0_0)) ((hf_8.u (by decide) fr_p0_1))) rfl rfl (cwV 0 hts (p1_gV m_5 m_6 m_7 m_3 g_t_step gz_t_step) rfl rfl rfl (by decide +kernel) ⟨by decide, by decide⟩) (va_recv hK hP2 (ci := 4) (q0 := 0) rfl rfl) zm_t_step rfl hl.1 rfl (Nat.le_of_ble_eq_true rfl) dX4_readRelation_36 ⟨by decide, by decide⟩ (fun H75 lo75 hG75 hS75 => ?_)
          obtain ⟨o_76, ho_77, hf_78, hQ75⟩ := hG75
          have hP75 : va_P (dC, dI) vwCl (zW_t_readRelation6 p0 o_76 p0_draft f_p0_draft p0_draft_laws o_4 p0_draft_laws_code c_p0_draft_laws_code o_5 p0_text c_p0_text b_p0_text p0_words c_p0_words b_p0_words) H75 := hQ75
          clear hQ75 hP2 hS2
          refine lv_aload_n hx hb dX4_readRelation_39 rfl (lv_at hl 1 rfl) (lv_iload_n hx hb dX4_readRelation_40 rfl (lv_at hl 2 rfl) ?_)
          refine q_cVi (As := [.int 6]) (rest := []) q_exw hE hK hP75 hDa za_t_readRelation6 hS75 hA [0, 1, 2, 3, 4, 5] [0, 1, 2] (by decide +kernel) ⟨hx, hb, hml, hown, hts⟩ (t_readSum6 l dC dI H75.size p0 o_76 p0_draft f_p0_draft p0_draft_laws o_4 p0_draft_laws_code c_p0_draft_laws_code o_5 p0_text c_p0_text b_p0_text p0_words c_p0_words b_p0_words ho_77 ((hf_78.u (by decide) (hf_8.u (by decide) fr_p0_0))) ((hf_78.u (by decide) (hf_8.u (by decide) fr_p0_1))) ((hf_78.u (by decide) (hf_8.u (by decide) fr_p0_8))) ho_p0_draft fr_p0_draft_12 ho_9 ((hf_10.u (by decide) fr_p0_draft_laws_0))) rfl rfl (cwV 1 hts (p1_gV m_0 m_1 m_2 m_3 g_t_readSum6 gz_t_readSum6) rfl rfl rfl (by decide +kernel) ⟨by decide, by decide⟩) (va_recv hK hP75 (ci := 4) (q0 := 0) rfl rfl) zm_t_readSum6 rfl hl.1 rfl (Nat.le_of_ble_eq_true rfl) dX4_readRelation_41 ⟨by decide, by decide⟩ (fun r_79 H80 lo80 hG80 hS80 => ?_)
          obtain ⟨o_81, o_82, o_83, z_84, ho_85, hf_86, ho_87, hf_88, hQ80⟩ := hG80
          have hP80 : va_P (dC, dI) vwCl (zW_t_readRelation6 p0 o_81 p0_draft f_p0_draft p0_draft_laws o_82 p0_draft_laws_code c_p0_draft_laws_code o_83 p0_text c_p0_text b_p0_text p0_words c_p0_words b_p0_words) H80 := hQ80
          clear hQ80 hP75 hS75
          rcases z_84 with ⟨rfl, z_84⟩ | ⟨rfl, z_84⟩
          · refine lv_if_eq (tgt := 59) hx hb dX4_readRelation_44 (by decide) (fun c_89 => absurd c_89 (by decide)) (fun c_89 => ?_)
            refine lv_aload_n hx hb dX4_readRelation_47 rfl (lv_at hl 1 rfl) (lv_iload_n hx hb dX4_readRelation_48 rfl (lv_at hl 0 rfl) ?_)
            refine q_cVi (As := [.int v_12]) (rest := []) q_w0 trivial hK hP80 hDa za_t_readRelation6 hS80 hA [0, 1, 2, 3] [0] (by decide +kernel) ⟨hx, hb, hml, hown, hts⟩ (t_putToken l dC dI H80.size p0 o_81 p0_draft f_p0_draft p0_draft_laws o_82 p0_draft_laws_code c_p0_draft_laws_code o_83 v_12 ho_85 ((hf_86.u (by decide) (hf_78.u (by decide) (hf_8.u (by decide) fr_p0_8)))) ho_p0_draft fr_p0_draft_12 ho_87 ((hf_88.u (by decide) (hf_10.u (by decide) fr_p0_draft_laws_0)))) rfl rfl (cwV 1 hts (p1_gV m_8 m_9 m_10 m_3 g_t_putToken gz_t_putToken) rfl rfl rfl (by decide +kernel) ⟨by decide, by decide⟩) (va_recv hK hP80 (ci := 4) (q0 := 0) rfl rfl) zm_t_putToken rfl hl.1 rfl (Nat.le_of_ble_eq_true rfl) dX4_readRelation_49 ⟨by decide, by decide⟩ (fun r_90 H91 lo91 hG91 hS91 => ?_)
            obtain ⟨o_92, o_93, o_94, z_95, ho_96, hf_97, ho_98, hf_99, hQ91⟩ := hG91
            have hP91 : va_P (dC, dI) vwCl (zW_t_readRelation6 p0 o_92 p0_draft f_p0_draft p0_draft_laws o_93 p0_draft_laws_code c_p0_draft_laws_code o_94 p0_text c_p0_text b_p0_text p0_words c_p0_words b_p0_words) H91 := hQ91
            clear hQ91 hP80 hS80
            rcases z_95 with ⟨rfl, z_95⟩ | ⟨rfl, z_95⟩
            · refine lv_if_eq (tgt := 59) hx hb dX4_readRelation_52 (by decide) (fun c_100 => absurd c_100 (by decide)) (fun c_100 => ?_)
              refine lv_iconst (v := 1) hx hb dX4_readRelation_55 (by decide) (lv_goto (tgt := 60) hx hb dX4_readRelation_56 (by decide) ?_)
              exact q_zret hx hb hr hlocks (by decide) hS91 dX4_readRelation_60 ⟨o_92, o_93, o_94, (Or.inl ⟨rfl, by first | trivial | omega⟩), ho_96, ((((q_fr.rf.tr hf_8 (by decide)).tr hf_78 (by decide)).tr hf_86 (by decide)).tr hf_97 (by decide)), ho_98, (((q_fr.rf.tr hf_10 (by decide)).tr hf_88 (by decide)).tr hf_99 (by decide)), hP91, za_t_readRelation6⟩
            · refine lv_if_eq (tgt := 59) hx hb dX4_readRelation_52 (by decide) (fun c_101 => ?_) (fun c_101 => absurd c_101 (by decide))
              refine lv_iconst (v := 0) hx hb dX4_readRelation_59 (by decide) ?_
              exact q_zret hx hb hr hlocks (by decide) hS91 dX4_readRelation_60 ⟨o_92, o_93, o_94, (Or.inr ⟨rfl, by first | trivial | omega⟩), ho_96, ((((q_fr.rf.tr hf_8 (by decide)).tr hf_78 (by decide)).tr hf_86 (by decide)).tr hf_97 (by decide)), ho_98, (((q_fr.rf.tr hf_10 (by decide)).tr hf_88 (by decide)).tr hf_99 (by decide)), hP91, za_t_readRelation6⟩
          · refine lv_if_eq (tgt := 59) hx hb dX4_readRelation_44 (by decide) (fun c_102 => ?_) (fun c_102 => absurd c_102 (by decide))
            refine lv_iconst (v := 0) hx hb dX4_readRelation_59 (by decide) ?_
            exact q_zret hx hb hr hlocks (by decide) hS80 dX4_readRelation_60 ⟨o_81, o_82, o_83, (Or.inr ⟨rfl, by first | trivial | omega⟩), ho_85, (((q_fr.rf.tr hf_8 (by decide)).tr hf_78 (by decide)).tr hf_86 (by decide)), ho_87, ((q_fr.rf.tr hf_10 (by decide)).tr hf_88 (by decide)), hP80, za_t_readRelation6⟩
        · have tc_73 := q_neN c_73
          refine lv_iconst (v := 1) hx hb dX4_readRelation_33 (by decide) ?_
          exact q_zret hx hb hr hlocks (by decide) hS2 dX4_readRelation_34 ⟨o_3, o_4, o_5, (Or.inl ⟨rfl, by first | trivial | omega⟩), ho_7, (q_fr.rf.tr hf_8 (by decide)), ho_9, (q_fr.rf.tr hf_10 (by decide)), hP2, za_t_readRelation6⟩
  · refine lv_if_ne (tgt := 10) hx hb dX4_readRelation_5 (by decide) (fun c_103 => absurd c_103 (by decide)) (fun c_103 => ?_)
    refine lv_iconst (v := 0) hx hb dX4_readRelation_8 (by decide) ?_
    exact q_zret hx hb hr hlocks (by decide) hS2 dX4_readRelation_9 ⟨o_3, o_4, o_5, (Or.inr ⟨rfl, by first | trivial | omega⟩), ho_7, (q_fr.rf.tr hf_8 (by decide)), ho_9, (q_fr.rf.tr hf_10 (by decide)), hP2, za_t_readRelation6⟩
def zo_t_readOne6 : List Cond := [.code yX4_readOne cX4_readOne 2 (some .boolean), .fieldLink RX4 28 "BowWalk$Reader" "token" "I", .methodLink RX4 78 yX4_step, .instanceMethod yX4_step, .selects RX4 yX4_step yX4_step, .initialized RX4, .methodLink RX4 217 yX4_readOne, .instanceMethod yX4_readOne, .selects RX4 yX4_readOne yX4_readOne, .methodLink RX4 214 yX4_putToken, .instanceMethod yX4_putToken, .selects RX4 yX4_putToken yX4_putToken, .methodLink RX4 220 yX4_readRelation, .instanceMethod yX4_readRelation, .selects RX4 yX4_readRelation yX4_readRelation]
def zw_t_readOne6 : List Cond := zo_t_readOne6 ++ (zw_t_step ++ (zw_t_readOne7 ++ (zw_t_putToken ++ (zw_t_readRelation6 ++ (wsX40 ++ [])))))
theorem gz_t_readOne6 : zw_t_readOne6.all goodWord = true := p1_ga (by decide +kernel) (p1_ga gz_t_step (p1_ga gz_t_readOne7 (p1_ga gz_t_putToken (p1_ga gz_t_readRelation6 (p1_ga gk_X4 p1_g0)))))
theorem iz_t_readOne6 : ∀ w ∈ zw_t_readOne6, w ∈ lw_tbl := p1_ia (p1_all [656, 311, 573, 575, 1, 105, 653, 655, 16, 676, 678, 21, 657, 659, 17] (by decide +kernel)) (p1_ia iz_t_step (p1_ia iz_t_readOne7 (p1_ia iz_t_putToken (p1_ia iz_t_readRelation6 (p1_ia ik_X4 p1_i0)))))
def zW_t_readOne6 (p0 : Nat) (f_p0 : List Value) (p0_draft : Nat) (f_p0_draft : List Value) (p0_draft_laws : Nat) (f_p0_draft_laws : List Value) (p0_draft_laws_code : Nat) (c_p0_draft_laws_code : ClassId) (b_p0_draft_laws_code : Nat → Int32) (p0_text : Nat) (c_p0_text : ClassId) (b_p0_text : Nat → Int32) (p0_words : Nat) (c_p0_words : ClassId) (b_p0_words : Nat → Int64) : va_W := [(p0, .inr (4, f_p0)), (p0_draft, .inr (5, f_p0_draft)), (p0_draft_laws, .inr (3, f_p0_draft_laws)), (p0_draft_laws_code, .inl (c_p0_draft_laws_code, 600, .inl b_p0_draft_laws_code)), (p0_text, .inl (c_p0_text, 1600, .inl b_p0_text)), (p0_words, .inl (c_p0_words, 22, .inr (.inl b_p0_words)))]
def zT_t_readOne6 (c_p0_draft_laws_code : ClassId) (c_p0_text : ClassId) (c_p0_words : ClassId) : List (ClassId × FieldType) := [(c_p0_draft_laws_code, .int), (c_p0_text, .byte), (c_p0_words, .long)]
def zA_t_readOne6 (p0 : Nat) (p0_draft : Nat) (p0_draft_laws : Nat) (p0_draft_laws_code : Nat) (p0_text : Nat) (p0_words : Nat) : List Nat := [p0, p0_draft, p0_draft_laws, p0_draft_laws_code, p0_text, p0_words]
theorem za_t_readOne6 {p0 : Nat} {f_p0 : List Value} {p0_draft : Nat} {f_p0_draft : List Value} {p0_draft_laws : Nat} {f_p0_draft_laws : List Value} {p0_draft_laws_code : Nat} {c_p0_draft_laws_code : ClassId} {b_p0_draft_laws_code : Nat → Int32} {p0_text : Nat} {c_p0_text : ClassId} {b_p0_text : Nat → Int32} {p0_words : Nat} {c_p0_words : ClassId} {b_p0_words : Nat → Int64} : (zW_t_readOne6 p0 f_p0 p0_draft f_p0_draft p0_draft_laws f_p0_draft_laws p0_draft_laws_code c_p0_draft_laws_code b_p0_draft_laws_code p0_text c_p0_text b_p0_text p0_words c_p0_words b_p0_words).map Prod.fst = (zA_t_readOne6 p0 p0_draft p0_draft_laws p0_draft_laws_code p0_text p0_words) := rfl
def zG_t_readOne6 (p0 : Nat) (f_p0 : List Value) (p0_draft : Nat) (f_p0_draft : List Value) (p0_draft_laws : Nat) (f_p0_draft_laws : List Value) (p0_draft_laws_code : Nat) (c_p0_draft_laws_code : ClassId) (b_p0_draft_laws_code : Nat → Int32) (p0_text : Nat) (c_p0_text : ClassId) (b_p0_text : Nat → Int32) (p0_words : Nat) (c_p0_words : ClassId) (b_p0_words : Nat → Int64) (r : Int32) (X : va_W → Prop) : Prop := ∃ (y_p0 : List Value) (y_p0_draft_laws : List Value) (y_p0_draft_laws_code : Nat → Int32), ((r = 1 ∧ (True)) ∨ (r = 0 ∧ (True))) ∧ OKX4 y_p0 ∧ q_fr [3, 4, 5, 6, 7, 9, 10] f_p0 y_p0 ∧ OKX3 y_p0_draft_laws ∧ q_fr [3, 5] f_p0_draft_laws y_p0_draft_laws ∧ X (zW_t_readOne6 p0 y_p0 p0_draft f_p0_draft p0_draft_laws y_p0_draft_laws p0_draft_laws_code c_p0_draft_laws_code y_p0_draft_laws_code p0_text c_p0_text b_p0_text p0_words c_p0_words b_p0_words)
theorem zm_t_readOne6 {p0 : Nat} {f_p0 : List Value} {p0_draft : Nat} {f_p0_draft : List Value} {p0_draft_laws : Nat} {f_p0_draft_laws : List Value} {p0_draft_laws_code : Nat} {c_p0_draft_laws_code : ClassId} {b_p0_draft_laws_code : Nat → Int32} {p0_text : Nat} {c_p0_text : ClassId} {b_p0_text : Nat → Int32} {p0_words : Nat} {c_p0_words : ClassId} {b_p0_words : Nat → Int64} : ∀ (r : Int32), ∀ X Y : va_W → Prop, (∀ w, X w → Y w) → zG_t_readOne6 p0 f_p0 p0_draft f_p0_draft p0_draft_laws f_p0_draft_laws p0_draft_laws_code c_p0_draft_laws_code b_p0_draft_laws_code p0_text c_p0_text b_p0_text p0_words c_p0_words b_p0_words r X → zG_t_readOne6 p0 f_p0 p0_draft f_p0_draft p0_draft_laws f_p0_draft_laws p0_draft_laws_code c_p0_draft_laws_code b_p0_draft_laws_code p0_text c_p0_text b_p0_text p0_words c_p0_words b_p0_words r Y := fun r X Y h h1 => by obtain ⟨x0, x1, x2, x3, x4, x5, x6, x7, hx⟩ := h1; exact ⟨x0, x1, x2, x3, x4, x5, x6, x7, h _ hx⟩
set_option maxHeartbeats 4000000 in
set_option maxRecDepth 100000 in
theorem t_readOne6 (l : Launch) (dC : Nat → ClassId) (dI : Nat → Nat → Nat) (sz : Nat) (p0 : Nat) (f_p0 : List Value) (p0_draft : Nat) (f_p0_draft : List Value) (p0_draft_laws : Nat) (f_p0_draft_laws : List Value) (p0_draft_laws_code : Nat) (c_p0_draft_laws_code : ClassId) (b_p0_draft_laws_code : Nat → Int32) (p0_text : Nat) (c_p0_text : ClassId) (b_p0_text : Nat → Int32) (p0_words : Nat) (c_p0_words : ClassId) (b_p0_words : Nat → Int64) (ho_p0 : OKX4 f_p0) (fr_p0_0 : q_rf f_p0 0 p0_words) (fr_p0_1 : q_rf f_p0 1 p0_text) (fr_p0_8 : q_rf f_p0 8 p0_draft) (ho_p0_draft : OKX5 f_p0_draft) (fr_p0_draft_12 : q_rf f_p0_draft 12 p0_draft_laws) (ho_p0_draft_laws : OKX3 f_p0_draft_laws) (fr_p0_draft_laws_0 : q_rf f_p0_draft_laws 0 p0_draft_laws_code) : Met l yX4_readOne zw_t_readOne6 ({ frames := 17, cells := 0, slots := 0, locals := 381 }) (va_Pc [.ref p0, .int 6] (q_pre (dC, dI) (zW_t_readOne6 p0 f_p0 p0_draft f_p0_draft p0_draft_laws f_p0_draft_laws p0_draft_laws_code c_p0_draft_laws_code b_p0_draft_laws_code p0_text c_p0_text b_p0_text p0_words c_p0_words b_p0_words) (zT_t_readOne6 c_p0_draft_laws_code c_p0_text c_p0_words) q_ex sz)) (q_Qi (dC, dI) (zG_t_readOne6 p0 f_p0 p0_draft f_p0_draft p0_draft_laws f_p0_draft_laws p0_draft_laws_code c_p0_draft_laws_code b_p0_draft_laws_code p0_text c_p0_text b_p0_text p0_words c_p0_words b_p0_words) (zA_t_readOne6 p0 p0_draft p0_draft_laws p0_draft_laws_code p0_text p0_words) (va_A (zW_t_readOne6 p0 f_p0 p0_draft f_p0_draft p0_draft_laws f_p0_draft_laws p0_draft_laws_code c_p0_draft_laws_code b_p0_draft_laws_code p0_text c_p0_text b_p0_text p0_words c_p0_words b_p0_words) sz)) 0 0 (va_A (zW_t_readOne6 p0 f_p0 p0_draft f_p0_draft p0_draft_laws f_p0_draft_laws p0_draft_laws_code c_p0_draft_laws_code b_p0_draft_laws_code p0_text c_p0_text b_p0_text p0_words c_p0_words b_p0_words) sz) := by
  refine Met.ofW (cc := cX4_readOne) (maxL := 2) (ret := (some .boolean)) (by decide) rfl ?_
  intro p e s m args below meth c s₁ B hml hv
  obtain ⟨rfl, hsz, hP, hK, hD0, hE⟩ := hv
  have hx := B.exec
  have hb := B.bytes
  have hr := B.returns
  have hts := atoms_spec (ws := zw_t_readOne6) B.pre
  have hown : s.vm.findClass RX4 = some m.cls := findClass_of_methodNamed B.named
  have hlocks := B.notSynchronized
  subst hsz
  have hD := hD0.self (sz := s.heap.size)
  generalize hAe : va_A (zW_t_readOne6 p0 f_p0 p0_draft f_p0_draft p0_draft_laws f_p0_draft_laws p0_draft_laws_code c_p0_draft_laws_code b_p0_draft_laws_code p0_text c_p0_text b_p0_text p0_words c_p0_words b_p0_words) s.heap.size = A at hD hE ⊢
  have hA : ∀ q : Nat, s.heap.size ≤ q → A q := fun q h => by rw [← hAe]; exact Or.inr h
  have hDa : q_DA A (zA_t_readOne6 p0 p0_draft p0_draft_laws p0_draft_laws_code p0_text p0_words) := q_DA.mk hD za_t_readOne6
  clear hAe hD0 hD
  have hS : va_S A s.heap s.heap [] := va_S.rf
  have m_0 : (.fieldLink RX4 28 "BowWalk$Reader" "token" "I" : Cond) ∈ zw_t_readOne6 := List.mem_append_left _ (List.mem_of_getElem? (i := 1) rfl)
  have k_0 := hts _ m_0
  have m_1 : (.methodLink RX4 78 yX4_step : Cond) ∈ zw_t_readOne6 := List.mem_append_left _ (List.mem_of_getElem? (i := 2) rfl)
  have k_1 := hts _ m_1
  have m_2 : (.instanceMethod yX4_step : Cond) ∈ zw_t_readOne6 := List.mem_append_left _ (List.mem_of_getElem? (i := 3) rfl)
  have k_2 := hts _ m_2
  have m_3 : (.selects RX4 yX4_step yX4_step : Cond) ∈ zw_t_readOne6 := List.mem_append_left _ (List.mem_of_getElem? (i := 4) rfl)
  have k_3 := hts _ m_3
  have m_4 : (.initialized RX4 : Cond) ∈ zw_t_readOne6 := List.mem_append_left _ (List.mem_of_getElem? (i := 5) rfl)
  have k_4 := hts _ m_4
  have m_5 : (.methodLink RX4 217 yX4_readOne : Cond) ∈ zw_t_readOne6 := List.mem_append_left _ (List.mem_of_getElem? (i := 6) rfl)
  have k_5 := hts _ m_5
  have m_6 : (.instanceMethod yX4_readOne : Cond) ∈ zw_t_readOne6 := List.mem_append_left _ (List.mem_of_getElem? (i := 7) rfl)
  have k_6 := hts _ m_6
  have m_7 : (.selects RX4 yX4_readOne yX4_readOne : Cond) ∈ zw_t_readOne6 := List.mem_append_left _ (List.mem_of_getElem? (i := 8) rfl)
  have k_7 := hts _ m_7
  have m_8 : (.methodLink RX4 214 yX4_putToken : Cond) ∈ zw_t_readOne6 := List.mem_append_left _ (List.mem_of_getElem? (i := 9) rfl)
  have k_8 := hts _ m_8
  have m_9 : (.instanceMethod yX4_putToken : Cond) ∈ zw_t_readOne6 := List.mem_append_left _ (List.mem_of_getElem? (i := 10) rfl)
  have k_9 := hts _ m_9
  have m_10 : (.selects RX4 yX4_putToken yX4_putToken : Cond) ∈ zw_t_readOne6 := List.mem_append_left _ (List.mem_of_getElem? (i := 11) rfl)
  have k_10 := hts _ m_10
  have m_11 : (.methodLink RX4 220 yX4_readRelation : Cond) ∈ zw_t_readOne6 := List.mem_append_left _ (List.mem_of_getElem? (i := 12) rfl)
  have k_11 := hts _ m_11
  have m_12 : (.instanceMethod yX4_readRelation : Cond) ∈ zw_t_readOne6 := List.mem_append_left _ (List.mem_of_getElem? (i := 13) rfl)
  have k_12 := hts _ m_12
  have m_13 : (.selects RX4 yX4_readRelation yX4_readRelation : Cond) ∈ zw_t_readOne6 := List.mem_append_left _ (List.mem_of_getElem? (i := 14) rfl)
  have k_13 := hts _ m_13
  have g_t_step : ∀ w ∈ zw_t_step, w ∈ zw_t_readOne6 := fun w h => List.mem_append_right _ (List.mem_append_left _ h)
  have g_t_readOne7 : ∀ w ∈ zw_t_readOne7, w ∈ zw_t_readOne6 := fun w h => List.mem_append_right _ (List.mem_append_right _ (List.mem_append_left _ h))
  have g_t_putToken : ∀ w ∈ zw_t_putToken, w ∈ zw_t_readOne6 := fun w h => List.mem_append_right _ (List.mem_append_right _ (List.mem_append_right _ (List.mem_append_left _ h)))
  have g_t_readRelation6 : ∀ w ∈ zw_t_readRelation6, w ∈ zw_t_readOne6 := fun w h => List.mem_append_right _ (List.mem_append_right _ (List.mem_append_right _ (List.mem_append_right _ (List.mem_append_left _ h))))
  have i_X4 : ∀ w ∈ u_ws RX4 TX4 11, w ∈ zw_t_readOne6 := fun w h => List.mem_append_right _ (List.mem_append_right _ (List.mem_append_right _ (List.mem_append_right _ (List.mem_append_right _ (List.mem_append_left _ h)))))
  have lt_0 : (0 : Int32).toInt = 0 := by decide
  have lt_1 : (1 : Int32).toInt = 1 := by decide
  have lt_6 : (6 : Int32).toInt = 6 := by decide
  have lt_7 : (7 : Int32).toInt = 7 := by decide
  have lt_277 : (277 : Int32).toInt = 277 := by decide
  have hl := lv_entry ([.ref p0, .int 6]) (n := 2) (Nat.le_of_ble_eq_true rfl)
  rw [lg_entry_eq]
  generalize (lg_sl ([.ref p0, .int 6]) ++ List.replicate (2 - (lg_sl ([.ref p0, .int 6])).length) Slot.unset).toArray = ls at hl ⊢
  have hl : lv_has ls 2 [(0, .ref p0), (1, .int 6)] := hl
  refine lv_aload_n hx hb dX4_readOne_0 rfl (lv_at hl 0 rfl) ?_
  obtain ⟨v_1, fv_1⟩ := OKX4_g4 ho_p0
  refine qg_X4_4 hx hb hts i_X4 hown hK hP 0 rfl k_0 fv_1 dX4_readOne_1 (lv_sipush (v := 277) hx hb dX4_readOne_4 (by decide) ?_)
  refine lv_icmp_eq (tgt := 16) hx hb dX4_readOne_7 (by decide) (fun c_2 => ?_) (fun c_2 => ?_)
  · have tc_2 := q_eq c_2
    refine lv_iload_n hx hb dX4_readOne_16 rfl (lv_at hl 1 rfl) (lv_bipush (v := 6) hx hb dX4_readOne_17 (by decide) (lv_icmp_le (tgt := 28) hx hb dX4_readOne_19 (by decide) (fun c_3 => ?_) (fun c_3 => absurd c_3 (by decide))))
    refine lv_aload_n hx hb dX4_readOne_28 rfl (lv_at hl 0 rfl) ?_
    refine q_cVv (As := []) (rest := []) q_exw hE hK hP hDa za_t_readOne6 hS hA [0, 4, 5] [1, 2] (by decide +kernel) ⟨hx, hb, hml, hown, hts⟩ (t_step l dC dI s.heap.size p0 f_p0 p0_text c_p0_text b_p0_text p0_words c_p0_words b_p0_words ho_p0 fr_p0_0 fr_p0_1) rfl rfl (cwV 0 hts (p1_gV m_1 m_2 m_3 m_4 g_t_step gz_t_step) rfl rfl rfl (by decide +kernel) ⟨by decide, by decide⟩) (va_recv hK hP (ci := 4) (q0 := 0) rfl rfl) zm_t_step rfl hl.1 rfl (Nat.le_of_ble_eq_true rfl) dX4_readOne_29 ⟨by decide, by decide⟩ (fun H5 lo5 hG5 hS5 => ?_)
    obtain ⟨o_6, ho_7, hf_8, hQ5⟩ := hG5
    have hP5 : va_P (dC, dI) vwCl (zW_t_readOne6 p0 o_6 p0_draft f_p0_draft p0_draft_laws f_p0_draft_laws p0_draft_laws_code c_p0_draft_laws_code b_p0_draft_laws_code p0_text c_p0_text b_p0_text p0_words c_p0_words b_p0_words) H5 := hQ5
    clear hQ5 hP hS
    refine lv_aload_n hx hb dX4_readOne_32 rfl (lv_at hl 0 rfl) (lv_iload_n hx hb dX4_readOne_33 rfl (lv_at hl 1 rfl) (lv_iconst (v := 1) hx hb dX4_readOne_34 (by decide) (lv_iadd hx hb dX4_readOne_35 (lv_topi fun v_9 ev_9 => ?_))))
    obtain rfl : v_9 = 7 := ev_9.trans (by decide)
    refine q_cVi (As := [.int 7]) (rest := []) q_exw hE hK hP5 hDa za_t_readOne6 hS5 hA [0, 1, 2, 3, 4, 5] [0, 1, 2] (by decide +kernel) ⟨hx, hb, hml, hown, hts⟩ (t_readOne7 l dC dI H5.size p0 o_6 p0_draft f_p0_draft p0_draft_laws f_p0_draft_laws p0_draft_laws_code c_p0_draft_laws_code b_p0_draft_laws_code p0_text c_p0_text b_p0_text p0_words c_p0_words b_p0_words ho_7 ((hf_8.u (by decide) fr_p0_0)) ((hf_8.u (by decide) fr_p0_1)) ((hf_8.u (by decide) fr_p0_8)) ho_p0_draft fr_p0_draft_12 ho_p0_draft_laws fr_p0_draft_laws_0) rfl rfl (cwV 1 hts (p1_gV m_5 m_6 m_7 m_4 g_t_readOne7 gz_t_readOne7) rfl rfl rfl (by decide +kernel) ⟨by decide, by decide⟩) (va_recv hK hP5 (ci := 4) (q0 := 0) rfl rfl) zm_t_readOne7 rfl hl.1 rfl (Nat.le_of_ble_eq_true rfl) dX4_readOne_36 ⟨by decide, by decide⟩ (fun r_10 H11 lo11 hG11 hS11 => ?_)
    obtain ⟨o_12, o_13, o_14, z_15, ho_16, hf_17, ho_18, hf_19, hQ11⟩ := hG11
    have hP11 : va_P (dC, dI) vwCl (zW_t_readOne6 p0 o_12 p0_draft f_p0_draft p0_draft_laws o_13 p0_draft_laws_code c_p0_draft_laws_code o_14 p0_text c_p0_text b_p0_text p0_words c_p0_words b_p0_words) H11 := hQ11
    clear hQ11 hP5 hS5
    rcases z_15 with ⟨rfl, z_15⟩ | ⟨rfl, z_15⟩
    · refine lv_if_eq (tgt := 56) hx hb dX4_readOne_39 (by decide) (fun c_20 => absurd c_20 (by decide)) (fun c_20 => ?_)
      refine lv_aload_n hx hb dX4_readOne_42 rfl (lv_at hl 0 rfl) (lv_sipush (v := 277) hx hb dX4_readOne_43 (by decide) ?_)
      refine q_cVi (As := [.int 277]) (rest := []) q_w0 trivial hK hP11 hDa za_t_readOne6 hS11 hA [0, 1, 2, 3] [0] (by decide +kernel) ⟨hx, hb, hml, hown, hts⟩ (t_putToken l dC dI H11.size p0 o_12 p0_draft f_p0_draft p0_draft_laws o_13 p0_draft_laws_code c_p0_draft_laws_code o_14 277 ho_16 ((hf_17.u (by decide) (hf_8.u (by decide) fr_p0_8))) ho_p0_draft fr_p0_draft_12 ho_18 ((hf_19.u (by decide) fr_p0_draft_laws_0))) rfl rfl (cwV 1 hts (p1_gV m_8 m_9 m_10 m_4 g_t_putToken gz_t_putToken) rfl rfl rfl (by decide +kernel) ⟨by decide, by decide⟩) (va_recv hK hP11 (ci := 4) (q0 := 0) rfl rfl) zm_t_putToken rfl hl.1 rfl (Nat.le_of_ble_eq_true rfl) dX4_readOne_46 ⟨by decide, by decide⟩ (fun r_21 H22 lo22 hG22 hS22 => ?_)
      obtain ⟨o_23, o_24, o_25, z_26, ho_27, hf_28, ho_29, hf_30, hQ22⟩ := hG22
      have hP22 : va_P (dC, dI) vwCl (zW_t_readOne6 p0 o_23 p0_draft f_p0_draft p0_draft_laws o_24 p0_draft_laws_code c_p0_draft_laws_code o_25 p0_text c_p0_text b_p0_text p0_words c_p0_words b_p0_words) H22 := hQ22
      clear hQ22 hP11 hS11
      rcases z_26 with ⟨rfl, z_26⟩ | ⟨rfl, z_26⟩
      · refine lv_if_eq (tgt := 56) hx hb dX4_readOne_49 (by decide) (fun c_31 => absurd c_31 (by decide)) (fun c_31 => ?_)
        refine lv_iconst (v := 1) hx hb dX4_readOne_52 (by decide) (lv_goto (tgt := 57) hx hb dX4_readOne_53 (by decide) ?_)
        exact q_zret hx hb hr hlocks (by decide) hS22 dX4_readOne_57 ⟨o_23, o_24, o_25, (Or.inl ⟨rfl, by first | trivial | omega⟩), ho_27, (((q_fr.rf.tr hf_8 (by decide)).tr hf_17 (by decide)).tr hf_28 (by decide)), ho_29, ((q_fr.rf.tr hf_19 (by decide)).tr hf_30 (by decide)), hP22, za_t_readOne6⟩
      · refine lv_if_eq (tgt := 56) hx hb dX4_readOne_49 (by decide) (fun c_32 => ?_) (fun c_32 => absurd c_32 (by decide))
        refine lv_iconst (v := 0) hx hb dX4_readOne_56 (by decide) ?_
        exact q_zret hx hb hr hlocks (by decide) hS22 dX4_readOne_57 ⟨o_23, o_24, o_25, (Or.inr ⟨rfl, by first | trivial | omega⟩), ho_27, (((q_fr.rf.tr hf_8 (by decide)).tr hf_17 (by decide)).tr hf_28 (by decide)), ho_29, ((q_fr.rf.tr hf_19 (by decide)).tr hf_30 (by decide)), hP22, za_t_readOne6⟩
    · refine lv_if_eq (tgt := 56) hx hb dX4_readOne_39 (by decide) (fun c_33 => ?_) (fun c_33 => absurd c_33 (by decide))
      refine lv_iconst (v := 0) hx hb dX4_readOne_56 (by decide) ?_
      exact q_zret hx hb hr hlocks (by decide) hS11 dX4_readOne_57 ⟨o_12, o_13, o_14, (Or.inr ⟨rfl, by first | trivial | omega⟩), ho_16, ((q_fr.rf.tr hf_8 (by decide)).tr hf_17 (by decide)), ho_18, (q_fr.rf.tr hf_19 (by decide)), hP11, za_t_readOne6⟩
  · have tc_2 := q_neN c_2
    refine lv_aload_n hx hb dX4_readOne_10 rfl (lv_at hl 0 rfl) (lv_iload_n hx hb dX4_readOne_11 rfl (lv_at hl 1 rfl) ?_)
    refine q_cVi (As := [.int 6]) (rest := []) q_exw hE hK hP hDa za_t_readOne6 hS hA [0, 1, 2, 3, 4, 5] [0, 1, 2] (by decide +kernel) ⟨hx, hb, hml, hown, hts⟩ (t_readRelation6 l dC dI s.heap.size p0 f_p0 p0_draft f_p0_draft p0_draft_laws f_p0_draft_laws p0_draft_laws_code c_p0_draft_laws_code b_p0_draft_laws_code p0_text c_p0_text b_p0_text p0_words c_p0_words b_p0_words ho_p0 fr_p0_0 fr_p0_1 fr_p0_8 ho_p0_draft fr_p0_draft_12 ho_p0_draft_laws fr_p0_draft_laws_0) rfl rfl (cwV 1 hts (p1_gV m_11 m_12 m_13 m_4 g_t_readRelation6 gz_t_readRelation6) rfl rfl rfl (by decide +kernel) ⟨by decide, by decide⟩) (va_recv hK hP (ci := 4) (q0 := 0) rfl rfl) zm_t_readRelation6 rfl hl.1 rfl (Nat.le_of_ble_eq_true rfl) dX4_readOne_12 ⟨by decide, by decide⟩ (fun r_34 H35 lo35 hG35 hS35 => ?_)
    obtain ⟨o_36, o_37, o_38, z_39, ho_40, hf_41, ho_42, hf_43, hQ35⟩ := hG35
    have hP35 : va_P (dC, dI) vwCl (zW_t_readOne6 p0 o_36 p0_draft f_p0_draft p0_draft_laws o_37 p0_draft_laws_code c_p0_draft_laws_code o_38 p0_text c_p0_text b_p0_text p0_words c_p0_words b_p0_words) H35 := hQ35
    clear hQ35 hP hS
    rcases z_39 with ⟨rfl, z_39⟩ | ⟨rfl, z_39⟩
    · exact q_zret hx hb hr hlocks (by decide) hS35 dX4_readOne_15 ⟨o_36, o_37, o_38, (Or.inl ⟨rfl, by first | trivial | omega⟩), ho_40, (q_fr.rf.tr hf_41 (by decide)), ho_42, (q_fr.rf.tr hf_43 (by decide)), hP35, za_t_readOne6⟩
    · exact q_zret hx hb hr hlocks (by decide) hS35 dX4_readOne_15 ⟨o_36, o_37, o_38, (Or.inr ⟨rfl, by first | trivial | omega⟩), ho_40, (q_fr.rf.tr hf_41 (by decide)), ho_42, (q_fr.rf.tr hf_43 (by decide)), hP35, za_t_readOne6⟩
def zo_t_readAll6 : List Cond := [.code yX4_readAll cX4_readAll 4 (some .boolean), .fieldLink RX4 28 "BowWalk$Reader" "token" "I", .methodLink RX4 78 yX4_step, .instanceMethod yX4_step, .selects RX4 yX4_step yX4_step, .initialized RX4, .methodLink RX4 217 yX4_readOne, .instanceMethod yX4_readOne, .selects RX4 yX4_readOne yX4_readOne, .methodLink RX4 214 yX4_putToken, .instanceMethod yX4_putToken, .selects RX4 yX4_putToken yX4_putToken]
def zw_t_readAll6 : List Cond := zo_t_readAll6 ++ (zw_t_step ++ (zw_t_readOne6 ++ (zw_t_putToken ++ (wsX40 ++ []))))
theorem gz_t_readAll6 : zw_t_readAll6.all goodWord = true := p1_ga (by decide +kernel) (p1_ga gz_t_step (p1_ga gz_t_readOne6 (p1_ga gz_t_putToken (p1_ga gk_X4 p1_g0))))
theorem iz_t_readAll6 : ∀ w ∈ zw_t_readAll6, w ∈ lw_tbl := p1_ia (p1_all [652, 311, 573, 575, 1, 105, 653, 655, 16, 676, 678, 21] (by decide +kernel)) (p1_ia iz_t_step (p1_ia iz_t_readOne6 (p1_ia iz_t_putToken (p1_ia ik_X4 p1_i0))))
def zW_t_readAll6 (p0 : Nat) (f_p0 : List Value) (p0_draft : Nat) (f_p0_draft : List Value) (p0_draft_laws : Nat) (f_p0_draft_laws : List Value) (p0_draft_laws_code : Nat) (c_p0_draft_laws_code : ClassId) (b_p0_draft_laws_code : Nat → Int32) (p0_text : Nat) (c_p0_text : ClassId) (b_p0_text : Nat → Int32) (p0_words : Nat) (c_p0_words : ClassId) (b_p0_words : Nat → Int64) : va_W := [(p0, .inr (4, f_p0)), (p0_draft, .inr (5, f_p0_draft)), (p0_draft_laws, .inr (3, f_p0_draft_laws)), (p0_draft_laws_code, .inl (c_p0_draft_laws_code, 600, .inl b_p0_draft_laws_code)), (p0_text, .inl (c_p0_text, 1600, .inl b_p0_text)), (p0_words, .inl (c_p0_words, 22, .inr (.inl b_p0_words)))]
def zT_t_readAll6 (c_p0_draft_laws_code : ClassId) (c_p0_text : ClassId) (c_p0_words : ClassId) : List (ClassId × FieldType) := [(c_p0_draft_laws_code, .int), (c_p0_text, .byte), (c_p0_words, .long)]
def zA_t_readAll6 (p0 : Nat) (p0_draft : Nat) (p0_draft_laws : Nat) (p0_draft_laws_code : Nat) (p0_text : Nat) (p0_words : Nat) : List Nat := [p0, p0_draft, p0_draft_laws, p0_draft_laws_code, p0_text, p0_words]
theorem za_t_readAll6 {p0 : Nat} {f_p0 : List Value} {p0_draft : Nat} {f_p0_draft : List Value} {p0_draft_laws : Nat} {f_p0_draft_laws : List Value} {p0_draft_laws_code : Nat} {c_p0_draft_laws_code : ClassId} {b_p0_draft_laws_code : Nat → Int32} {p0_text : Nat} {c_p0_text : ClassId} {b_p0_text : Nat → Int32} {p0_words : Nat} {c_p0_words : ClassId} {b_p0_words : Nat → Int64} : (zW_t_readAll6 p0 f_p0 p0_draft f_p0_draft p0_draft_laws f_p0_draft_laws p0_draft_laws_code c_p0_draft_laws_code b_p0_draft_laws_code p0_text c_p0_text b_p0_text p0_words c_p0_words b_p0_words).map Prod.fst = (zA_t_readAll6 p0 p0_draft p0_draft_laws p0_draft_laws_code p0_text p0_words) := rfl
def zG_t_readAll6 (p0 : Nat) (f_p0 : List Value) (p0_draft : Nat) (f_p0_draft : List Value) (p0_draft_laws : Nat) (f_p0_draft_laws : List Value) (p0_draft_laws_code : Nat) (c_p0_draft_laws_code : ClassId) (b_p0_draft_laws_code : Nat → Int32) (p0_text : Nat) (c_p0_text : ClassId) (b_p0_text : Nat → Int32) (p0_words : Nat) (c_p0_words : ClassId) (b_p0_words : Nat → Int64) (r : Int32) (X : va_W → Prop) : Prop := ∃ (y_p0 : List Value) (y_p0_draft_laws : List Value) (y_p0_draft_laws_code : Nat → Int32), ((r = 1 ∧ (True)) ∨ (r = 0 ∧ (True))) ∧ OKX4 y_p0 ∧ q_fr [3, 4, 5, 6, 7, 9, 10] f_p0 y_p0 ∧ OKX3 y_p0_draft_laws ∧ q_fr [3, 5] f_p0_draft_laws y_p0_draft_laws ∧ X (zW_t_readAll6 p0 y_p0 p0_draft f_p0_draft p0_draft_laws y_p0_draft_laws p0_draft_laws_code c_p0_draft_laws_code y_p0_draft_laws_code p0_text c_p0_text b_p0_text p0_words c_p0_words b_p0_words)
theorem zm_t_readAll6 {p0 : Nat} {f_p0 : List Value} {p0_draft : Nat} {f_p0_draft : List Value} {p0_draft_laws : Nat} {f_p0_draft_laws : List Value} {p0_draft_laws_code : Nat} {c_p0_draft_laws_code : ClassId} {b_p0_draft_laws_code : Nat → Int32} {p0_text : Nat} {c_p0_text : ClassId} {b_p0_text : Nat → Int32} {p0_words : Nat} {c_p0_words : ClassId} {b_p0_words : Nat → Int64} : ∀ (r : Int32), ∀ X Y : va_W → Prop, (∀ w, X w → Y w) → zG_t_readAll6 p0 f_p0 p0_draft f_p0_draft p0_draft_laws f_p0_draft_laws p0_draft_laws_code c_p0_draft_laws_code b_p0_draft_laws_code p0_text c_p0_text b_p0_text p0_words c_p0_words b_p0_words r X → zG_t_readAll6 p0 f_p0 p0_draft f_p0_draft p0_draft_laws f_p0_draft_laws p0_draft_laws_code c_p0_draft_laws_code b_p0_draft_laws_code p0_text c_p0_text b_p0_text p0_words c_p0_words b_p0_words r Y := fun r X Y h h1 => by obtain ⟨x0, x1, x2, x3, x4, x5, x6, x7, hx⟩ := h1; exact ⟨x0, x1, x2, x3, x4, x5, x6, x7, h _ hx⟩
set_option maxHeartbeats 4000000 in
set_option maxRecDepth 100000 in
theorem t_readAll6 (l : Launch) (dC : Nat → ClassId) (dI : Nat → Nat → Nat) (sz : Nat) (p0 : Nat) (f_p0 : List Value) (p0_draft : Nat) (f_p0_draft : List Value) (p0_draft_laws : Nat) (f_p0_draft_laws : List Value) (p0_draft_laws_code : Nat) (c_p0_draft_laws_code : ClassId) (b_p0_draft_laws_code : Nat → Int32) (p0_text : Nat) (c_p0_text : ClassId) (b_p0_text : Nat → Int32) (p0_words : Nat) (c_p0_words : ClassId) (b_p0_words : Nat → Int64) (ho_p0 : OKX4 f_p0) (fr_p0_0 : q_rf f_p0 0 p0_words) (fr_p0_1 : q_rf f_p0 1 p0_text) (fr_p0_8 : q_rf f_p0 8 p0_draft) (ho_p0_draft : OKX5 f_p0_draft) (fr_p0_draft_12 : q_rf f_p0_draft 12 p0_draft_laws) (ho_p0_draft_laws : OKX3 f_p0_draft_laws) (fr_p0_draft_laws_0 : q_rf f_p0_draft_laws 0 p0_draft_laws_code) : Met l yX4_readAll zw_t_readAll6 ({ frames := 18, cells := 0, slots := 0, locals := 402 }) (va_Pc [.ref p0, .int 6] (q_pre (dC, dI) (zW_t_readAll6 p0 f_p0 p0_draft f_p0_draft p0_draft_laws f_p0_draft_laws p0_draft_laws_code c_p0_draft_laws_code b_p0_draft_laws_code p0_text c_p0_text b_p0_text p0_words c_p0_words b_p0_words) (zT_t_readAll6 c_p0_draft_laws_code c_p0_text c_p0_words) q_ex sz)) (q_Qi (dC, dI) (zG_t_readAll6 p0 f_p0 p0_draft f_p0_draft p0_draft_laws f_p0_draft_laws p0_draft_laws_code c_p0_draft_laws_code b_p0_draft_laws_code p0_text c_p0_text b_p0_text p0_words c_p0_words b_p0_words) (zA_t_readAll6 p0 p0_draft p0_draft_laws p0_draft_laws_code p0_text p0_words) (va_A (zW_t_readAll6 p0 f_p0 p0_draft f_p0_draft p0_draft_laws f_p0_draft_laws p0_draft_laws_code c_p0_draft_laws_code b_p0_draft_laws_code p0_text c_p0_text b_p0_text p0_words c_p0_words b_p0_words) sz)) 0 0 (va_A (zW_t_readAll6 p0 f_p0 p0_draft f_p0_draft p0_draft_laws f_p0_draft_laws p0_draft_laws_code c_p0_draft_laws_code b_p0_draft_laws_code p0_text c_p0_text b_p0_text p0_words c_p0_words b_p0_words) sz) := by
  refine Met.ofW (cc := cX4_readAll) (maxL := 4) (ret := (some .boolean)) (by decide) rfl ?_
  intro p e s m args below meth c s₁ B hml hv
  obtain ⟨rfl, hsz, hP, hK, hD0, hE⟩ := hv
  have hx := B.exec
  have hb := B.bytes
  have hr := B.returns
  have hts := atoms_spec (ws := zw_t_readAll6) B.pre
  have hown : s.vm.findClass RX4 = some m.cls := findClass_of_methodNamed B.named
  have hlocks := B.notSynchronized
  subst hsz
  have hD := hD0.self (sz := s.heap.size)
  generalize hAe : va_A (zW_t_readAll6 p0 f_p0 p0_draft f_p0_draft p0_draft_laws f_p0_draft_laws p0_draft_laws_code c_p0_draft_laws_code b_p0_draft_laws_code p0_text c_p0_text b_p0_text p0_words c_p0_words b_p0_words) s.heap.size = A at hD hE ⊢
  have hA : ∀ q : Nat, s.heap.size ≤ q → A q := fun q h => by rw [← hAe]; exact Or.inr h
  have hDa : q_DA A (zA_t_readAll6 p0 p0_draft p0_draft_laws p0_draft_laws_code p0_text p0_words) := q_DA.mk hD za_t_readAll6
  clear hAe hD0 hD
  have hS : va_S A s.heap s.heap [] := va_S.rf
  have m_0 : (.fieldLink RX4 28 "BowWalk$Reader" "token" "I" : Cond) ∈ zw_t_readAll6 := List.mem_append_left _ (List.mem_of_getElem? (i := 1) rfl)
  have k_0 := hts _ m_0
  have m_1 : (.methodLink RX4 78 yX4_step : Cond) ∈ zw_t_readAll6 := List.mem_append_left _ (List.mem_of_getElem? (i := 2) rfl)
  have k_1 := hts _ m_1
  have m_2 : (.instanceMethod yX4_step : Cond) ∈ zw_t_readAll6 := List.mem_append_left _ (List.mem_of_getElem? (i := 3) rfl)
  have k_2 := hts _ m_2
  have m_3 : (.selects RX4 yX4_step yX4_step : Cond) ∈ zw_t_readAll6 := List.mem_append_left _ (List.mem_of_getElem? (i := 4) rfl)
  have k_3 := hts _ m_3
  have m_4 : (.initialized RX4 : Cond) ∈ zw_t_readAll6 := List.mem_append_left _ (List.mem_of_getElem? (i := 5) rfl)
  have k_4 := hts _ m_4
  have m_5 : (.methodLink RX4 217 yX4_readOne : Cond) ∈ zw_t_readAll6 := List.mem_append_left _ (List.mem_of_getElem? (i := 6) rfl)
  have k_5 := hts _ m_5
  have m_6 : (.instanceMethod yX4_readOne : Cond) ∈ zw_t_readAll6 := List.mem_append_left _ (List.mem_of_getElem? (i := 7) rfl)
  have k_6 := hts _ m_6
  have m_7 : (.selects RX4 yX4_readOne yX4_readOne : Cond) ∈ zw_t_readAll6 := List.mem_append_left _ (List.mem_of_getElem? (i := 8) rfl)
  have k_7 := hts _ m_7
  have m_8 : (.methodLink RX4 214 yX4_putToken : Cond) ∈ zw_t_readAll6 := List.mem_append_left _ (List.mem_of_getElem? (i := 9) rfl)
  have k_8 := hts _ m_8
  have m_9 : (.instanceMethod yX4_putToken : Cond) ∈ zw_t_readAll6 := List.mem_append_left _ (List.mem_of_getElem? (i := 10) rfl)
  have k_9 := hts _ m_9
  have m_10 : (.selects RX4 yX4_putToken yX4_putToken : Cond) ∈ zw_t_readAll6 := List.mem_append_left _ (List.mem_of_getElem? (i := 11) rfl)
  have k_10 := hts _ m_10
  have g_t_step : ∀ w ∈ zw_t_step, w ∈ zw_t_readAll6 := fun w h => List.mem_append_right _ (List.mem_append_left _ h)
  have g_t_readOne6 : ∀ w ∈ zw_t_readOne6, w ∈ zw_t_readAll6 := fun w h => List.mem_append_right _ (List.mem_append_right _ (List.mem_append_left _ h))
  have g_t_putToken : ∀ w ∈ zw_t_putToken, w ∈ zw_t_readAll6 := fun w h => List.mem_append_right _ (List.mem_append_right _ (List.mem_append_right _ (List.mem_append_left _ h)))
  have i_X4 : ∀ w ∈ u_ws RX4 TX4 11, w ∈ zw_t_readAll6 := fun w h => List.mem_append_right _ (List.mem_append_right _ (List.mem_append_right _ (List.mem_append_right _ (List.mem_append_left _ h))))
  have lt_0 : (0 : Int32).toInt = 0 := by decide
  have lt_1 : (1 : Int32).toInt = 1 := by decide
  have lt_6 : (6 : Int32).toInt = 6 := by decide
  have lt_60 : (60 : Int32).toInt = 60 := by decide
  have lt_276 : (276 : Int32).toInt = 276 := by decide
  have hl := lv_entry ([.ref p0, .int 6]) (n := 4) (Nat.le_of_ble_eq_true rfl)
  rw [lg_entry_eq]
  generalize (lg_sl ([.ref p0, .int 6]) ++ List.replicate (4 - (lg_sl ([.ref p0, .int 6])).length) Slot.unset).toArray = ls at hl ⊢
  have hl : lv_has ls 4 [(0, .ref p0), (1, .int 6)] := hl
  have jn_2 : ∀ (fz_p0 : List Value) (fz_p0_draft_laws : List Value) (bz_p0_draft_laws_code : Nat → Int32) (j_1 : Int32) (H : Heap) (locs : List Loc) (ls : Array Slot) (ho_fz_p0 : OKX4 fz_p0) (hf_fz_p0 : q_fr [3, 4, 5, 6, 7, 9, 10] f_p0 fz_p0) (fr_fz_p0_0 : q_rf fz_p0 0 p0_words) (fr_fz_p0_1 : q_rf fz_p0 1 p0_text) (fr_fz_p0_8 : q_rf fz_p0 8 p0_draft) (ho_fz_p0_draft_laws : OKX3 fz_p0_draft_laws) (hf_fz_p0_draft_laws : q_fr [3, 5] f_p0_draft_laws fz_p0_draft_laws) (fr_fz_p0_draft_laws_0 : q_rf fz_p0_draft_laws 0 p0_draft_laws_code) (tj_1 : (0) ≤ j_1.toInt ∧ j_1.toInt ≤ 1), va_P (dC, dI) vwCl (zW_t_readAll6 p0 fz_p0 p0_draft f_p0_draft p0_draft_laws fz_p0_draft_laws p0_draft_laws_code c_p0_draft_laws_code bz_p0_draft_laws_code p0_text c_p0_text b_p0_text p0_words c_p0_words b_p0_words) H → va_S A s.heap H locs → lv_has ls 4 [(0, .ref p0), (1, .int 6)] → W p l e (headSpec zw_t_readAll6 { frames := 18, cells := 0, slots := 0, locals := 402 }).room s m ([.ref p0, .int 6] : List Value).toArray below meth c H locs 0 0 (MQ below (q_Qi (dC, dI) (zG_t_readAll6 p0 f_p0 p0_draft f_p0_draft p0_draft_laws f_p0_draft_laws p0_draft_laws_code c_p0_draft_laws_code b_p0_draft_laws_code p0_text c_p0_text b_p0_text p0_words c_p0_words b_p0_words) (zA_t_readAll6 p0 p0_draft p0_draft_laws p0_draft_laws_code p0_text p0_words) A) ([.ref p0, .int 6] : List Value).toArray s 0 0 A) (F0 m 5 ls [.int j_1]) := by
    intro fz_p0 fz_p0_draft_laws bz_p0_draft_laws_code j_1 H3 lo3 ls ho_fz_p0 hf_fz_p0 fr_fz_p0_0 fr_fz_p0_1 fr_fz_p0_8 ho_fz_p0_draft_laws hf_fz_p0_draft_laws fr_fz_p0_draft_laws_0 tj_1 hP3 hS3 hl
    refine lv_istore_n (lv' := [(2, .int j_1), (0, .ref p0), (1, .int 6)]) hx hb dX4_readAll_5 rfl hl (by decide) rfl (fun ls hl => ?_)
    refine lv_iconst (v := 0) hx hb dX4_readAll_6 (by decide) (lv_istore_n (lv' := [(3, .int 0), (2, .int j_1), (0, .ref p0), (1, .int 6)]) hx hb dX4_readAll_7 rfl hl (by decide) rfl (fun ls hl => ?_))
    have key8 : ∀ (fu8 : Nat) (rd : Int32) (n : Int32) (fz_p0 : List Value) (fz_p0_draft_laws : List Value) (bz_p0_draft_laws_code : Nat → Int32) (H : Heap) (locs : List Loc) (ls : Array Slot) (hfu8 : 60 - n.toInt ≤ (fu8 : Int)) (trd : (0) ≤ rd.toInt ∧ rd.toInt ≤ 1) (tn : (0) ≤ n.toInt ∧ n.toInt ≤ 60) (ho_fz_p0 : OKX4 fz_p0) (hf_fz_p0 : q_fr [3, 4, 5, 6, 7, 9, 10] f_p0 fz_p0) (fr_fz_p0_0 : q_rf fz_p0 0 p0_words) (fr_fz_p0_1 : q_rf fz_p0 1 p0_text) (fr_fz_p0_8 : q_rf fz_p0 8 p0_draft) (ho_fz_p0_draft_laws : OKX3 fz_p0_draft_laws) (hf_fz_p0_draft_laws : q_fr [3, 5] f_p0_draft_laws fz_p0_draft_laws) (fr_fz_p0_draft_laws_0 : q_rf fz_p0_draft_laws 0 p0_draft_laws_code), va_P (dC, dI) vwCl (zW_t_readAll6 p0 fz_p0 p0_draft f_p0_draft p0_draft_laws fz_p0_draft_laws p0_draft_laws_code c_p0_draft_laws_code bz_p0_draft_laws_code p0_text c_p0_text b_p0_text p0_words c_p0_words b_p0_words) H → va_S A s.heap H locs → lv_has ls 4 [(3, .int n), (2, .int rd), (0, .ref p0), (1, .int 6)] → W p l e (headSpec zw_t_readAll6 { frames := 18, cells := 0, slots := 0, locals := 402 }).room s m ([.ref p0, .int 6] : List Value).toArray below meth c H locs 0 0 (MQ below (q_Qi (dC, dI) (zG_t_readAll6 p0 f_p0 p0_draft f_p0_draft p0_draft_laws f_p0_draft_laws p0_draft_laws_code c_p0_draft_laws_code b_p0_draft_laws_code p0_text c_p0_text b_p0_text p0_words c_p0_words b_p0_words) (zA_t_readAll6 p0 p0_draft p0_draft_laws p0_draft_laws_code p0_text p0_words) A) ([.ref p0, .int 6] : List Value).toArray s 0 0 A) (F0 m 8 ls []) := by
      intro fu8
      induction fu8 using Nat.strongRecOn with
      | ind fu8 ih8 =>
        intro rd n fz_p0 fz_p0_draft_laws bz_p0_draft_laws_code H4 lo4 ls hfu8 trd tn ho_fz_p0 hf_fz_p0 fr_fz_p0_0 fr_fz_p0_1 fr_fz_p0_8 ho_fz_p0_draft_laws hf_fz_p0_draft_laws fr_fz_p0_draft_laws_0 hP4 hS4 hl
        refine lv_iload_n hx hb dX4_readAll_8 rfl (lv_at hl 0 rfl) (lv_bipush (v := 60) hx hb dX4_readAll_9 (by decide) ?_)
        refine lv_icmp_ge (tgt := 62) hx hb dX4_readAll_11 (by decide) (fun c_5 => ?_) (fun c_5 => ?_)
        · have tc_5 := q_ge c_5
          refine lv_iload_n hx hb dX4_readAll_62 rfl (lv_at hl 1 rfl) ?_
          rcases q_c2 (i := rd) (by omega) (by omega) with hb_6 | hb_6
          · exact q_zret hx hb hr hlocks (by rw [hb_6]; decide) hS4 dX4_readAll_63 ⟨fz_p0, fz_p0_draft_laws, bz_p0_draft_laws_code, (Or.inr ⟨hb_6, by first | trivial | omega⟩), ho_fz_p0, hf_fz_p0, ho_fz_p0_draft_laws, hf_fz_p0_draft_laws, hP4, za_t_readAll6⟩
          · exact q_zret hx hb hr hlocks (by rw [hb_6]; decide) hS4 dX4_readAll_63 ⟨fz_p0, fz_p0_draft_laws, bz_p0_draft_laws_code, (Or.inl ⟨hb_6, by first | trivial | omega⟩), ho_fz_p0, hf_fz_p0, ho_fz_p0_draft_laws, hf_fz_p0_draft_laws, hP4, za_t_readAll6⟩
        · have tc_5 := q_ltN c_5
          refine lv_iload_n hx hb dX4_readAll_14 rfl (lv_at hl 1 rfl) ?_
          refine lv_if_eq (tgt := 62) hx hb dX4_readAll_15 (by decide) (fun c_7 => ?_) (fun c_7 => ?_)
          · have tc_7 := q_eq c_7
            refine lv_iload_n hx hb dX4_readAll_62 rfl (lv_at hl 1 rfl) ?_
            rcases q_c2 (i := rd) (by omega) (by omega) with hb_8 | hb_8
            · exact q_zret hx hb hr hlocks (by rw [hb_8]; decide) hS4 dX4_readAll_63 ⟨fz_p0, fz_p0_draft_laws, bz_p0_draft_laws_code, (Or.inr ⟨hb_8, by first | trivial | omega⟩), ho_fz_p0, hf_fz_p0, ho_fz_p0_draft_laws, hf_fz_p0_draft_laws, hP4, za_t_readAll6⟩
            · exact q_zret hx hb hr hlocks (by rw [hb_8]; decide) hS4 dX4_readAll_63 ⟨fz_p0, fz_p0_draft_laws, bz_p0_draft_laws_code, (Or.inl ⟨hb_8, by first | trivial | omega⟩), ho_fz_p0, hf_fz_p0, ho_fz_p0_draft_laws, hf_fz_p0_draft_laws, hP4, za_t_readAll6⟩
          · have tc_7 := q_neN c_7
            refine lv_aload_n hx hb dX4_readAll_18 rfl (lv_at hl 2 rfl) ?_
            obtain ⟨v_9, fv_9⟩ := OKX4_g4 ho_fz_p0
            refine qg_X4_4 hx hb hts i_X4 hown hK hP4 0 rfl k_0 fv_9 dX4_readAll_19 (lv_sipush (v := 276) hx hb dX4_readAll_22 (by decide) ?_)
            refine lv_icmp_ne (tgt := 62) hx hb dX4_readAll_25 (by decide) (fun c_10 => ?_) (fun c_10 => ?_)
            · have tc_10 := q_ne c_10
              refine lv_iload_n hx hb dX4_readAll_62 rfl (lv_at hl 1 rfl) ?_
              rcases q_c2 (i := rd) (by omega) (by omega) with hb_11 | hb_11
              · exact q_zret hx hb hr hlocks (by rw [hb_11]; decide) hS4 dX4_readAll_63 ⟨fz_p0, fz_p0_draft_laws, bz_p0_draft_laws_code, (Or.inr ⟨hb_11, by first | trivial | omega⟩), ho_fz_p0, hf_fz_p0, ho_fz_p0_draft_laws, hf_fz_p0_draft_laws, hP4, za_t_readAll6⟩
              · exact q_zret hx hb hr hlocks (by rw [hb_11]; decide) hS4 dX4_readAll_63 ⟨fz_p0, fz_p0_draft_laws, bz_p0_draft_laws_code, (Or.inl ⟨hb_11, by first | trivial | omega⟩), ho_fz_p0, hf_fz_p0, ho_fz_p0_draft_laws, hf_fz_p0_draft_laws, hP4, za_t_readAll6⟩
            · have tc_10 := q_eqN c_10
              refine lv_aload_n hx hb dX4_readAll_28 rfl (lv_at hl 2 rfl) ?_
              refine q_cVv (As := []) (rest := []) q_exw hE hK hP4 hDa za_t_readAll6 hS4 hA [0, 4, 5] [1, 2] (by decide +kernel) ⟨hx, hb, hml, hown, hts⟩ (t_step l dC dI H4.size p0 fz_p0 p0_text c_p0_text b_p0_text p0_words c_p0_words b_p0_words ho_fz_p0 fr_fz_p0_0 fr_fz_p0_1) rfl rfl (cwV 0 hts (p1_gV m_1 m_2 m_3 m_4 g_t_step gz_t_step) rfl rfl rfl (by decide +kernel) ⟨by decide, by decide⟩) (va_recv hK hP4 (ci := 4) (q0 := 0) rfl rfl) zm_t_step rfl hl.1 rfl (Nat.le_of_ble_eq_true rfl) dX4_readAll_29 ⟨by decide, by decide⟩ (fun H13 lo13 hG13 hS13 => ?_)
              obtain ⟨o_14, ho_15, hf_16, hQ13⟩ := hG13
              have hP13 : va_P (dC, dI) vwCl (zW_t_readAll6 p0 o_14 p0_draft f_p0_draft p0_draft_laws fz_p0_draft_laws p0_draft_laws_code c_p0_draft_laws_code bz_p0_draft_laws_code p0_text c_p0_text b_p0_text p0_words c_p0_words b_p0_words) H13 := hQ13
              clear hQ13 hP4 hS4
              refine lv_aload_n hx hb dX4_readAll_32 rfl (lv_at hl 2 rfl) (lv_iload_n hx hb dX4_readAll_33 rfl (lv_at hl 3 rfl) ?_)
              refine q_cVi (As := [.int 6]) (rest := []) q_exw hE hK hP13 hDa za_t_readAll6 hS13 hA [0, 1, 2, 3, 4, 5] [0, 1, 2] (by decide +kernel) ⟨hx, hb, hml, hown, hts⟩ (t_readOne6 l dC dI H13.size p0 o_14 p0_draft f_p0_draft p0_draft_laws fz_p0_draft_laws p0_draft_laws_code c_p0_draft_laws_code bz_p0_draft_laws_code p0_text c_p0_text b_p0_text p0_words c_p0_words b_p0_words ho_15 ((hf_16.u (by decide) fr_fz_p0_0)) ((hf_16.u (by decide) fr_fz_p0_1)) ((hf_16.u (by decide) fr_fz_p0_8)) ho_p0_draft fr_p0_draft_12 ho_fz_p0_draft_laws fr_fz_p0_draft_laws_0) rfl rfl (cwV 1 hts (p1_gV m_5 m_6 m_7 m_4 g_t_readOne6 gz_t_readOne6) rfl rfl rfl (by decide +kernel) ⟨by decide, by decide⟩) (va_recv hK hP13 (ci := 4) (q0 := 0) rfl rfl) zm_t_readOne6 rfl hl.1 rfl (Nat.le_of_ble_eq_true rfl) dX4_readAll_34 ⟨by decide, by decide⟩ (fun r_17 H18 lo18 hG18 hS18 => ?_)
              obtain ⟨o_19, o_20, o_21, z_22, ho_23, hf_24, ho_25, hf_26, hQ18⟩ := hG18
              have hP18 : va_P (dC, dI) vwCl (zW_t_readAll6 p0 o_19 p0_draft f_p0_draft p0_draft_laws o_20 p0_draft_laws_code c_p0_draft_laws_code o_21 p0_text c_p0_text b_p0_text p0_words c_p0_words b_p0_words) H18 := hQ18
              clear hQ18 hP13 hS13
              rcases z_22 with ⟨rfl, z_22⟩ | ⟨rfl, z_22⟩
              · refine lv_if_eq (tgt := 54) hx hb dX4_readAll_37 (by decide) (fun c_27 => absurd c_27 (by decide)) (fun c_27 => ?_)
                refine lv_aload_n hx hb dX4_readAll_40 rfl (lv_at hl 2 rfl) (lv_sipush (v := 276) hx hb dX4_readAll_41 (by decide) ?_)
                refine q_cVi (As := [.int 276]) (rest := []) q_w0 trivial hK hP18 hDa za_t_readAll6 hS18 hA [0, 1, 2, 3] [0] (by decide +kernel) ⟨hx, hb, hml, hown, hts⟩ (t_putToken l dC dI H18.size p0 o_19 p0_draft f_p0_draft p0_draft_laws o_20 p0_draft_laws_code c_p0_draft_laws_code o_21 276 ho_23 ((hf_24.u (by decide) (hf_16.u (by decide) fr_fz_p0_8))) ho_p0_draft fr_p0_draft_12 ho_25 ((hf_26.u (by decide) fr_fz_p0_draft_laws_0))) rfl rfl (cwV 1 hts (p1_gV m_8 m_9 m_10 m_4 g_t_putToken gz_t_putToken) rfl rfl rfl (by decide +kernel) ⟨by decide, by decide⟩) (va_recv hK hP18 (ci := 4) (q0 := 0) rfl rfl) zm_t_putToken rfl hl.1 rfl (Nat.le_of_ble_eq_true rfl) dX4_readAll_44 ⟨by decide, by decide⟩ (fun r_28 H29 lo29 hG29 hS29 => ?_)
                obtain ⟨o_30, o_31, o_32, z_33, ho_34, hf_35, ho_36, hf_37, hQ29⟩ := hG29
                have hP29 : va_P (dC, dI) vwCl (zW_t_readAll6 p0 o_30 p0_draft f_p0_draft p0_draft_laws o_31 p0_draft_laws_code c_p0_draft_laws_code o_32 p0_text c_p0_text b_p0_text p0_words c_p0_words b_p0_words) H29 := hQ29
                clear hQ29 hP18 hS18
                rcases z_33 with ⟨rfl, z_33⟩ | ⟨rfl, z_33⟩
                · refine lv_if_eq (tgt := 54) hx hb dX4_readAll_47 (by decide) (fun c_38 => absurd c_38 (by decide)) (fun c_38 => ?_)
                  refine lv_iconst (v := 1) hx hb dX4_readAll_50 (by decide) (lv_goto (tgt := 55) hx hb dX4_readAll_51 (by decide) (lv_istore_n (lv' := [(2, .int 1), (3, .int n), (0, .ref p0), (1, .int 6)]) hx hb dX4_readAll_55 rfl hl (by decide) rfl (fun ls hl => ?_)))
                  obtain ⟨v_39, ev_39⟩ : ∃ y : Int32, y = n + 1 := ⟨_, rfl⟩
                  have tv_39 := q_add ev_39 (by omega) (by omega)
                  refine lv_iinc (v := v_39) (lv' := [(3, .int v_39), (2, .int 1), (0, .ref p0), (1, .int 6)]) hx hb dX4_readAll_56 hl (k := 1) rfl (by rw [ev_39]; rfl) (by decide) rfl (fun ls hl => ?_)
                  refine lv_goto (tgt := 8) hx hb dX4_readAll_59 (by decide) ?_
                  exact ih8 (fu8 - 1) (by omega) 1 v_39 o_30 o_31 o_32 _ _ _ (by omega) (by omega) (by omega) ho_34 (((hf_fz_p0.tr hf_16 (by decide)).tr hf_24 (by decide)).tr hf_35 (by decide)) (hf_35.u (by decide) (hf_24.u (by decide) (hf_16.u (by decide) fr_fz_p0_0))) (hf_35.u (by decide) (hf_24.u (by decide) (hf_16.u (by decide) fr_fz_p0_1))) (hf_35.u (by decide) (hf_24.u (by decide) (hf_16.u (by decide) fr_fz_p0_8))) ho_36 ((hf_fz_p0_draft_laws.tr hf_26 (by decide)).tr hf_37 (by decide)) (hf_37.u (by decide) (hf_26.u (by decide) fr_fz_p0_draft_laws_0)) hP29 hS29 (lv_sub hl [0, 1, 2, 3] rfl)
                · refine lv_if_eq (tgt := 54) hx hb dX4_readAll_47 (by decide) (fun c_40 => ?_) (fun c_40 => absurd c_40 (by decide))
                  refine lv_iconst (v := 0) hx hb dX4_readAll_54 (by decide) (lv_istore_n (lv' := [(2, .int 0), (3, .int n), (0, .ref p0), (1, .int 6)]) hx hb dX4_readAll_55 rfl hl (by decide) rfl (fun ls hl => ?_))
                  obtain ⟨v_41, ev_41⟩ : ∃ y : Int32, y = n + 1 := ⟨_, rfl⟩
                  have tv_41 := q_add ev_41 (by omega) (by omega)
                  refine lv_iinc (v := v_41) (lv' := [(3, .int v_41), (2, .int 0), (0, .ref p0), (1, .int 6)]) hx hb dX4_readAll_56 hl (k := 1) rfl (by rw [ev_41]; rfl) (by decide) rfl (fun ls hl => ?_)
                  refine lv_goto (tgt := 8) hx hb dX4_readAll_59 (by decide) ?_
                  exact ih8 (fu8 - 1) (by omega) 0 v_41 o_30 o_31 o_32 _ _ _ (by omega) (by omega) (by omega) ho_34 (((hf_fz_p0.tr hf_16 (by decide)).tr hf_24 (by decide)).tr hf_35 (by decide)) (hf_35.u (by decide) (hf_24.u (by decide) (hf_16.u (by decide) fr_fz_p0_0))) (hf_35.u (by decide) (hf_24.u (by decide) (hf_16.u (by decide) fr_fz_p0_1))) (hf_35.u (by decide) (hf_24.u (by decide) (hf_16.u (by decide) fr_fz_p0_8))) ho_36 ((hf_fz_p0_draft_laws.tr hf_26 (by decide)).tr hf_37 (by decide)) (hf_37.u (by decide) (hf_26.u (by decide) fr_fz_p0_draft_laws_0)) hP29 hS29 (lv_sub hl [0, 1, 2, 3] rfl)
              · refine lv_if_eq (tgt := 54) hx hb dX4_readAll_37 (by decide) (fun c_42 => ?_) (fun c_42 => absurd c_42 (by decide))
                refine lv_iconst (v := 0) hx hb dX4_readAll_54 (by decide) (lv_istore_n (lv' := [(2, .int 0), (3, .int n), (0, .ref p0), (1, .int 6)]) hx hb dX4_readAll_55 rfl hl (by decide) rfl (fun ls hl => ?_))
                obtain ⟨v_43, ev_43⟩ : ∃ y : Int32, y = n + 1 := ⟨_, rfl⟩
                have tv_43 := q_add ev_43 (by omega) (by omega)
                refine lv_iinc (v := v_43) (lv' := [(3, .int v_43), (2, .int 0), (0, .ref p0), (1, .int 6)]) hx hb dX4_readAll_56 hl (k := 1) rfl (by rw [ev_43]; rfl) (by decide) rfl (fun ls hl => ?_)
                refine lv_goto (tgt := 8) hx hb dX4_readAll_59 (by decide) ?_
                exact ih8 (fu8 - 1) (by omega) 0 v_43 o_19 o_20 o_21 _ _ _ (by omega) (by omega) (by omega) ho_23 ((hf_fz_p0.tr hf_16 (by decide)).tr hf_24 (by decide)) (hf_24.u (by decide) (hf_16.u (by decide) fr_fz_p0_0)) (hf_24.u (by decide) (hf_16.u (by decide) fr_fz_p0_1)) (hf_24.u (by decide) (hf_16.u (by decide) fr_fz_p0_8)) ho_25 (hf_fz_p0_draft_laws.tr hf_26 (by decide)) (hf_26.u (by decide) fr_fz_p0_draft_laws_0) hP18 hS18 (lv_sub hl [0, 1, 2, 3] rfl)
    exact key8 60 j_1 0 fz_p0 fz_p0_draft_laws bz_p0_draft_laws_code _ _ _ (by omega) (by omega) (by omega) ho_fz_p0 hf_fz_p0 fr_fz_p0_0 fr_fz_p0_1 fr_fz_p0_8 ho_fz_p0_draft_laws hf_fz_p0_draft_laws fr_fz_p0_draft_laws_0 hP3 hS3 (lv_sub hl [0, 1, 2, 3] rfl)
  refine lv_aload_n hx hb dX4_readAll_0 rfl (lv_at hl 0 rfl) (lv_iload_n hx hb dX4_readAll_1 rfl (lv_at hl 1 rfl) ?_)
  refine q_cVi (As := [.int 6]) (rest := []) q_exw hE hK hP hDa za_t_readAll6 hS hA [0, 1, 2, 3, 4, 5] [0, 1, 2] (by decide +kernel) ⟨hx, hb, hml, hown, hts⟩ (t_readOne6 l dC dI s.heap.size p0 f_p0 p0_draft f_p0_draft p0_draft_laws f_p0_draft_laws p0_draft_laws_code c_p0_draft_laws_code b_p0_draft_laws_code p0_text c_p0_text b_p0_text p0_words c_p0_words b_p0_words ho_p0 fr_p0_0 fr_p0_1 fr_p0_8 ho_p0_draft fr_p0_draft_12 ho_p0_draft_laws fr_p0_draft_laws_0) rfl rfl (cwV 1 hts (p1_gV m_5 m_6 m_7 m_4 g_t_readOne6 gz_t_readOne6) rfl rfl rfl (by decide +kernel) ⟨by decide, by decide⟩) (va_recv hK hP (ci := 4) (q0 := 0) rfl rfl) zm_t_readOne6 rfl hl.1 rfl (Nat.le_of_ble_eq_true rfl) dX4_readAll_2 ⟨by decide, by decide⟩ (fun r_44 H45 lo45 hG45 hS45 => ?_)
  obtain ⟨o_46, o_47, o_48, z_49, ho_50, hf_51, ho_52, hf_53, hQ45⟩ := hG45
  have hP45 : va_P (dC, dI) vwCl (zW_t_readAll6 p0 o_46 p0_draft f_p0_draft p0_draft_laws o_47 p0_draft_laws_code c_p0_draft_laws_code o_48 p0_text c_p0_text b_p0_text p0_words c_p0_words b_p0_words) H45 := hQ45
  clear hQ45 hP hS
  rcases z_49 with ⟨rfl, z_49⟩ | ⟨rfl, z_49⟩
  · exact jn_2 o_46 o_47 o_48 1 _ _ _ ho_50 (q_fr.rf.tr hf_51 (by decide)) (hf_51.u (by decide) fr_p0_0) (hf_51.u (by decide) fr_p0_1) (hf_51.u (by decide) fr_p0_8) ho_52 (q_fr.rf.tr hf_53 (by decide)) (hf_53.u (by decide) fr_p0_draft_laws_0) (by omega) hP45 hS45 (lv_sub hl [0, 1] rfl)
  · exact jn_2 o_46 o_47 o_48 0 _ _ _ ho_50 (q_fr.rf.tr hf_51 (by decide)) (hf_51.u (by decide) fr_p0_0) (hf_51.u (by decide) fr_p0_1) (hf_51.u (by decide) fr_p0_8) ho_52 (q_fr.rf.tr hf_53 (by decide)) (hf_53.u (by decide) fr_p0_draft_laws_0) (by omega) hP45 hS45 (lv_sub hl [0, 1] rfl)
