def zo_t_untell : List Cond := [.code yX8_untell cX8_untell 2 (some .boolean), .fieldLink RX8 37 "BowWalk" "films" "LBowWalk$Films;", .fieldLink RX8 90 "BowWalk$Films" "count" "I", .methodLink RX8 150 yX8_within, .static yX8_within, .initialized RX8, .fieldLink RX8 301 "BowWalk$Films" "untold" "[Z", .fieldLink RX8 305 "BowWalk$Films" "untoldAt" "[I", .fieldLink RX8 75 "BowWalk" "time" "I"]
def zw_t_untell : List Cond := zo_t_untell ++ (zw_t_within ++ (wsX80 ++ (wsX20 ++ [])))
theorem gz_t_untell : zw_t_untell.all goodWord = true := p1_ga (by decide +kernel) (p1_ga gz_t_within (p1_ga gk_X8 (p1_ga gk_X2 p1_g0)))
theorem iz_t_untell : ∀ w ∈ zw_t_untell, w ∈ lw_tbl := p1_ia (p1_all [971, 503, 457, 749, 750, 104, 452, 454, 512] (by decide +kernel)) (p1_ia iz_t_within (p1_ia ik_X8 (p1_ia ik_X2 p1_i0)))
def zW_t_untell (p0 : Nat) (f_p0 : List Value) (p0_films : Nat) (f_p0_films : List Value) (p0_films_untold : Nat) (c_p0_films_untold : ClassId) (b_p0_films_untold : Nat → Int32) (p0_films_untoldAt : Nat) (c_p0_films_untoldAt : ClassId) (b_p0_films_untoldAt : Nat → Int32) : va_W := [(p0, .inr (7, f_p0)), (p0_films, .inr (2, f_p0_films)), (p0_films_untold, .inl (c_p0_films_untold, 40, .inl b_p0_films_untold)), (p0_films_untoldAt, .inl (c_p0_films_untoldAt, 40, .inl b_p0_films_untoldAt))]
def zT_t_untell (c_p0_films_untold : ClassId) (c_p0_films_untoldAt : ClassId) : List (ClassId × FieldType) := [(c_p0_films_untold, .boolean), (c_p0_films_untoldAt, .int)]
def zA_t_untell (p0 : Nat) (p0_films : Nat) (p0_films_untold : Nat) (p0_films_untoldAt : Nat) : List Nat := [p0, p0_films, p0_films_untold, p0_films_untoldAt]
theorem za_t_untell {p0 : Nat} {f_p0 : List Value} {p0_films : Nat} {f_p0_films : List Value} {p0_films_untold : Nat} {c_p0_films_untold : ClassId} {b_p0_films_untold : Nat → Int32} {p0_films_untoldAt : Nat} {c_p0_films_untoldAt : ClassId} {b_p0_films_untoldAt : Nat → Int32} : (zW_t_untell p0 f_p0 p0_films f_p0_films p0_films_untold c_p0_films_untold b_p0_films_untold p0_films_untoldAt c_p0_films_untoldAt b_p0_films_untoldAt).map Prod.fst = (zA_t_untell p0 p0_films p0_films_untold p0_films_untoldAt) := rfl
def zG_t_untell (p0 : Nat) (f_p0 : List Value) (p0_films : Nat) (f_p0_films : List Value) (p0_films_untold : Nat) (c_p0_films_untold : ClassId) (b_p0_films_untold : Nat → Int32) (p0_films_untoldAt : Nat) (c_p0_films_untoldAt : ClassId) (b_p0_films_untoldAt : Nat → Int32) (a1 : Int32) (r : Int32) (X : va_W → Prop) : Prop := ∃ (y_p0_films_untold : Nat → Int32) (y_p0_films_untoldAt : Nat → Int32), ((r = 1 ∧ (True)) ∨ (r = 0 ∧ (True))) ∧ X (zW_t_untell p0 f_p0 p0_films f_p0_films p0_films_untold c_p0_films_untold y_p0_films_untold p0_films_untoldAt c_p0_films_untoldAt y_p0_films_untoldAt)
theorem zm_t_untell {p0 : Nat} {f_p0 : List Value} {p0_films : Nat} {f_p0_films : List Value} {p0_films_untold : Nat} {c_p0_films_untold : ClassId} {b_p0_films_untold : Nat → Int32} {p0_films_untoldAt : Nat} {c_p0_films_untoldAt : ClassId} {b_p0_films_untoldAt : Nat → Int32} {a1 : Int32} : ∀ (r : Int32), ∀ X Y : va_W → Prop, (∀ w, X w → Y w) → zG_t_untell p0 f_p0 p0_films f_p0_films p0_films_untold c_p0_films_untold b_p0_films_untold p0_films_untoldAt c_p0_films_untoldAt b_p0_films_untoldAt a1 r X → zG_t_untell p0 f_p0 p0_films f_p0_films p0_films_untold c_p0_films_untold b_p0_films_untold p0_films_untoldAt c_p0_films_untoldAt b_p0_films_untoldAt a1 r Y := fun r X Y h h1 => by obtain ⟨x0, x1, x2, hx⟩ := h1; exact ⟨x0, x1, x2, h _ hx⟩
set_option maxHeartbeats 4000000 in
set_option maxRecDepth 100000 in
theorem t_untell (l : Launch) (dC : Nat → ClassId) (dI : Nat → Nat → Nat) (sz : Nat) (p0 : Nat) (f_p0 : List Value) (p0_films : Nat) (f_p0_films : List Value) (p0_films_untold : Nat) (c_p0_films_untold : ClassId) (b_p0_films_untold : Nat → Int32) (p0_films_untoldAt : Nat) (c_p0_films_untoldAt : ClassId) (b_p0_films_untoldAt : Nat → Int32) (a1 : Int32) (ho_p0 : OKX8 f_p0) (fr_p0_4 : q_rf f_p0 4 p0_films) (ho_p0_films : OKX2 f_p0_films) (fr_p0_films_4 : q_rf f_p0_films 4 p0_films_untold) (fr_p0_films_5 : q_rf f_p0_films 5 p0_films_untoldAt) : Met l yX8_untell zw_t_untell ({ frames := 1, cells := 0, slots := 0, locals := 22 }) (va_Pc [.ref p0, .int a1] (q_pre (dC, dI) (zW_t_untell p0 f_p0 p0_films f_p0_films p0_films_untold c_p0_films_untold b_p0_films_untold p0_films_untoldAt c_p0_films_untoldAt b_p0_films_untoldAt) (zT_t_untell c_p0_films_untold c_p0_films_untoldAt) q_E0 sz)) (q_Qi (dC, dI) (zG_t_untell p0 f_p0 p0_films f_p0_films p0_films_untold c_p0_films_untold b_p0_films_untold p0_films_untoldAt c_p0_films_untoldAt b_p0_films_untoldAt a1) (zA_t_untell p0 p0_films p0_films_untold p0_films_untoldAt) (va_A (zW_t_untell p0 f_p0 p0_films f_p0_films p0_films_untold c_p0_films_untold b_p0_films_untold p0_films_untoldAt c_p0_films_untoldAt b_p0_films_untoldAt) sz)) 0 0 (va_A (zW_t_untell p0 f_p0 p0_films f_p0_films p0_films_untold c_p0_films_untold b_p0_films_untold p0_films_untoldAt c_p0_films_untoldAt b_p0_films_untoldAt) sz) := by
  refine Met.ofW (cc := cX8_untell) (maxL := 2) (ret := (some .boolean)) (by decide) rfl ?_
  intro p e s m args below meth c s₁ B hml hv
  obtain ⟨rfl, hsz, hP, hK, hD0, hE⟩ := hv
  have hx := B.exec
  have hb := B.bytes
  have hr := B.returns
  have hts := atoms_spec (ws := zw_t_untell) B.pre
  have hown : s.vm.findClass RX8 = some m.cls := findClass_of_methodNamed B.named
  have hlocks := B.notSynchronized
  subst hsz
  have hD := hD0.self (sz := s.heap.size)
  generalize hAe : va_A (zW_t_untell p0 f_p0 p0_films f_p0_films p0_films_untold c_p0_films_untold b_p0_films_untold p0_films_untoldAt c_p0_films_untoldAt b_p0_films_untoldAt) s.heap.size = A at hD hE ⊢
  have hA : ∀ q : Nat, s.heap.size ≤ q → A q := fun q h => by rw [← hAe]; exact Or.inr h
  have hDa : q_DA A (zA_t_untell p0 p0_films p0_films_untold p0_films_untoldAt) := q_DA.mk hD za_t_untell
  clear hAe hD0 hD
  have hS : va_S A s.heap s.heap [] := va_S.rf
  have m_0 : (.fieldLink RX8 37 "BowWalk" "films" "LBowWalk$Films;" : Cond) ∈ zw_t_untell := List.mem_append_left _ (List.mem_of_getElem? (i := 1) rfl)
  have k_0 := hts _ m_0
  have m_1 : (.fieldLink RX8 90 "BowWalk$Films" "count" "I" : Cond) ∈ zw_t_untell := List.mem_append_left _ (List.mem_of_getElem? (i := 2) rfl)
  have k_1 := hts _ m_1
  have m_2 : (.methodLink RX8 150 yX8_within : Cond) ∈ zw_t_untell := List.mem_append_left _ (List.mem_of_getElem? (i := 3) rfl)
  have k_2 := hts _ m_2
  have m_3 : (.static yX8_within : Cond) ∈ zw_t_untell := List.mem_append_left _ (List.mem_of_getElem? (i := 4) rfl)
  have k_3 := hts _ m_3
  have m_4 : (.initialized RX8 : Cond) ∈ zw_t_untell := List.mem_append_left _ (List.mem_of_getElem? (i := 5) rfl)
  have k_4 := hts _ m_4
  have m_5 : (.fieldLink RX8 301 "BowWalk$Films" "untold" "[Z" : Cond) ∈ zw_t_untell := List.mem_append_left _ (List.mem_of_getElem? (i := 6) rfl)
  have k_5 := hts _ m_5
  have m_6 : (.fieldLink RX8 305 "BowWalk$Films" "untoldAt" "[I" : Cond) ∈ zw_t_untell := List.mem_append_left _ (List.mem_of_getElem? (i := 7) rfl)
  have k_6 := hts _ m_6
  have m_7 : (.fieldLink RX8 75 "BowWalk" "time" "I" : Cond) ∈ zw_t_untell := List.mem_append_left _ (List.mem_of_getElem? (i := 8) rfl)
  have k_7 := hts _ m_7
  have g_t_within : ∀ w ∈ zw_t_within, w ∈ zw_t_untell := fun w h => List.mem_append_right _ (List.mem_append_left _ h)
  have i_X8 : ∀ w ∈ u_ws RX8 TX8 14, w ∈ zw_t_untell := fun w h => List.mem_append_right _ (List.mem_append_right _ (List.mem_append_left _ h))
  have i_X2 : ∀ w ∈ u_ws RX2 TX2 8, w ∈ zw_t_untell := fun w h => List.mem_append_right _ (List.mem_append_right _ (List.mem_append_right _ (List.mem_append_left _ h)))
  have lt_0 : (0 : Int32).toInt = 0 := by decide
  have lt_1 : (1 : Int32).toInt = 1 := by decide
  have hl := lv_entry ([.ref p0, .int a1]) (n := 2) (Nat.le_of_ble_eq_true rfl)
  rw [lg_entry_eq]
  generalize (lg_sl ([.ref p0, .int a1]) ++ List.replicate (2 - (lg_sl ([.ref p0, .int a1])).length) Slot.unset).toArray = ls at hl ⊢
  have hl : lv_has ls 2 [(0, .ref p0), (1, .int a1)] := hl
  refine lv_iload_n hx hb dX8_untell_0 rfl (lv_at hl 1 rfl) (lv_iconst (v := 0) hx hb dX8_untell_1 (by decide) (lv_aload_n hx hb dX8_untell_2 rfl (lv_at hl 0 rfl) (qg_X8_4 hx hb hts i_X8 hown hK hP 0 rfl k_0 fr_p0_4 dX8_untell_3 ?_)))
  obtain ⟨v_1, fv_1, tv_1⟩ := OKX2_g7 ho_p0_films
  refine qg_X2_7 hx hb hts i_X2 hown hK hP 1 rfl k_1 fv_1 dX8_untell_6 (lv_iconst (v := 1) hx hb dX8_untell_9 (by decide) (lv_isub hx hb dX8_untell_10 (lv_topi fun v_2 ev_2 => ?_)))
  have tv_2 := q_sub ev_2 (by omega) (by omega)
  refine q_cSi (As := [.int a1, .int 0, .int v_2]) (rest := []) q_w0 trivial hK hP hDa za_t_untell hS hA [] [] (by decide +kernel) ⟨hx, hb, hml, hown, hts⟩ (t_within l dC dI s.heap.size a1 0 v_2) rfl rfl (va_cwS 3 hts (p1_gS m_2 m_3 m_4 g_t_within gz_t_within) rfl rfl rfl (by decide +kernel) ⟨by decide, by decide⟩) zm_t_within rfl hl.1 rfl (Nat.le_of_ble_eq_true rfl) dX8_untell_11 ⟨by decide, by decide⟩ (fun r_3 H4 lo4 hG4 hS4 => ?_)
  obtain ⟨z_5, hQ4⟩ := hG4
  have hP4 : va_P (dC, dI) vwCl (zW_t_untell p0 f_p0 p0_films f_p0_films p0_films_untold c_p0_films_untold b_p0_films_untold p0_films_untoldAt c_p0_films_untoldAt b_p0_films_untoldAt) H4 := hQ4
  clear hQ4 hP hS
  rcases z_5 with ⟨rfl, z_5⟩ | ⟨rfl, z_5⟩
  · refine lv_if_eq (tgt := 29) hx hb dX8_untell_14 (by decide) (fun c_6 => absurd c_6 (by decide)) (fun c_6 => ?_)
    refine lv_aload_n hx hb dX8_untell_17 rfl (lv_at hl 0 rfl) (qg_X8_4 hx hb hts i_X8 hown hK hP4 0 rfl k_0 fr_p0_4 dX8_untell_18 (qg_X2_4 hx hb hts i_X2 hown hK hP4 1 rfl k_5 fr_p0_films_4 dX8_untell_21 (lv_iload_n hx hb dX8_untell_24 rfl (lv_at hl 1 rfl) (q_zld hx hb hK hP4 2 0 rfl rfl (q_in (by omega) (by omega)) dX8_untell_25 (fun v_7 ev_7 => ?_)))))
    refine lv_if_eq (tgt := 31) hx hb dX8_untell_26 (by decide) (fun c_8 => ?_) (fun c_8 => ?_)
    · have tc_8 := q_eq c_8
      refine lv_aload_n hx hb dX8_untell_31 rfl (lv_at hl 0 rfl) (qg_X8_4 hx hb hts i_X8 hown hK hP4 0 rfl k_0 fr_p0_4 dX8_untell_32 (qg_X2_4 hx hb hts i_X2 hown hK hP4 1 rfl k_5 fr_p0_films_4 dX8_untell_35 (lv_iload_n hx hb dX8_untell_38 rfl (lv_at hl 1 rfl) (lv_iconst (v := 1) hx hb dX8_untell_39 (by decide) (q_zst hx hb hK hP4 hDa za_t_untell hS4 2 0 rfl rfl (q_in (by omega) (by omega)) dX8_untell_40 (fun H9 lo9 g9 eg9 (hP9 : va_P (dC, dI) vwCl (zW_t_untell p0 f_p0 p0_films f_p0_films p0_films_untold c_p0_films_untold g9 p0_films_untoldAt c_p0_films_untoldAt b_p0_films_untoldAt) H9) hS9 => ?_))))))
      clear hP4 hS4
      refine lv_aload_n hx hb dX8_untell_41 rfl (lv_at hl 0 rfl) (qg_X8_4 hx hb hts i_X8 hown hK hP9 0 rfl k_0 fr_p0_4 dX8_untell_42 (qg_X2_5 hx hb hts i_X2 hown hK hP9 1 rfl k_6 fr_p0_films_5 dX8_untell_45 (lv_iload_n hx hb dX8_untell_48 rfl (lv_at hl 1 rfl) (lv_aload_n hx hb dX8_untell_49 rfl (lv_at hl 0 rfl) ?_))))
      obtain ⟨v_10, fv_10, tv_10⟩ := OKX8_g13 ho_p0
      refine qg_X8_13 hx hb hts i_X8 hown hK hP9 0 rfl k_7 fv_10 dX8_untell_50 (q_ist hx hb hK hP9 hDa za_t_untell hS9 3 1 rfl rfl (q_in (by omega) (by omega)) dX8_untell_53 (fun H11 lo11 g11 eg11 (hP11 : va_P (dC, dI) vwCl (zW_t_untell p0 f_p0 p0_films f_p0_films p0_films_untold c_p0_films_untold g9 p0_films_untoldAt c_p0_films_untoldAt g11) H11) hS11 => ?_))
      clear hP9 hS9
      refine lv_iconst (v := 1) hx hb dX8_untell_54 (by decide) ?_
      exact q_zret hx hb hr hlocks (by decide) hS11 dX8_untell_55 ⟨g9, g11, (Or.inl ⟨rfl, by first | trivial | omega⟩), hP11, za_t_untell⟩
    · have tc_8 := q_neN c_8
      refine lv_iconst (v := 0) hx hb dX8_untell_29 (by decide) ?_
      exact q_zret hx hb hr hlocks (by decide) hS4 dX8_untell_30 ⟨b_p0_films_untold, b_p0_films_untoldAt, (Or.inr ⟨rfl, by first | trivial | omega⟩), hP4, za_t_untell⟩
  · refine lv_if_eq (tgt := 29) hx hb dX8_untell_14 (by decide) (fun c_12 => ?_) (fun c_12 => absurd c_12 (by decide))
    refine lv_iconst (v := 0) hx hb dX8_untell_29 (by decide) ?_
    exact q_zret hx hb hr hlocks (by decide) hS4 dX8_untell_30 ⟨b_p0_films_untold, b_p0_films_untoldAt, (Or.inr ⟨rfl, by first | trivial | omega⟩), hP4, za_t_untell⟩
def zo_t_fits : List Cond := [.code yX8_fits cX8_fits 4 (some .int), .fieldLink RX8 37 "BowWalk" "films" "LBowWalk$Films;", .fieldLink RX8 90 "BowWalk$Films" "count" "I", .methodLink RX8 308 yX2_counts, .instanceMethod yX2_counts, .selects RX2 yX2_counts yX2_counts, .initialized RX2, .fieldLink RX8 274 "BowWalk$Films" "lets" "[I", .fieldLink RX8 60 "BowWalk" "shop" "LBowWalk$Shop;", .methodLink RX8 281 yX5_hasPair, .instanceMethod yX5_hasPair, .selects RX5 yX5_hasPair yX5_hasPair, .initialized RX5]
def zw_t_fits : List Cond := zo_t_fits ++ (zw_t_counts ++ (zw_t_hasPair ++ (wsX80 ++ (wsX20 ++ []))))
theorem gz_t_fits : zw_t_fits.all goodWord = true := p1_ga (by decide +kernel) (p1_ga gz_t_counts (p1_ga gz_t_hasPair (p1_ga gk_X8 (p1_ga gk_X2 p1_g0))))
theorem iz_t_fits : ∀ w ∈ zw_t_fits, w ∈ lw_tbl := p1_ia (p1_all [979, 503, 457, 980, 981, 982, 114, 450, 508, 951, 952, 953, 106] (by decide +kernel)) (p1_ia iz_t_counts (p1_ia iz_t_hasPair (p1_ia ik_X8 (p1_ia ik_X2 p1_i0))))
def zW_t_fits (p0 : Nat) (f_p0 : List Value) (p0_films : Nat) (f_p0_films : List Value) (p0_films_lets : Nat) (c_p0_films_lets : ClassId) (b_p0_films_lets : Nat → Int32) (p0_films_toldAt : Nat) (c_p0_films_toldAt : ClassId) (b_p0_films_toldAt : Nat → Int32) (p0_films_untold : Nat) (c_p0_films_untold : ClassId) (b_p0_films_untold : Nat → Int32) (p0_films_untoldAt : Nat) (c_p0_films_untoldAt : ClassId) (b_p0_films_untoldAt : Nat → Int32) (p0_shop : Nat) (f_p0_shop : List Value) (p0_shop_count : Nat) (c_p0_shop_count : ClassId) (b_p0_shop_count : Nat → Int32) : va_W := [(p0, .inr (7, f_p0)), (p0_films, .inr (2, f_p0_films)), (p0_films_lets, .inl (c_p0_films_lets, 40, .inl b_p0_films_lets)), (p0_films_toldAt, .inl (c_p0_films_toldAt, 40, .inl b_p0_films_toldAt)), (p0_films_untold, .inl (c_p0_films_untold, 40, .inl b_p0_films_untold)), (p0_films_untoldAt, .inl (c_p0_films_untoldAt, 40, .inl b_p0_films_untoldAt)), (p0_shop, .inr (5, f_p0_shop)), (p0_shop_count, .inl (c_p0_shop_count, 5, .inl b_p0_shop_count))]
def zT_t_fits (c_p0_films_lets : ClassId) (c_p0_films_toldAt : ClassId) (c_p0_films_untold : ClassId) (c_p0_films_untoldAt : ClassId) (c_p0_shop_count : ClassId) : List (ClassId × FieldType) := [(c_p0_films_lets, .int), (c_p0_films_toldAt, .int), (c_p0_films_untold, .boolean), (c_p0_films_untoldAt, .int), (c_p0_shop_count, .int)]
def zA_t_fits (p0 : Nat) (p0_films : Nat) (p0_films_lets : Nat) (p0_films_toldAt : Nat) (p0_films_untold : Nat) (p0_films_untoldAt : Nat) (p0_shop : Nat) (p0_shop_count : Nat) : List Nat := [p0, p0_films, p0_films_lets, p0_films_toldAt, p0_films_untold, p0_films_untoldAt, p0_shop, p0_shop_count]
theorem za_t_fits {p0 : Nat} {f_p0 : List Value} {p0_films : Nat} {f_p0_films : List Value} {p0_films_lets : Nat} {c_p0_films_lets : ClassId} {b_p0_films_lets : Nat → Int32} {p0_films_toldAt : Nat} {c_p0_films_toldAt : ClassId} {b_p0_films_toldAt : Nat → Int32} {p0_films_untold : Nat} {c_p0_films_untold : ClassId} {b_p0_films_untold : Nat → Int32} {p0_films_untoldAt : Nat} {c_p0_films_untoldAt : ClassId} {b_p0_films_untoldAt : Nat → Int32} {p0_shop : Nat} {f_p0_shop : List Value} {p0_shop_count : Nat} {c_p0_shop_count : ClassId} {b_p0_shop_count : Nat → Int32} : (zW_t_fits p0 f_p0 p0_films f_p0_films p0_films_lets c_p0_films_lets b_p0_films_lets p0_films_toldAt c_p0_films_toldAt b_p0_films_toldAt p0_films_untold c_p0_films_untold b_p0_films_untold p0_films_untoldAt c_p0_films_untoldAt b_p0_films_untoldAt p0_shop f_p0_shop p0_shop_count c_p0_shop_count b_p0_shop_count).map Prod.fst = (zA_t_fits p0 p0_films p0_films_lets p0_films_toldAt p0_films_untold p0_films_untoldAt p0_shop p0_shop_count) := rfl
def zG_t_fits (p0 : Nat) (f_p0 : List Value) (p0_films : Nat) (f_p0_films : List Value) (p0_films_lets : Nat) (c_p0_films_lets : ClassId) (b_p0_films_lets : Nat → Int32) (p0_films_toldAt : Nat) (c_p0_films_toldAt : ClassId) (b_p0_films_toldAt : Nat → Int32) (p0_films_untold : Nat) (c_p0_films_untold : ClassId) (b_p0_films_untold : Nat → Int32) (p0_films_untoldAt : Nat) (c_p0_films_untoldAt : ClassId) (b_p0_films_untoldAt : Nat → Int32) (p0_shop : Nat) (f_p0_shop : List Value) (p0_shop_count : Nat) (c_p0_shop_count : ClassId) (b_p0_shop_count : Nat → Int32) (a1 : Int32) (r : Int32) (X : va_W → Prop) : Prop := X (zW_t_fits p0 f_p0 p0_films f_p0_films p0_films_lets c_p0_films_lets b_p0_films_lets p0_films_toldAt c_p0_films_toldAt b_p0_films_toldAt p0_films_untold c_p0_films_untold b_p0_films_untold p0_films_untoldAt c_p0_films_untoldAt b_p0_films_untoldAt p0_shop f_p0_shop p0_shop_count c_p0_shop_count b_p0_shop_count)
theorem zm_t_fits {p0 : Nat} {f_p0 : List Value} {p0_films : Nat} {f_p0_films : List Value} {p0_films_lets : Nat} {c_p0_films_lets : ClassId} {b_p0_films_lets : Nat → Int32} {p0_films_toldAt : Nat} {c_p0_films_toldAt : ClassId} {b_p0_films_toldAt : Nat → Int32} {p0_films_untold : Nat} {c_p0_films_untold : ClassId} {b_p0_films_untold : Nat → Int32} {p0_films_untoldAt : Nat} {c_p0_films_untoldAt : ClassId} {b_p0_films_untoldAt : Nat → Int32} {p0_shop : Nat} {f_p0_shop : List Value} {p0_shop_count : Nat} {c_p0_shop_count : ClassId} {b_p0_shop_count : Nat → Int32} {a1 : Int32} : ∀ (r : Int32), ∀ X Y : va_W → Prop, (∀ w, X w → Y w) → zG_t_fits p0 f_p0 p0_films f_p0_films p0_films_lets c_p0_films_lets b_p0_films_lets p0_films_toldAt c_p0_films_toldAt b_p0_films_toldAt p0_films_untold c_p0_films_untold b_p0_films_untold p0_films_untoldAt c_p0_films_untoldAt b_p0_films_untoldAt p0_shop f_p0_shop p0_shop_count c_p0_shop_count b_p0_shop_count a1 r X → zG_t_fits p0 f_p0 p0_films f_p0_films p0_films_lets c_p0_films_lets b_p0_films_lets p0_films_toldAt c_p0_films_toldAt b_p0_films_toldAt p0_films_untold c_p0_films_untold b_p0_films_untold p0_films_untoldAt c_p0_films_untoldAt b_p0_films_untoldAt p0_shop f_p0_shop p0_shop_count c_p0_shop_count b_p0_shop_count a1 r Y := fun r X Y h h1 => h _ h1
set_option maxHeartbeats 4000000 in
set_option maxRecDepth 100000 in
theorem t_fits (l : Launch) (dC : Nat → ClassId) (dI : Nat → Nat → Nat) (sz : Nat) (p0 : Nat) (f_p0 : List Value) (p0_films : Nat) (f_p0_films : List Value) (p0_films_lets : Nat) (c_p0_films_lets : ClassId) (b_p0_films_lets : Nat → Int32) (p0_films_toldAt : Nat) (c_p0_films_toldAt : ClassId) (b_p0_films_toldAt : Nat → Int32) (p0_films_untold : Nat) (c_p0_films_untold : ClassId) (b_p0_films_untold : Nat → Int32) (p0_films_untoldAt : Nat) (c_p0_films_untoldAt : ClassId) (b_p0_films_untoldAt : Nat → Int32) (p0_shop : Nat) (f_p0_shop : List Value) (p0_shop_count : Nat) (c_p0_shop_count : ClassId) (b_p0_shop_count : Nat → Int32) (a1 : Int32) (ho_p0 : OKX8 f_p0) (fr_p0_4 : q_rf f_p0 4 p0_films) (fr_p0_9 : q_rf f_p0 9 p0_shop) (ho_p0_films : OKX2 f_p0_films) (fr_p0_films_3 : q_rf f_p0_films 3 p0_films_lets) (fr_p0_films_4 : q_rf f_p0_films 4 p0_films_untold) (fr_p0_films_5 : q_rf f_p0_films 5 p0_films_untoldAt) (fr_p0_films_6 : q_rf f_p0_films 6 p0_films_toldAt) (ho_p0_shop : OKX5 f_p0_shop) (fr_p0_shop_0 : q_rf f_p0_shop 0 p0_shop_count) (hr_p0_shop_count : q_cnt b_p0_shop_count) : Met l yX8_fits zw_t_fits ({ frames := 3, cells := 0, slots := 0, locals := 63 }) (va_Pc [.ref p0, .int a1] (q_pre (dC, dI) (zW_t_fits p0 f_p0 p0_films f_p0_films p0_films_lets c_p0_films_lets b_p0_films_lets p0_films_toldAt c_p0_films_toldAt b_p0_films_toldAt p0_films_untold c_p0_films_untold b_p0_films_untold p0_films_untoldAt c_p0_films_untoldAt b_p0_films_untoldAt p0_shop f_p0_shop p0_shop_count c_p0_shop_count b_p0_shop_count) (zT_t_fits c_p0_films_lets c_p0_films_toldAt c_p0_films_untold c_p0_films_untoldAt c_p0_shop_count) q_E0 sz)) (q_Qi (dC, dI) (zG_t_fits p0 f_p0 p0_films f_p0_films p0_films_lets c_p0_films_lets b_p0_films_lets p0_films_toldAt c_p0_films_toldAt b_p0_films_toldAt p0_films_untold c_p0_films_untold b_p0_films_untold p0_films_untoldAt c_p0_films_untoldAt b_p0_films_untoldAt p0_shop f_p0_shop p0_shop_count c_p0_shop_count b_p0_shop_count a1) (zA_t_fits p0 p0_films p0_films_lets p0_films_toldAt p0_films_untold p0_films_untoldAt p0_shop p0_shop_count) (va_A (zW_t_fits p0 f_p0 p0_films f_p0_films p0_films_lets c_p0_films_lets b_p0_films_lets p0_films_toldAt c_p0_films_toldAt b_p0_films_toldAt p0_films_untold c_p0_films_untold b_p0_films_untold p0_films_untoldAt c_p0_films_untoldAt b_p0_films_untoldAt p0_shop f_p0_shop p0_shop_count c_p0_shop_count b_p0_shop_count) sz)) 0 0 (va_A (zW_t_fits p0 f_p0 p0_films f_p0_films p0_films_lets c_p0_films_lets b_p0_films_lets p0_films_toldAt c_p0_films_toldAt b_p0_films_toldAt p0_films_untold c_p0_films_untold b_p0_films_untold p0_films_untoldAt c_p0_films_untoldAt b_p0_films_untoldAt p0_shop f_p0_shop p0_shop_count c_p0_shop_count b_p0_shop_count) sz) := by
  refine Met.ofW (cc := cX8_fits) (maxL := 4) (ret := (some .int)) (by decide) rfl ?_
  intro p e s m args below meth c s₁ B hml hv
  obtain ⟨rfl, hsz, hP, hK, hD0, hE⟩ := hv
  have hx := B.exec
  have hb := B.bytes
  have hr := B.returns
  have hts := atoms_spec (ws := zw_t_fits) B.pre
  have hown : s.vm.findClass RX8 = some m.cls := findClass_of_methodNamed B.named
  have hlocks := B.notSynchronized
  subst hsz
  have hD := hD0.self (sz := s.heap.size)
  generalize hAe : va_A (zW_t_fits p0 f_p0 p0_films f_p0_films p0_films_lets c_p0_films_lets b_p0_films_lets p0_films_toldAt c_p0_films_toldAt b_p0_films_toldAt p0_films_untold c_p0_films_untold b_p0_films_untold p0_films_untoldAt c_p0_films_untoldAt b_p0_films_untoldAt p0_shop f_p0_shop p0_shop_count c_p0_shop_count b_p0_shop_count) s.heap.size = A at hD hE ⊢
  have hA : ∀ q : Nat, s.heap.size ≤ q → A q := fun q h => by rw [← hAe]; exact Or.inr h
  have hDa : q_DA A (zA_t_fits p0 p0_films p0_films_lets p0_films_toldAt p0_films_untold p0_films_untoldAt p0_shop p0_shop_count) := q_DA.mk hD za_t_fits
  clear hAe hD0 hD
  have hS : va_S A s.heap s.heap [] := va_S.rf
  have m_0 : (.fieldLink RX8 37 "BowWalk" "films" "LBowWalk$Films;" : Cond) ∈ zw_t_fits := List.mem_append_left _ (List.mem_of_getElem? (i := 1) rfl)
  have k_0 := hts _ m_0
  have m_1 : (.fieldLink RX8 90 "BowWalk$Films" "count" "I" : Cond) ∈ zw_t_fits := List.mem_append_left _ (List.mem_of_getElem? (i := 2) rfl)
  have k_1 := hts _ m_1
  have m_2 : (.methodLink RX8 308 yX2_counts : Cond) ∈ zw_t_fits := List.mem_append_left _ (List.mem_of_getElem? (i := 3) rfl)
  have k_2 := hts _ m_2
  have m_3 : (.instanceMethod yX2_counts : Cond) ∈ zw_t_fits := List.mem_append_left _ (List.mem_of_getElem? (i := 4) rfl)
  have k_3 := hts _ m_3
  have m_4 : (.selects RX2 yX2_counts yX2_counts : Cond) ∈ zw_t_fits := List.mem_append_left _ (List.mem_of_getElem? (i := 5) rfl)
  have k_4 := hts _ m_4
  have m_5 : (.initialized RX2 : Cond) ∈ zw_t_fits := List.mem_append_left _ (List.mem_of_getElem? (i := 6) rfl)
  have k_5 := hts _ m_5
  have m_6 : (.fieldLink RX8 274 "BowWalk$Films" "lets" "[I" : Cond) ∈ zw_t_fits := List.mem_append_left _ (List.mem_of_getElem? (i := 7) rfl)
  have k_6 := hts _ m_6
  have m_7 : (.fieldLink RX8 60 "BowWalk" "shop" "LBowWalk$Shop;" : Cond) ∈ zw_t_fits := List.mem_append_left _ (List.mem_of_getElem? (i := 8) rfl)
  have k_7 := hts _ m_7
  have m_8 : (.methodLink RX8 281 yX5_hasPair : Cond) ∈ zw_t_fits := List.mem_append_left _ (List.mem_of_getElem? (i := 9) rfl)
  have k_8 := hts _ m_8
  have m_9 : (.instanceMethod yX5_hasPair : Cond) ∈ zw_t_fits := List.mem_append_left _ (List.mem_of_getElem? (i := 10) rfl)
  have k_9 := hts _ m_9
  have m_10 : (.selects RX5 yX5_hasPair yX5_hasPair : Cond) ∈ zw_t_fits := List.mem_append_left _ (List.mem_of_getElem? (i := 11) rfl)
  have k_10 := hts _ m_10
  have m_11 : (.initialized RX5 : Cond) ∈ zw_t_fits := List.mem_append_left _ (List.mem_of_getElem? (i := 12) rfl)
  have k_11 := hts _ m_11
  have g_t_counts : ∀ w ∈ zw_t_counts, w ∈ zw_t_fits := fun w h => List.mem_append_right _ (List.mem_append_left _ h)
  have g_t_hasPair : ∀ w ∈ zw_t_hasPair, w ∈ zw_t_fits := fun w h => List.mem_append_right _ (List.mem_append_right _ (List.mem_append_left _ h))
  have i_X8 : ∀ w ∈ u_ws RX8 TX8 14, w ∈ zw_t_fits := fun w h => List.mem_append_right _ (List.mem_append_right _ (List.mem_append_right _ (List.mem_append_left _ h)))
  have i_X2 : ∀ w ∈ u_ws RX2 TX2 8, w ∈ zw_t_fits := fun w h => List.mem_append_right _ (List.mem_append_right _ (List.mem_append_right _ (List.mem_append_right _ (List.mem_append_left _ h))))
  have lt_0 : (0 : Int32).toInt = 0 := by decide
  have lt_1 : (1 : Int32).toInt = 1 := by decide
  have lt_12 : (12 : Int32).toInt = 12 := by decide
  have hl := lv_entry ([.ref p0, .int a1]) (n := 4) (Nat.le_of_ble_eq_true rfl)
  rw [lg_entry_eq]
  generalize (lg_sl ([.ref p0, .int a1]) ++ List.replicate (4 - (lg_sl ([.ref p0, .int a1])).length) Slot.unset).toArray = ls at hl ⊢
  have hl : lv_has ls 4 [(0, .ref p0), (1, .int a1)] := hl
  refine lv_iconst (v := 0) hx hb dX8_fits_0 (by decide) (lv_istore_n (lv' := [(2, .int 0), (0, .ref p0), (1, .int a1)]) hx hb dX8_fits_1 rfl hl (by decide) rfl (fun ls hl => ?_))
  refine lv_iconst (v := 0) hx hb dX8_fits_2 (by decide) (lv_istore_n (lv' := [(3, .int 0), (2, .int 0), (0, .ref p0), (1, .int a1)]) hx hb dX8_fits_3 rfl hl (by decide) rfl (fun ls hl => ?_))
  have key4 : ∀ (fu4 : Nat) (bi : Int32) (pa : Int32) (H : Heap) (locs : List Loc) (ls : Array Slot) (hfu4 : 12 - pa.toInt ≤ (fu4 : Int)) (tpa : (0) ≤ pa.toInt ∧ pa.toInt ≤ 12), va_P (dC, dI) vwCl (zW_t_fits p0 f_p0 p0_films f_p0_films p0_films_lets c_p0_films_lets b_p0_films_lets p0_films_toldAt c_p0_films_toldAt b_p0_films_toldAt p0_films_untold c_p0_films_untold b_p0_films_untold p0_films_untoldAt c_p0_films_untoldAt b_p0_films_untoldAt p0_shop f_p0_shop p0_shop_count c_p0_shop_count b_p0_shop_count) H → va_S A s.heap H locs → lv_has ls 4 [(3, .int pa), (2, .int bi), (0, .ref p0), (1, .int a1)] → W p l e (headSpec zw_t_fits { frames := 3, cells := 0, slots := 0, locals := 63 }).room s m ([.ref p0, .int a1] : List Value).toArray below meth c H locs 0 0 (MQ below (q_Qi (dC, dI) (zG_t_fits p0 f_p0 p0_films f_p0_films p0_films_lets c_p0_films_lets b_p0_films_lets p0_films_toldAt c_p0_films_toldAt b_p0_films_toldAt p0_films_untold c_p0_films_untold b_p0_films_untold p0_films_untoldAt c_p0_films_untoldAt b_p0_films_untoldAt p0_shop f_p0_shop p0_shop_count c_p0_shop_count b_p0_shop_count a1) (zA_t_fits p0 p0_films p0_films_lets p0_films_toldAt p0_films_untold p0_films_untoldAt p0_shop p0_shop_count) A) ([.ref p0, .int a1] : List Value).toArray s 0 0 A) (F0 m 4 ls []) := by
    intro fu4
    induction fu4 using Nat.strongRecOn with
    | ind fu4 ih4 =>
      intro bi pa H1 lo1 ls hfu4 tpa hP1 hS1 hl
      refine lv_iload_n hx hb dX8_fits_4 rfl (lv_at hl 0 rfl) (lv_bipush (v := 12) hx hb dX8_fits_5 (by decide) ?_)
      refine lv_icmp_ge (tgt := 37) hx hb dX8_fits_7 (by decide) (fun c_2 => ?_) (fun c_2 => ?_)
      · have tc_2 := q_ge c_2
        refine lv_iconst (v := 0) hx hb dX8_fits_37 (by decide) (lv_istore_n (lv' := [(3, .int 0), (2, .int bi), (0, .ref p0), (1, .int a1)]) hx hb dX8_fits_38 rfl hl (by decide) rfl (fun ls hl => ?_))
        have key39 : ∀ (fu39 : Nat) (bj : Int32) (fi : Int32) (H : Heap) (locs : List Loc) (ls : Array Slot) (hfu39 : 40 - fi.toInt ≤ (fu39 : Int)) (tfi : (0) ≤ fi.toInt ∧ fi.toInt ≤ 40), va_P (dC, dI) vwCl (zW_t_fits p0 f_p0 p0_films f_p0_films p0_films_lets c_p0_films_lets b_p0_films_lets p0_films_toldAt c_p0_films_toldAt b_p0_films_toldAt p0_films_untold c_p0_films_untold b_p0_films_untold p0_films_untoldAt c_p0_films_untoldAt b_p0_films_untoldAt p0_shop f_p0_shop p0_shop_count c_p0_shop_count b_p0_shop_count) H → va_S A s.heap H locs → lv_has ls 4 [(3, .int fi), (2, .int bj), (0, .ref p0), (1, .int a1)] → W p l e (headSpec zw_t_fits { frames := 3, cells := 0, slots := 0, locals := 63 }).room s m ([.ref p0, .int a1] : List Value).toArray below meth c H locs 0 0 (MQ below (q_Qi (dC, dI) (zG_t_fits p0 f_p0 p0_films f_p0_films p0_films_lets c_p0_films_lets b_p0_films_lets p0_films_toldAt c_p0_films_toldAt b_p0_films_toldAt p0_films_untold c_p0_films_untold b_p0_films_untold p0_films_untoldAt c_p0_films_untoldAt b_p0_films_untoldAt p0_shop f_p0_shop p0_shop_count c_p0_shop_count b_p0_shop_count a1) (zA_t_fits p0 p0_films p0_films_lets p0_films_toldAt p0_films_untold p0_films_untoldAt p0_shop p0_shop_count) A) ([.ref p0, .int a1] : List Value).toArray s 0 0 A) (F0 m 39 ls []) := by
          intro fu39
          induction fu39 using Nat.strongRecOn with
          | ind fu39 ih39 =>
            intro bj fi H3 lo3 ls hfu39 tfi hP3 hS3 hl
            refine lv_iload_n hx hb dX8_fits_39 rfl (lv_at hl 0 rfl) (lv_aload_n hx hb dX8_fits_40 rfl (lv_at hl 2 rfl) (qg_X8_4 hx hb hts i_X8 hown hK hP3 0 rfl k_0 fr_p0_4 dX8_fits_41 ?_))
            obtain ⟨v_4, fv_4, tv_4⟩ := OKX2_g7 ho_p0_films
            refine qg_X2_7 hx hb hts i_X2 hown hK hP3 1 rfl k_1 fv_4 dX8_fits_44 ?_
            refine lv_icmp_ge (tgt := 80) hx hb dX8_fits_47 (by decide) (fun c_5 => ?_) (fun c_5 => ?_)
            · have tc_5 := q_ge c_5
              refine lv_iload_n hx hb dX8_fits_80 rfl (lv_at hl 1 rfl) ?_
              exact q_iret hx hb hr hlocks hS3 dX8_fits_81 ⟨hP3, za_t_fits⟩
            · have tc_5 := q_ltN c_5
              refine lv_aload_n hx hb dX8_fits_50 rfl (lv_at hl 2 rfl) (qg_X8_4 hx hb hts i_X8 hown hK hP3 0 rfl k_0 fr_p0_4 dX8_fits_51 (lv_iload_n hx hb dX8_fits_54 rfl (lv_at hl 0 rfl) (lv_iload_n hx hb dX8_fits_55 rfl (lv_at hl 3 rfl) ?_)))
              refine q_cVi (As := [.int fi, .int a1]) (rest := []) q_w0 trivial hK hP3 hDa za_t_fits hS3 hA [1, 3, 4, 5] [1, 2, 3] (by decide +kernel) ⟨hx, hb, hml, hown, hts⟩ (t_counts l dC dI H3.size p0_films f_p0_films p0_films_toldAt c_p0_films_toldAt b_p0_films_toldAt p0_films_untold c_p0_films_untold b_p0_films_untold p0_films_untoldAt c_p0_films_untoldAt b_p0_films_untoldAt fi a1 ho_p0_films fr_p0_films_4 fr_p0_films_5 fr_p0_films_6 ((by omega))) rfl rfl (cwV 2 hts (p1_gV m_2 m_3 m_4 m_5 g_t_counts gz_t_counts) rfl rfl rfl (by decide +kernel) ⟨by decide, by decide⟩) (va_recv hK hP3 (ci := 2) (q0 := 1) rfl rfl) zm_t_counts rfl hl.1 rfl (Nat.le_of_ble_eq_true rfl) dX8_fits_56 ⟨by decide, by decide⟩ (fun r_6 H7 lo7 hG7 hS7 => ?_)
              obtain ⟨z_8, hQ7⟩ := hG7
              have hP7 : va_P (dC, dI) vwCl (zW_t_fits p0 f_p0 p0_films f_p0_films p0_films_lets c_p0_films_lets b_p0_films_lets p0_films_toldAt c_p0_films_toldAt b_p0_films_toldAt p0_films_untold c_p0_films_untold b_p0_films_untold p0_films_untoldAt c_p0_films_untoldAt b_p0_films_untoldAt p0_shop f_p0_shop p0_shop_count c_p0_shop_count b_p0_shop_count) H7 := hQ7
              clear hQ7 hP3 hS3
              rcases z_8 with ⟨rfl, z_8⟩ | ⟨rfl, z_8⟩
              · refine lv_if_eq (tgt := 74) hx hb dX8_fits_59 (by decide) (fun c_9 => absurd c_9 (by decide)) (fun c_9 => ?_)
                refine lv_iload_n hx hb dX8_fits_62 rfl (lv_at hl 1 rfl) (lv_aload_n hx hb dX8_fits_63 rfl (lv_at hl 2 rfl) (qg_X8_4 hx hb hts i_X8 hown hK hP7 0 rfl k_0 fr_p0_4 dX8_fits_64 (qg_X2_3 hx hb hts i_X2 hown hK hP7 1 rfl k_6 fr_p0_films_3 dX8_fits_67 (lv_iload_n hx hb dX8_fits_70 rfl (lv_at hl 0 rfl) (q_ild hx hb hK hP7 2 0 rfl rfl (q_in (by omega) (by omega)) dX8_fits_71 (fun v_10 ev_10 => ?_))))))
                refine lv_iand hx hb dX8_fits_72 (lv_topi fun v_11 ev_11 => lv_istore_n (lv' := [(2, .int v_11), (3, .int fi), (0, .ref p0), (1, .int a1)]) hx hb dX8_fits_73 rfl hl (by decide) rfl (fun ls hl => ?_))
                obtain ⟨v_12, ev_12⟩ : ∃ y : Int32, y = fi + 1 := ⟨_, rfl⟩
                have tv_12 := q_add ev_12 (by omega) (by omega)
                refine lv_iinc (v := v_12) (lv' := [(3, .int v_12), (2, .int v_11), (0, .ref p0), (1, .int a1)]) hx hb dX8_fits_74 hl (k := 1) rfl (by rw [ev_12]; rfl) (by decide) rfl (fun ls hl => ?_)
                refine lv_goto (tgt := 39) hx hb dX8_fits_77 (by decide) ?_
                exact ih39 (fu39 - 1) (by omega) v_11 v_12 _ _ _ (by omega) (by omega) hP7 hS7 (lv_sub hl [0, 1, 2, 3] rfl)
              · refine lv_if_eq (tgt := 74) hx hb dX8_fits_59 (by decide) (fun c_13 => ?_) (fun c_13 => absurd c_13 (by decide))
                obtain ⟨v_14, ev_14⟩ : ∃ y : Int32, y = fi + 1 := ⟨_, rfl⟩
                have tv_14 := q_add ev_14 (by omega) (by omega)
                refine lv_iinc (v := v_14) (lv' := [(3, .int v_14), (2, .int bj), (0, .ref p0), (1, .int a1)]) hx hb dX8_fits_74 hl (k := 0) rfl (by rw [ev_14]; rfl) (by decide) rfl (fun ls hl => ?_)
                refine lv_goto (tgt := 39) hx hb dX8_fits_77 (by decide) ?_
                exact ih39 (fu39 - 1) (by omega) bj v_14 _ _ _ (by omega) (by omega) hP7 hS7 (lv_sub hl [0, 1, 2, 3] rfl)
        exact key39 40 bi 0 _ _ _ (by omega) (by omega) hP1 hS1 (lv_sub hl [0, 1, 2, 3] rfl)
      · have tc_2 := q_ltN c_2
        refine lv_iload_n hx hb dX8_fits_10 rfl (lv_at hl 1 rfl) (lv_aload_n hx hb dX8_fits_11 rfl (lv_at hl 2 rfl) (qg_X8_9 hx hb hts i_X8 hown hK hP1 0 rfl k_7 fr_p0_9 dX8_fits_12 (lv_iload_n hx hb dX8_fits_15 rfl (lv_at hl 0 rfl) ?_)))
        refine q_cVi (As := [.int pa]) (rest := [.int bi]) q_w0 trivial hK hP1 hDa za_t_fits hS1 hA [6, 7] [4] (by decide +kernel) ⟨hx, hb, hml, hown, hts⟩ (t_hasPair l dC dI H1.size p0_shop f_p0_shop p0_shop_count c_p0_shop_count b_p0_shop_count pa ho_p0_shop fr_p0_shop_0 hr_p0_shop_count) rfl rfl (cwV 1 hts (p1_gV m_8 m_9 m_10 m_11 g_t_hasPair gz_t_hasPair) rfl rfl rfl (by decide +kernel) ⟨by decide, by decide⟩) (va_recv hK hP1 (ci := 5) (q0 := 6) rfl rfl) zm_t_hasPair rfl hl.1 rfl (Nat.le_of_ble_eq_true rfl) dX8_fits_16 ⟨by decide, by decide⟩ (fun r_15 H16 lo16 hG16 hS16 => ?_)
        obtain ⟨z_17, hQ16⟩ := hG16
        have hP16 : va_P (dC, dI) vwCl (zW_t_fits p0 f_p0 p0_films f_p0_films p0_films_lets c_p0_films_lets b_p0_films_lets p0_films_toldAt c_p0_films_toldAt b_p0_films_toldAt p0_films_untold c_p0_films_untold b_p0_films_untold p0_films_untoldAt c_p0_films_untoldAt b_p0_films_untoldAt p0_shop f_p0_shop p0_shop_count c_p0_shop_count b_p0_shop_count) H16 := hQ16
        clear hQ16 hP1 hS1
        rcases z_17 with ⟨rfl, z_17⟩ | ⟨rfl, z_17⟩
        · refine lv_if_eq (tgt := 28) hx hb dX8_fits_19 (by decide) (fun c_18 => absurd c_18 (by decide)) (fun c_18 => ?_)
          refine lv_iconst (v := 1) hx hb dX8_fits_22 (by decide) (lv_iload_n hx hb dX8_fits_23 rfl (lv_at hl 0 rfl) (lv_ishl hx hb dX8_fits_24 (lv_topi fun v_19 ev_19 => ?_)))
          have tv_19 : 1 ≤ v_19.toInt ∧ v_19.toInt ≤ 2048 := q_shl1 (k := 11) ev_19 (by omega) (by omega) (by decide)
          refine lv_goto (tgt := 29) hx hb dX8_fits_25 (by decide) (lv_ior hx hb dX8_fits_29 (lv_topi fun v_20 ev_20 => lv_istore_n (lv' := [(2, .int v_20), (3, .int pa), (0, .ref p0), (1, .int a1)]) hx hb dX8_fits_30 rfl hl (by decide) rfl (fun ls hl => ?_)))
          obtain ⟨v_21, ev_21⟩ : ∃ y : Int32, y = pa + 1 := ⟨_, rfl⟩
          have tv_21 := q_add ev_21 (by omega) (by omega)
          refine lv_iinc (v := v_21) (lv' := [(3, .int v_21), (2, .int v_20), (0, .ref p0), (1, .int a1)]) hx hb dX8_fits_31 hl (k := 1) rfl (by rw [ev_21]; rfl) (by decide) rfl (fun ls hl => ?_)
          refine lv_goto (tgt := 4) hx hb dX8_fits_34 (by decide) ?_
          exact ih4 (fu4 - 1) (by omega) v_20 v_21 _ _ _ (by omega) (by omega) hP16 hS16 (lv_sub hl [0, 1, 2, 3] rfl)
        · refine lv_if_eq (tgt := 28) hx hb dX8_fits_19 (by decide) (fun c_22 => ?_) (fun c_22 => absurd c_22 (by decide))
          refine lv_iconst (v := 0) hx hb dX8_fits_28 (by decide) (lv_ior hx hb dX8_fits_29 (lv_topi fun v_23 ev_23 => lv_istore_n (lv' := [(2, .int v_23), (3, .int pa), (0, .ref p0), (1, .int a1)]) hx hb dX8_fits_30 rfl hl (by decide) rfl (fun ls hl => ?_)))
          obtain ⟨v_24, ev_24⟩ : ∃ y : Int32, y = pa + 1 := ⟨_, rfl⟩
          have tv_24 := q_add ev_24 (by omega) (by omega)
          refine lv_iinc (v := v_24) (lv' := [(3, .int v_24), (2, .int v_23), (0, .ref p0), (1, .int a1)]) hx hb dX8_fits_31 hl (k := 1) rfl (by rw [ev_24]; rfl) (by decide) rfl (fun ls hl => ?_)
          refine lv_goto (tgt := 4) hx hb dX8_fits_34 (by decide) ?_
          exact ih4 (fu4 - 1) (by omega) v_23 v_24 _ _ _ (by omega) (by omega) hP16 hS16 (lv_sub hl [0, 1, 2, 3] rfl)
  exact key4 12 0 0 _ _ _ (by omega) (by omega) hP hS (lv_sub hl [0, 1, 2, 3] rfl)
def zo_t_isAmong : List Cond := [.code yX8_isAmong cX8_isAmong 4 (some .boolean), .fieldLink RX8 49 "BowWalk" "lengths" "[I"]
def zw_t_isAmong : List Cond := zo_t_isAmong ++ (wsX80 ++ [])
theorem gz_t_isAmong : zw_t_isAmong.all goodWord = true := p1_ga (by decide +kernel) (p1_ga gk_X8 p1_g0)
theorem iz_t_isAmong : ∀ w ∈ zw_t_isAmong, w ∈ lw_tbl := p1_ia (p1_all [996, 505] (by decide +kernel)) (p1_ia ik_X8 p1_i0)
def zW_t_isAmong (p0 : Nat) (f_p0 : List Value) (p0_lengths : Nat) (c_p0_lengths : ClassId) (b_p0_lengths : Nat → Int32) : va_W := [(p0, .inr (7, f_p0)), (p0_lengths, .inl (c_p0_lengths, 12, .inl b_p0_lengths))]
def zT_t_isAmong (c_p0_lengths : ClassId) : List (ClassId × FieldType) := [(c_p0_lengths, .int)]
def zA_t_isAmong (p0 : Nat) (p0_lengths : Nat) : List Nat := [p0, p0_lengths]
theorem za_t_isAmong {p0 : Nat} {f_p0 : List Value} {p0_lengths : Nat} {c_p0_lengths : ClassId} {b_p0_lengths : Nat → Int32} : (zW_t_isAmong p0 f_p0 p0_lengths c_p0_lengths b_p0_lengths).map Prod.fst = (zA_t_isAmong p0 p0_lengths) := rfl
def zG_t_isAmong (p0 : Nat) (f_p0 : List Value) (p0_lengths : Nat) (c_p0_lengths : ClassId) (b_p0_lengths : Nat → Int32) (a1 : Int32) (a2 : Int32) (r : Int32) (X : va_W → Prop) : Prop := ((r = 1 ∧ (True)) ∨ (r = 0 ∧ (True))) ∧ X (zW_t_isAmong p0 f_p0 p0_lengths c_p0_lengths b_p0_lengths)
theorem zm_t_isAmong {p0 : Nat} {f_p0 : List Value} {p0_lengths : Nat} {c_p0_lengths : ClassId} {b_p0_lengths : Nat → Int32} {a1 : Int32} {a2 : Int32} : ∀ (r : Int32), ∀ X Y : va_W → Prop, (∀ w, X w → Y w) → zG_t_isAmong p0 f_p0 p0_lengths c_p0_lengths b_p0_lengths a1 a2 r X → zG_t_isAmong p0 f_p0 p0_lengths c_p0_lengths b_p0_lengths a1 a2 r Y := fun r X Y h h1 => by obtain ⟨x0, hx⟩ := h1; exact ⟨x0, h _ hx⟩
set_option maxHeartbeats 4000000 in
set_option maxRecDepth 100000 in
theorem t_isAmong (l : Launch) (dC : Nat → ClassId) (dI : Nat → Nat → Nat) (sz : Nat) (p0 : Nat) (f_p0 : List Value) (p0_lengths : Nat) (c_p0_lengths : ClassId) (b_p0_lengths : Nat → Int32) (a1 : Int32) (a2 : Int32) (ho_p0 : OKX8 f_p0) (fr_p0_6 : q_rf f_p0 6 p0_lengths) (ta2 : (0) ≤ a2.toInt ∧ a2.toInt ≤ 12) : Met l yX8_isAmong zw_t_isAmong ({ frames := 0, cells := 0, slots := 0, locals := 0 }) (va_Pc [.ref p0, .int a1, .int a2] (q_pre (dC, dI) (zW_t_isAmong p0 f_p0 p0_lengths c_p0_lengths b_p0_lengths) (zT_t_isAmong c_p0_lengths) q_E0 sz)) (q_Qi (dC, dI) (zG_t_isAmong p0 f_p0 p0_lengths c_p0_lengths b_p0_lengths a1 a2) (zA_t_isAmong p0 p0_lengths) (va_A (zW_t_isAmong p0 f_p0 p0_lengths c_p0_lengths b_p0_lengths) sz)) 0 0 (va_A (zW_t_isAmong p0 f_p0 p0_lengths c_p0_lengths b_p0_lengths) sz) := by
  refine Met.ofW (cc := cX8_isAmong) (maxL := 4) (ret := (some .boolean)) (by decide) rfl ?_
  intro p e s m args below meth c s₁ B hml hv
  obtain ⟨rfl, hsz, hP, hK, hD0, hE⟩ := hv
  have hx := B.exec
  have hb := B.bytes
  have hr := B.returns
  have hts := atoms_spec (ws := zw_t_isAmong) B.pre
  have hown : s.vm.findClass RX8 = some m.cls := findClass_of_methodNamed B.named
  have hlocks := B.notSynchronized
  subst hsz
  have hD := hD0.self (sz := s.heap.size)
  generalize hAe : va_A (zW_t_isAmong p0 f_p0 p0_lengths c_p0_lengths b_p0_lengths) s.heap.size = A at hD hE ⊢
  have hA : ∀ q : Nat, s.heap.size ≤ q → A q := fun q h => by rw [← hAe]; exact Or.inr h
  have hDa : q_DA A (zA_t_isAmong p0 p0_lengths) := q_DA.mk hD za_t_isAmong
  clear hAe hD0 hD
  have hS : va_S A s.heap s.heap [] := va_S.rf
  have m_0 : (.fieldLink RX8 49 "BowWalk" "lengths" "[I" : Cond) ∈ zw_t_isAmong := List.mem_append_left _ (List.mem_of_getElem? (i := 1) rfl)
  have k_0 := hts _ m_0
  have i_X8 : ∀ w ∈ u_ws RX8 TX8 14, w ∈ zw_t_isAmong := fun w h => List.mem_append_right _ (List.mem_append_left _ h)
  have lt_0 : (0 : Int32).toInt = 0 := by decide
  have lt_1 : (1 : Int32).toInt = 1 := by decide
  have hl := lv_entry ([.ref p0, .int a1, .int a2]) (n := 4) (Nat.le_of_ble_eq_true rfl)
  rw [lg_entry_eq]
  generalize (lg_sl ([.ref p0, .int a1, .int a2]) ++ List.replicate (4 - (lg_sl ([.ref p0, .int a1, .int a2])).length) Slot.unset).toArray = ls at hl ⊢
  have hl : lv_has ls 4 [(0, .ref p0), (1, .int a1), (2, .int a2)] := hl
  refine lv_iconst (v := 0) hx hb dX8_isAmong_0 (by decide) (lv_istore_n (lv' := [(3, .int 0), (0, .ref p0), (1, .int a1), (2, .int a2)]) hx hb dX8_isAmong_1 rfl hl (by decide) rfl (fun ls hl => ?_))
  have key2 : ∀ (fu2 : Nat) (i : Int32) (H : Heap) (locs : List Loc) (ls : Array Slot) (hfu2 : 12 - i.toInt ≤ (fu2 : Int)) (ti : (0) ≤ i.toInt ∧ i.toInt ≤ 12), va_P (dC, dI) vwCl (zW_t_isAmong p0 f_p0 p0_lengths c_p0_lengths b_p0_lengths) H → va_S A s.heap H locs → lv_has ls 4 [(3, .int i), (0, .ref p0), (1, .int a1), (2, .int a2)] → W p l e (headSpec zw_t_isAmong { frames := 0, cells := 0, slots := 0, locals := 0 }).room s m ([.ref p0, .int a1, .int a2] : List Value).toArray below meth c H locs 0 0 (MQ below (q_Qi (dC, dI) (zG_t_isAmong p0 f_p0 p0_lengths c_p0_lengths b_p0_lengths a1 a2) (zA_t_isAmong p0 p0_lengths) A) ([.ref p0, .int a1, .int a2] : List Value).toArray s 0 0 A) (F0 m 2 ls []) := by
    intro fu2
    induction fu2 using Nat.strongRecOn with
    | ind fu2 ih2 =>
      intro i H1 lo1 ls hfu2 ti hP1 hS1 hl
      refine lv_iload_n hx hb dX8_isAmong_2 rfl (lv_at hl 0 rfl) (lv_iload_n hx hb dX8_isAmong_3 rfl (lv_at hl 3 rfl) ?_)
      refine lv_icmp_ge (tgt := 25) hx hb dX8_isAmong_4 (by decide) (fun c_2 => ?_) (fun c_2 => ?_)
      · have tc_2 := q_ge c_2
        refine lv_iconst (v := 0) hx hb dX8_isAmong_25 (by decide) ?_
        exact q_zret hx hb hr hlocks (by decide) hS1 dX8_isAmong_26 ⟨(Or.inr ⟨rfl, by first | trivial | omega⟩), hP1, za_t_isAmong⟩
      · have tc_2 := q_ltN c_2
        refine lv_aload_n hx hb dX8_isAmong_7 rfl (lv_at hl 1 rfl) (qg_X8_6 hx hb hts i_X8 hown hK hP1 0 rfl k_0 fr_p0_6 dX8_isAmong_8 (lv_iload_n hx hb dX8_isAmong_11 rfl (lv_at hl 0 rfl) (q_ild hx hb hK hP1 1 0 rfl rfl (q_in (by omega) (by omega)) dX8_isAmong_12 (fun v_3 ev_3 => ?_))))
        refine lv_iload_n hx hb dX8_isAmong_13 rfl (lv_at hl 2 rfl) ?_
        refine lv_icmp_ne (tgt := 19) hx hb dX8_isAmong_14 (by decide) (fun c_4 => ?_) (fun c_4 => ?_)
        · have tc_4 := q_ne c_4
          obtain ⟨v_5, ev_5⟩ : ∃ y : Int32, y = i + 1 := ⟨_, rfl⟩
          have tv_5 := q_add ev_5 (by omega) (by omega)
          refine lv_iinc (v := v_5) (lv' := [(3, .int v_5), (0, .ref p0), (1, .int a1), (2, .int a2)]) hx hb dX8_isAmong_19 hl (k := 0) rfl (by rw [ev_5]; rfl) (by decide) rfl (fun ls hl => ?_)
          refine lv_goto (tgt := 2) hx hb dX8_isAmong_22 (by decide) ?_
          exact ih2 (fu2 - 1) (by omega) v_5 _ _ _ (by omega) (by omega) hP1 hS1 (lv_sub hl [0, 1, 2, 3] rfl)
        · have tc_4 := q_eqN c_4
          refine lv_iconst (v := 1) hx hb dX8_isAmong_17 (by decide) ?_
          exact q_zret hx hb hr hlocks (by decide) hS1 dX8_isAmong_18 ⟨(Or.inl ⟨rfl, by first | trivial | omega⟩), hP1, za_t_isAmong⟩
  exact key2 12 0 _ _ _ (by omega) (by omega) hP hS (lv_sub hl [0, 1, 2, 3] rfl)
