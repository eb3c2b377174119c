def zo_t_about : List Cond := [.code yX8_about cX8_about 2 (some .int), .fieldLink RX8 60 "BowWalk" "shop" "LBowWalk$Shop;", .fieldLink RX8 96 "BowWalk$Shop" "count" "[I", .fieldLink RX8 37 "BowWalk" "films" "LBowWalk$Films;", .fieldLink RX8 90 "BowWalk$Films" "count" "I", .fieldLink RX8 75 "BowWalk" "time" "I", .fieldLink RX8 64 "BowWalk" "tapeLength" "I", .fieldLink RX8 72 "BowWalk" "w" "I", .fieldLink RX8 181 "BowWalk$Shop" "laws" "LBowWalk$Laws;", .fieldLink RX8 329 "BowWalk$Laws" "units" "I"]
def zw_t_about : List Cond := zo_t_about ++ (wsX80 ++ (wsX50 ++ (wsX20 ++ (wsX30 ++ []))))
theorem gz_t_about : zw_t_about.all goodWord = true := p1_ga (by decide +kernel) (p1_ga gk_X8 (p1_ga gk_X5 (p1_ga gk_X2 (p1_ga gk_X3 p1_g0))))
theorem iz_t_about : ∀ w ∈ zw_t_about, w ∈ lw_tbl := p1_ia (p1_all [1026, 508, 176, 503, 457, 512, 509, 511, 215, 157] (by decide +kernel)) (p1_ia ik_X8 (p1_ia ik_X5 (p1_ia ik_X2 (p1_ia ik_X3 p1_i0))))
def zW_t_about (p0 : Nat) (f_p0 : List Value) (p0_films : Nat) (f_p0_films : List Value) (p0_shop : Nat) (f_p0_shop : List Value) (p0_shop_count : Nat) (c_p0_shop_count : ClassId) (b_p0_shop_count : Nat → Int32) (p0_shop_laws : Nat) (f_p0_shop_laws : List Value) : va_W := [(p0, .inr (7, f_p0)), (p0_films, .inr (2, f_p0_films)), (p0_shop, .inr (5, f_p0_shop)), (p0_shop_count, .inl (c_p0_shop_count, 5, .inl b_p0_shop_count)), (p0_shop_laws, .inr (3, f_p0_shop_laws))]
def zT_t_about (c_p0_shop_count : ClassId) : List (ClassId × FieldType) := [(c_p0_shop_count, .int)]
def zA_t_about (p0 : Nat) (p0_films : Nat) (p0_shop : Nat) (p0_shop_count : Nat) (p0_shop_laws : Nat) : List Nat := [p0, p0_films, p0_shop, p0_shop_count, p0_shop_laws]
theorem za_t_about {p0 : Nat} {f_p0 : List Value} {p0_films : Nat} {f_p0_films : List Value} {p0_shop : Nat} {f_p0_shop : List Value} {p0_shop_count : Nat} {c_p0_shop_count : ClassId} {b_p0_shop_count : Nat → Int32} {p0_shop_laws : Nat} {f_p0_shop_laws : List Value} : (zW_t_about p0 f_p0 p0_films f_p0_films p0_shop f_p0_shop p0_shop_count c_p0_shop_count b_p0_shop_count p0_shop_laws f_p0_shop_laws).map Prod.fst = (zA_t_about p0 p0_films p0_shop p0_shop_count p0_shop_laws) := rfl
def zG_t_about (p0 : Nat) (f_p0 : List Value) (p0_films : Nat) (f_p0_films : List Value) (p0_shop : Nat) (f_p0_shop : List Value) (p0_shop_count : Nat) (c_p0_shop_count : ClassId) (b_p0_shop_count : Nat → Int32) (p0_shop_laws : Nat) (f_p0_shop_laws : List Value) (a1 : Int32) (r : Int32) (X : va_W → Prop) : Prop := X (zW_t_about p0 f_p0 p0_films f_p0_films p0_shop f_p0_shop p0_shop_count c_p0_shop_count b_p0_shop_count p0_shop_laws f_p0_shop_laws)
theorem zm_t_about {p0 : Nat} {f_p0 : List Value} {p0_films : Nat} {f_p0_films : List Value} {p0_shop : Nat} {f_p0_shop : List Value} {p0_shop_count : Nat} {c_p0_shop_count : ClassId} {b_p0_shop_count : Nat → Int32} {p0_shop_laws : Nat} {f_p0_shop_laws : List Value} {a1 : Int32} : ∀ (r : Int32), ∀ X Y : va_W → Prop, (∀ w, X w → Y w) → zG_t_about p0 f_p0 p0_films f_p0_films p0_shop f_p0_shop p0_shop_count c_p0_shop_count b_p0_shop_count p0_shop_laws f_p0_shop_laws a1 r X → zG_t_about p0 f_p0 p0_films f_p0_films p0_shop f_p0_shop p0_shop_count c_p0_shop_count b_p0_shop_count p0_shop_laws f_p0_shop_laws a1 r Y := fun r X Y h h1 => h _ h1
set_option maxHeartbeats 4000000 in
set_option maxRecDepth 100000 in
theorem t_about (l : Launch) (dC : Nat → ClassId) (dI : Nat → Nat → Nat) (sz : Nat) (p0 : Nat) (f_p0 : List Value) (p0_films : Nat) (f_p0_films : List Value) (p0_shop : Nat) (f_p0_shop : List Value) (p0_shop_count : Nat) (c_p0_shop_count : ClassId) (b_p0_shop_count : Nat → Int32) (p0_shop_laws : Nat) (f_p0_shop_laws : List Value) (a1 : Int32) (ho_p0 : OKX8 f_p0) (fr_p0_4 : q_rf f_p0 4 p0_films) (fr_p0_9 : q_rf f_p0 9 p0_shop) (ho_p0_films : OKX2 f_p0_films) (ho_p0_shop : OKX5 f_p0_shop) (fr_p0_shop_0 : q_rf f_p0_shop 0 p0_shop_count) (fr_p0_shop_12 : q_rf f_p0_shop 12 p0_shop_laws) (hr_p0_shop_count : q_cnt b_p0_shop_count) (ho_p0_shop_laws : OKX3 f_p0_shop_laws) : Met l yX8_about zw_t_about ({ frames := 0, cells := 0, slots := 0, locals := 0 }) (va_Pc [.ref p0, .int a1] (q_pre (dC, dI) (zW_t_about p0 f_p0 p0_films f_p0_films p0_shop f_p0_shop p0_shop_count c_p0_shop_count b_p0_shop_count p0_shop_laws f_p0_shop_laws) (zT_t_about c_p0_shop_count) q_E0 sz)) (q_Qi (dC, dI) (zG_t_about p0 f_p0 p0_films f_p0_films p0_shop f_p0_shop p0_shop_count c_p0_shop_count b_p0_shop_count p0_shop_laws f_p0_shop_laws a1) (zA_t_about p0 p0_films p0_shop p0_shop_count p0_shop_laws) (va_A (zW_t_about p0 f_p0 p0_films f_p0_films p0_shop f_p0_shop p0_shop_count c_p0_shop_count b_p0_shop_count p0_shop_laws f_p0_shop_laws) sz)) 0 0 (va_A (zW_t_about p0 f_p0 p0_films f_p0_films p0_shop f_p0_shop p0_shop_count c_p0_shop_count b_p0_shop_count p0_shop_laws f_p0_shop_laws) sz) := by
  refine Met.ofW (cc := cX8_about) (maxL := 2) (ret := (some .int)) (by decide) rfl ?_
  intro p e s m args below meth c s₁ B hml hv
  obtain ⟨rfl, hsz, hP, hK, hD0, hE⟩ := hv
  have hx := B.exec
  have hb := B.bytes
  have hr := B.returns
  have hts := atoms_spec (ws := zw_t_about) B.pre
  have hown : s.vm.findClass RX8 = some m.cls := findClass_of_methodNamed B.named
  have hlocks := B.notSynchronized
  subst hsz
  have hD := hD0.self (sz := s.heap.size)
  generalize hAe : va_A (zW_t_about p0 f_p0 p0_films f_p0_films p0_shop f_p0_shop p0_shop_count c_p0_shop_count b_p0_shop_count p0_shop_laws f_p0_shop_laws) s.heap.size = A at hD hE ⊢
  have hA : ∀ q : Nat, s.heap.size ≤ q → A q := fun q h => by rw [← hAe]; exact Or.inr h
  have hDa : q_DA A (zA_t_about p0 p0_films p0_shop p0_shop_count p0_shop_laws) := q_DA.mk hD za_t_about
  clear hAe hD0 hD
  have hS : va_S A s.heap s.heap [] := va_S.rf
  have m_0 : (.fieldLink RX8 60 "BowWalk" "shop" "LBowWalk$Shop;" : Cond) ∈ zw_t_about := List.mem_append_left _ (List.mem_of_getElem? (i := 1) rfl)
  have k_0 := hts _ m_0
  have m_1 : (.fieldLink RX8 96 "BowWalk$Shop" "count" "[I" : Cond) ∈ zw_t_about := List.mem_append_left _ (List.mem_of_getElem? (i := 2) rfl)
  have k_1 := hts _ m_1
  have m_2 : (.fieldLink RX8 37 "BowWalk" "films" "LBowWalk$Films;" : Cond) ∈ zw_t_about := List.mem_append_left _ (List.mem_of_getElem? (i := 3) rfl)
  have k_2 := hts _ m_2
  have m_3 : (.fieldLink RX8 90 "BowWalk$Films" "count" "I" : Cond) ∈ zw_t_about := List.mem_append_left _ (List.mem_of_getElem? (i := 4) rfl)
  have k_3 := hts _ m_3
  have m_4 : (.fieldLink RX8 75 "BowWalk" "time" "I" : Cond) ∈ zw_t_about := List.mem_append_left _ (List.mem_of_getElem? (i := 5) rfl)
  have k_4 := hts _ m_4
  have m_5 : (.fieldLink RX8 64 "BowWalk" "tapeLength" "I" : Cond) ∈ zw_t_about := List.mem_append_left _ (List.mem_of_getElem? (i := 6) rfl)
  have k_5 := hts _ m_5
  have m_6 : (.fieldLink RX8 72 "BowWalk" "w" "I" : Cond) ∈ zw_t_about := List.mem_append_left _ (List.mem_of_getElem? (i := 7) rfl)
  have k_6 := hts _ m_6
  have m_7 : (.fieldLink RX8 181 "BowWalk$Shop" "laws" "LBowWalk$Laws;" : Cond) ∈ zw_t_about := List.mem_append_left _ (List.mem_of_getElem? (i := 8) rfl)
  have k_7 := hts _ m_7
  have m_8 : (.fieldLink RX8 329 "BowWalk$Laws" "units" "I" : Cond) ∈ zw_t_about := List.mem_append_left _ (List.mem_of_getElem? (i := 9) rfl)
  have k_8 := hts _ m_8
  have i_X8 : ∀ w ∈ u_ws RX8 TX8 14, w ∈ zw_t_about := fun w h => List.mem_append_right _ (List.mem_append_left _ h)
  have i_X5 : ∀ w ∈ u_ws RX5 TX5 15, w ∈ zw_t_about := fun w h => List.mem_append_right _ (List.mem_append_right _ (List.mem_append_left _ h))
  have i_X2 : ∀ w ∈ u_ws RX2 TX2 8, w ∈ zw_t_about := fun w h => List.mem_append_right _ (List.mem_append_right _ (List.mem_append_right _ (List.mem_append_left _ h)))
  have i_X3 : ∀ w ∈ u_ws RX3 TX3 6, w ∈ zw_t_about := fun w h => List.mem_append_right _ (List.mem_append_right _ (List.mem_append_right _ (List.mem_append_right _ (List.mem_append_left _ h))))
  have lt_m1 : ((-1) : Int32).toInt = -1 := by decide
  have lt_0 : (0 : Int32).toInt = 0 := by decide
  have lt_1 : (1 : Int32).toInt = 1 := by decide
  have lt_2 : (2 : Int32).toInt = 2 := by decide
  have lt_3 : (3 : Int32).toInt = 3 := by decide
  have lt_4 : (4 : Int32).toInt = 4 := by decide
  have lt_5 : (5 : Int32).toInt = 5 := by decide
  have lt_6 : (6 : Int32).toInt = 6 := by decide
  have lt_7 : (7 : Int32).toInt = 7 := by decide
  have lt_8 : (8 : Int32).toInt = 8 := by decide
  have lt_9 : (9 : Int32).toInt = 9 := by decide
  have hl := lv_entry ([.ref p0, .int a1]) (n := 2) (Nat.le_of_ble_eq_true rfl)
  rw [lg_entry_eq]
  generalize (lg_sl ([.ref p0, .int a1]) ++ List.replicate (2 - (lg_sl ([.ref p0, .int a1])).length) Slot.unset).toArray = ls at hl ⊢
  have hl : lv_has ls 2 [(0, .ref p0), (1, .int a1)] := hl
  refine lv_iload_n hx hb dX8_about_0 rfl (lv_at hl 1 rfl) ?_
  by_cases hk_1 : a1 = 0
  · refine lv_tableIn (tgt := 56) (off := 55) hx hb dX8_about_1 (by rw [hk_1]; decide) (by rw [hk_1]; decide) (by rw [hk_1]; decide) (by decide) ?_
    have thk_1 := q_eq hk_1
    refine lv_aload_n hx hb dX8_about_56 rfl (lv_at hl 0 rfl) (qg_X8_9 hx hb hts i_X8 hown hK hP 0 rfl k_0 fr_p0_9 dX8_about_57 (qg_X5_0 hx hb hts i_X5 hown hK hP 2 rfl k_1 fr_p0_shop_0 dX8_about_60 (lv_iload_n hx hb dX8_about_63 rfl (lv_at hl 1 rfl) (q_ild hx hb hK hP 3 0 rfl rfl (q_in (by omega) (by omega)) dX8_about_64 (fun v_2 ev_2 => ?_)))))
    exact q_iret hx hb hr hlocks hS dX8_about_65 ⟨hP, za_t_about⟩
  by_cases hk_3 : a1 = 1
  · refine lv_tableIn (tgt := 56) (off := 55) hx hb dX8_about_1 (by rw [hk_3]; decide) (by rw [hk_3]; decide) (by rw [hk_3]; decide) (by decide) ?_
    have thk_3 := q_eq hk_3
    refine lv_aload_n hx hb dX8_about_56 rfl (lv_at hl 0 rfl) (qg_X8_9 hx hb hts i_X8 hown hK hP 0 rfl k_0 fr_p0_9 dX8_about_57 (qg_X5_0 hx hb hts i_X5 hown hK hP 2 rfl k_1 fr_p0_shop_0 dX8_about_60 (lv_iload_n hx hb dX8_about_63 rfl (lv_at hl 1 rfl) (q_ild hx hb hK hP 3 0 rfl rfl (q_in (by omega) (by omega)) dX8_about_64 (fun v_4 ev_4 => ?_)))))
    exact q_iret hx hb hr hlocks hS dX8_about_65 ⟨hP, za_t_about⟩
  by_cases hk_5 : a1 = 2
  · refine lv_tableIn (tgt := 56) (off := 55) hx hb dX8_about_1 (by rw [hk_5]; decide) (by rw [hk_5]; decide) (by rw [hk_5]; decide) (by decide) ?_
    have thk_5 := q_eq hk_5
    refine lv_aload_n hx hb dX8_about_56 rfl (lv_at hl 0 rfl) (qg_X8_9 hx hb hts i_X8 hown hK hP 0 rfl k_0 fr_p0_9 dX8_about_57 (qg_X5_0 hx hb hts i_X5 hown hK hP 2 rfl k_1 fr_p0_shop_0 dX8_about_60 (lv_iload_n hx hb dX8_about_63 rfl (lv_at hl 1 rfl) (q_ild hx hb hK hP 3 0 rfl rfl (q_in (by omega) (by omega)) dX8_about_64 (fun v_6 ev_6 => ?_)))))
    exact q_iret hx hb hr hlocks hS dX8_about_65 ⟨hP, za_t_about⟩
  by_cases hk_7 : a1 = 3
  · refine lv_tableIn (tgt := 56) (off := 55) hx hb dX8_about_1 (by rw [hk_7]; decide) (by rw [hk_7]; decide) (by rw [hk_7]; decide) (by decide) ?_
    have thk_7 := q_eq hk_7
    refine lv_aload_n hx hb dX8_about_56 rfl (lv_at hl 0 rfl) (qg_X8_9 hx hb hts i_X8 hown hK hP 0 rfl k_0 fr_p0_9 dX8_about_57 (qg_X5_0 hx hb hts i_X5 hown hK hP 2 rfl k_1 fr_p0_shop_0 dX8_about_60 (lv_iload_n hx hb dX8_about_63 rfl (lv_at hl 1 rfl) (q_ild hx hb hK hP 3 0 rfl rfl (q_in (by omega) (by omega)) dX8_about_64 (fun v_8 ev_8 => ?_)))))
    exact q_iret hx hb hr hlocks hS dX8_about_65 ⟨hP, za_t_about⟩
  by_cases hk_9 : a1 = 4
  · refine lv_tableIn (tgt := 56) (off := 55) hx hb dX8_about_1 (by rw [hk_9]; decide) (by rw [hk_9]; decide) (by rw [hk_9]; decide) (by decide) ?_
    have thk_9 := q_eq hk_9
    refine lv_aload_n hx hb dX8_about_56 rfl (lv_at hl 0 rfl) (qg_X8_9 hx hb hts i_X8 hown hK hP 0 rfl k_0 fr_p0_9 dX8_about_57 (qg_X5_0 hx hb hts i_X5 hown hK hP 2 rfl k_1 fr_p0_shop_0 dX8_about_60 (lv_iload_n hx hb dX8_about_63 rfl (lv_at hl 1 rfl) (q_ild hx hb hK hP 3 0 rfl rfl (q_in (by omega) (by omega)) dX8_about_64 (fun v_10 ev_10 => ?_)))))
    exact q_iret hx hb hr hlocks hS dX8_about_65 ⟨hP, za_t_about⟩
  by_cases hk_11 : a1 = 5
  · refine lv_tableIn (tgt := 66) (off := 65) hx hb dX8_about_1 (by rw [hk_11]; decide) (by rw [hk_11]; decide) (by rw [hk_11]; decide) (by decide) ?_
    have thk_11 := q_eq hk_11
    refine lv_aload_n hx hb dX8_about_66 rfl (lv_at hl 0 rfl) (qg_X8_4 hx hb hts i_X8 hown hK hP 0 rfl k_2 fr_p0_4 dX8_about_67 ?_)
    obtain ⟨v_12, fv_12, tv_12⟩ := OKX2_g7 ho_p0_films
    refine qg_X2_7 hx hb hts i_X2 hown hK hP 1 rfl k_3 fv_12 dX8_about_70 ?_
    exact q_iret hx hb hr hlocks hS dX8_about_73 ⟨hP, za_t_about⟩
  by_cases hk_13 : a1 = 6
  · refine lv_tableIn (tgt := 74) (off := 73) hx hb dX8_about_1 (by rw [hk_13]; decide) (by rw [hk_13]; decide) (by rw [hk_13]; decide) (by decide) ?_
    have thk_13 := q_eq hk_13
    refine lv_aload_n hx hb dX8_about_74 rfl (lv_at hl 0 rfl) ?_
    obtain ⟨v_14, fv_14, tv_14⟩ := OKX8_g13 ho_p0
    refine qg_X8_13 hx hb hts i_X8 hown hK hP 0 rfl k_4 fv_14 dX8_about_75 ?_
    exact q_iret hx hb hr hlocks hS dX8_about_78 ⟨hP, za_t_about⟩
  by_cases hk_15 : a1 = 7
  · refine lv_tableIn (tgt := 79) (off := 78) hx hb dX8_about_1 (by rw [hk_15]; decide) (by rw [hk_15]; decide) (by rw [hk_15]; decide) (by decide) ?_
    have thk_15 := q_eq hk_15
    refine lv_aload_n hx hb dX8_about_79 rfl (lv_at hl 0 rfl) ?_
    obtain ⟨v_16, fv_16, tv_16⟩ := OKX8_g10 ho_p0
    refine qg_X8_10 hx hb hts i_X8 hown hK hP 0 rfl k_5 fv_16 dX8_about_80 ?_
    exact q_iret hx hb hr hlocks hS dX8_about_83 ⟨hP, za_t_about⟩
  by_cases hk_17 : a1 = 8
  · refine lv_tableIn (tgt := 84) (off := 83) hx hb dX8_about_1 (by rw [hk_17]; decide) (by rw [hk_17]; decide) (by rw [hk_17]; decide) (by decide) ?_
    have thk_17 := q_eq hk_17
    refine lv_aload_n hx hb dX8_about_84 rfl (lv_at hl 0 rfl) ?_
    obtain ⟨v_18, fv_18⟩ := OKX8_g12 ho_p0
    refine qg_X8_12 hx hb hts i_X8 hown hK hP 0 rfl k_6 fv_18 dX8_about_85 ?_
    exact q_iret hx hb hr hlocks hS dX8_about_88 ⟨hP, za_t_about⟩
  by_cases hk_19 : a1 = 9
  · refine lv_tableIn (tgt := 89) (off := 88) hx hb dX8_about_1 (by rw [hk_19]; decide) (by rw [hk_19]; decide) (by rw [hk_19]; decide) (by decide) ?_
    have thk_19 := q_eq hk_19
    refine lv_aload_n hx hb dX8_about_89 rfl (lv_at hl 0 rfl) (qg_X8_9 hx hb hts i_X8 hown hK hP 0 rfl k_0 fr_p0_9 dX8_about_90 (qg_X5_12 hx hb hts i_X5 hown hK hP 2 rfl k_7 fr_p0_shop_12 dX8_about_93 ?_))
    obtain ⟨v_20, fv_20⟩ := OKX3_g5 ho_p0_shop_laws
    refine qg_X3_5 hx hb hts i_X3 hown hK hP 4 rfl k_8 fv_20 dX8_about_96 ?_
    exact q_iret hx hb hr hlocks hS dX8_about_99 ⟨hP, za_t_about⟩
  have thk_1 := q_ne hk_1
  have thk_3 := q_ne hk_3
  have thk_5 := q_ne hk_5
  have thk_7 := q_ne hk_7
  have thk_9 := q_ne hk_9
  have thk_11 := q_ne hk_11
  have thk_13 := q_ne hk_13
  have thk_15 := q_ne hk_15
  have thk_17 := q_ne hk_17
  have thk_19 := q_ne hk_19
  refine lv_tableOut (tgt := 100) hx hb dX8_about_1 (by omega) (by decide) ?_
  refine lv_iconst (v := (-1)) hx hb dX8_about_100 (by decide) ?_
  exact q_iret hx hb hr hlocks hS dX8_about_101 ⟨hP, za_t_about⟩
