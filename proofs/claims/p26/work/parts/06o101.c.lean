def zo_r_pull : List Cond := [.code yX9_pull cX9_pull 3 (some .int), .fieldLink RX9 297 "BowWalkModel" "hasBow" "Z", .fieldLink RX9 396 "BowWalkModel" "bMany" "I", .methodLink RX9 389 yX9_isIn, .static yX9_isIn, .initialized RX9, .fieldLink RX9 376 "BowWalkModel" "nowStrike" "I", .fieldLink RX9 379 "BowWalkModel" "nowSwing" "I", .methodLink RX9 427 yX9_pullIt, .instanceMethod yX9_pullIt, .selects RX9 yX9_pullIt yX9_pullIt, .fieldLink RX9 449 "BowWalkModel" "slipped" "I"]
def zw_r_pull : List Cond := zo_r_pull ++ (zw_r_isIn ++ (zw_r_pullIt ++ (wsX90 ++ [])))
theorem gz_r_pull : zw_r_pull.all goodWord = true := p1_ga (by decide +kernel) (p1_ga gz_r_isIn (p1_ga gz_r_pullIt (p1_ga gk_X9 p1_g0)))
theorem iz_r_pull : ∀ w ∈ zw_r_pull, w ∈ lw_tbl := p1_ia (p1_all [1505, 1097, 1089, 1439, 1440, 116, 1093, 1094, 1472, 1474, 78, 1101] (by decide +kernel)) (p1_ia iz_r_isIn (p1_ia iz_r_pullIt (p1_ia ik_X9 p1_i0)))
def zW_r_pull (p0 : Nat) (f_p0 : List Value) (p0_bLong : Nat) (c_p0_bLong : ClassId) (b_p0_bLong : Nat → Int32) (p0_bTight : Nat) (c_p0_bTight : ClassId) (b_p0_bTight : Nat → Int32) (p0_code : Nat) (c_p0_code : ClassId) (b_p0_code : Nat → Int32) (p0_codeNumber : Nat) (c_p0_codeNumber : ClassId) (b_p0_codeNumber : Nat → Int32) (p0_laws : Nat) (c_p0_laws : ClassId) (b_p0_laws : Nat → Int32) (p0_pile : Nat) (c_p0_pile : ClassId) (b_p0_pile : Nat → Int32) (p0_rFrom : Nat) (c_p0_rFrom : ClassId) (b_p0_rFrom : Nat → Int32) (p0_rTo : Nat) (c_p0_rTo : ClassId) (b_p0_rTo : Nat → Int32) : va_W := [(p0, .inr (8, f_p0)), (p0_bLong, .inl (c_p0_bLong, 2, .inl b_p0_bLong)), (p0_bTight, .inl (c_p0_bTight, 12, .inl b_p0_bTight)), (p0_code, .inl (c_p0_code, 1800, .inl b_p0_code)), (p0_codeNumber, .inl (c_p0_codeNumber, 1800, .inl b_p0_codeNumber)), (p0_laws, .inl (c_p0_laws, 2, .inl b_p0_laws)), (p0_pile, .inl (c_p0_pile, 90, .inl b_p0_pile)), (p0_rFrom, .inl (c_p0_rFrom, 12, .inl b_p0_rFrom)), (p0_rTo, .inl (c_p0_rTo, 12, .inl b_p0_rTo))]
def zT_r_pull (c_p0_bLong : ClassId) (c_p0_bTight : ClassId) (c_p0_code : ClassId) (c_p0_codeNumber : ClassId) (c_p0_laws : ClassId) (c_p0_pile : ClassId) (c_p0_rFrom : ClassId) (c_p0_rTo : ClassId) : List (ClassId × FieldType) := [(c_p0_bLong, .int), (c_p0_bTight, .int), (c_p0_code, .int), (c_p0_codeNumber, .int), (c_p0_laws, .int), (c_p0_pile, .int), (c_p0_rFrom, .int), (c_p0_rTo, .int)]
def zA_r_pull (p0 : Nat) (p0_bLong : Nat) (p0_bTight : Nat) (p0_code : Nat) (p0_codeNumber : Nat) (p0_laws : Nat) (p0_pile : Nat) (p0_rFrom : Nat) (p0_rTo : Nat) : List Nat := [p0, p0_bLong, p0_bTight, p0_code, p0_codeNumber, p0_laws, p0_pile, p0_rFrom, p0_rTo]
theorem za_r_pull {p0 : Nat} {f_p0 : List Value} {p0_bLong : Nat} {c_p0_bLong : ClassId} {b_p0_bLong : Nat → Int32} {p0_bTight : Nat} {c_p0_bTight : ClassId} {b_p0_bTight : Nat → Int32} {p0_code : Nat} {c_p0_code : ClassId} {b_p0_code : Nat → Int32} {p0_codeNumber : Nat} {c_p0_codeNumber : ClassId} {b_p0_codeNumber : Nat → Int32} {p0_laws : Nat} {c_p0_laws : ClassId} {b_p0_laws : Nat → Int32} {p0_pile : Nat} {c_p0_pile : ClassId} {b_p0_pile : Nat → Int32} {p0_rFrom : Nat} {c_p0_rFrom : ClassId} {b_p0_rFrom : Nat → Int32} {p0_rTo : Nat} {c_p0_rTo : ClassId} {b_p0_rTo : Nat → Int32} : (zW_r_pull p0 f_p0 p0_bLong c_p0_bLong b_p0_bLong p0_bTight c_p0_bTight b_p0_bTight p0_code c_p0_code b_p0_code p0_codeNumber c_p0_codeNumber b_p0_codeNumber p0_laws c_p0_laws b_p0_laws p0_pile c_p0_pile b_p0_pile p0_rFrom c_p0_rFrom b_p0_rFrom p0_rTo c_p0_rTo b_p0_rTo).map Prod.fst = (zA_r_pull p0 p0_bLong p0_bTight p0_code p0_codeNumber p0_laws p0_pile p0_rFrom p0_rTo) := rfl
def zG_r_pull (p0 : Nat) (f_p0 : List Value) (p0_bLong : Nat) (c_p0_bLong : ClassId) (b_p0_bLong : Nat → Int32) (p0_bTight : Nat) (c_p0_bTight : ClassId) (b_p0_bTight : Nat → Int32) (p0_code : Nat) (c_p0_code : ClassId) (b_p0_code : Nat → Int32) (p0_codeNumber : Nat) (c_p0_codeNumber : ClassId) (b_p0_codeNumber : Nat → Int32) (p0_laws : Nat) (c_p0_laws : ClassId) (b_p0_laws : Nat → Int32) (p0_pile : Nat) (c_p0_pile : ClassId) (b_p0_pile : Nat → Int32) (p0_rFrom : Nat) (c_p0_rFrom : ClassId) (b_p0_rFrom : Nat → Int32) (p0_rTo : Nat) (c_p0_rTo : ClassId) (b_p0_rTo : Nat → Int32) (a1 : Int32) (bk : Int32) (r : Int32) (X : va_W → Prop) : Prop := ∃ (y_p0 : List Value) (y_p0_bLong : Nat → Int32) (y_p0_bTight : Nat → Int32) (y_p0_pile : Nat → Int32), OKX9 y_p0 ∧ q_fr [52, 56, 57, 64] f_p0 y_p0 ∧ X (zW_r_pull p0 y_p0 p0_bLong c_p0_bLong y_p0_bLong p0_bTight c_p0_bTight y_p0_bTight p0_code c_p0_code b_p0_code p0_codeNumber c_p0_codeNumber b_p0_codeNumber p0_laws c_p0_laws b_p0_laws p0_pile c_p0_pile y_p0_pile p0_rFrom c_p0_rFrom b_p0_rFrom p0_rTo c_p0_rTo b_p0_rTo)
theorem zm_r_pull {p0 : Nat} {f_p0 : List Value} {p0_bLong : Nat} {c_p0_bLong : ClassId} {b_p0_bLong : Nat → Int32} {p0_bTight : Nat} {c_p0_bTight : ClassId} {b_p0_bTight : Nat → Int32} {p0_code : Nat} {c_p0_code : ClassId} {b_p0_code : Nat → Int32} {p0_codeNumber : Nat} {c_p0_codeNumber : ClassId} {b_p0_codeNumber : Nat → Int32} {p0_laws : Nat} {c_p0_laws : ClassId} {b_p0_laws : Nat → Int32} {p0_pile : Nat} {c_p0_pile : ClassId} {b_p0_pile : Nat → Int32} {p0_rFrom : Nat} {c_p0_rFrom : ClassId} {b_p0_rFrom : Nat → Int32} {p0_rTo : Nat} {c_p0_rTo : ClassId} {b_p0_rTo : Nat → Int32} {a1 : Int32} {bk : Int32} : ∀ (r : Int32), ∀ X Y : va_W → Prop, (∀ w, X w → Y w) → zG_r_pull p0 f_p0 p0_bLong c_p0_bLong b_p0_bLong p0_bTight c_p0_bTight b_p0_bTight p0_code c_p0_code b_p0_code p0_codeNumber c_p0_codeNumber b_p0_codeNumber p0_laws c_p0_laws b_p0_laws p0_pile c_p0_pile b_p0_pile p0_rFrom c_p0_rFrom b_p0_rFrom p0_rTo c_p0_rTo b_p0_rTo a1 bk r X → zG_r_pull p0 f_p0 p0_bLong c_p0_bLong b_p0_bLong p0_bTight c_p0_bTight b_p0_bTight p0_code c_p0_code b_p0_code p0_codeNumber c_p0_codeNumber b_p0_codeNumber p0_laws c_p0_laws b_p0_laws p0_pile c_p0_pile b_p0_pile p0_rFrom c_p0_rFrom b_p0_rFrom p0_rTo c_p0_rTo b_p0_rTo a1 bk r Y := fun r X Y h h1 => by obtain ⟨x0, x1, x2, x3, x4, x5, hx⟩ := h1; exact ⟨x0, x1, x2, x3, x4, x5, h _ hx⟩
set_option maxHeartbeats 4000000 in
set_option maxRecDepth 100000 in
theorem r_pull (l : Launch) (dC : Nat → ClassId) (dI : Nat → Nat → Nat) (sz : Nat) (p0 : Nat) (f_p0 : List Value) (p0_bLong : Nat) (c_p0_bLong : ClassId) (b_p0_bLong : Nat → Int32) (p0_bTight : Nat) (c_p0_bTight : ClassId) (b_p0_bTight : Nat → Int32) (p0_code : Nat) (c_p0_code : ClassId) (b_p0_code : Nat → Int32) (p0_codeNumber : Nat) (c_p0_codeNumber : ClassId) (b_p0_codeNumber : Nat → Int32) (p0_laws : Nat) (c_p0_laws : ClassId) (b_p0_laws : Nat → Int32) (p0_pile : Nat) (c_p0_pile : ClassId) (b_p0_pile : Nat → Int32) (p0_rFrom : Nat) (c_p0_rFrom : ClassId) (b_p0_rFrom : Nat → Int32) (p0_rTo : Nat) (c_p0_rTo : ClassId) (b_p0_rTo : Nat → Int32) (a1 : Int32) (bk : Int32) (ho_p0 : OKX9 f_p0) (fr_p0_14 : q_rf f_p0 14 p0_laws) (fr_p0_36 : q_rf f_p0 36 p0_rFrom) (fr_p0_37 : q_rf f_p0 37 p0_rTo) (fr_p0_38 : q_rf f_p0 38 p0_code) (fr_p0_39 : q_rf f_p0 39 p0_codeNumber) (fr_p0_42 : q_rf f_p0 42 p0_pile) (fr_p0_49 : q_rf f_p0 49 p0_bTight) (fr_p0_50 : q_rf f_p0 50 p0_bLong) (hr_p0_laws : q_rg 2 (0) 3 b_p0_laws) (hr_p0_rFrom : q_rg 12 (0) 1800 b_p0_rFrom) (hr_p0_rTo : q_rg 12 (0) 1800 b_p0_rTo) (pf_bk : q_if f_p0 43 bk) (hLB : q_LB bk b_p0_laws b_p0_rFrom b_p0_rTo b_p0_code) : Met l yX9_pull zw_r_pull ({ frames := 5, cells := 0, slots := 0, locals := 122 }) (va_Pc [.ref p0, .int a1] (q_pre (dC, dI) (zW_r_pull p0 f_p0 p0_bLong c_p0_bLong b_p0_bLong p0_bTight c_p0_bTight b_p0_bTight p0_code c_p0_code b_p0_code p0_codeNumber c_p0_codeNumber b_p0_codeNumber p0_laws c_p0_laws b_p0_laws p0_pile c_p0_pile b_p0_pile p0_rFrom c_p0_rFrom b_p0_rFrom p0_rTo c_p0_rTo b_p0_rTo) (zT_r_pull c_p0_bLong c_p0_bTight c_p0_code c_p0_codeNumber c_p0_laws c_p0_pile c_p0_rFrom c_p0_rTo) q_E0 sz)) (q_Qi (dC, dI) (zG_r_pull p0 f_p0 p0_bLong c_p0_bLong b_p0_bLong p0_bTight c_p0_bTight b_p0_bTight p0_code c_p0_code b_p0_code p0_codeNumber c_p0_codeNumber b_p0_codeNumber p0_laws c_p0_laws b_p0_laws p0_pile c_p0_pile b_p0_pile p0_rFrom c_p0_rFrom b_p0_rFrom p0_rTo c_p0_rTo b_p0_rTo a1 bk) (zA_r_pull p0 p0_bLong p0_bTight p0_code p0_codeNumber p0_laws p0_pile p0_rFrom p0_rTo) (va_A (zW_r_pull p0 f_p0 p0_bLong c_p0_bLong b_p0_bLong p0_bTight c_p0_bTight b_p0_bTight p0_code c_p0_code b_p0_code p0_codeNumber c_p0_codeNumber b_p0_codeNumber p0_laws c_p0_laws b_p0_laws p0_pile c_p0_pile b_p0_pile p0_rFrom c_p0_rFrom b_p0_rFrom p0_rTo c_p0_rTo b_p0_rTo) sz)) 0 0 (va_A (zW_r_pull p0 f_p0 p0_bLong c_p0_bLong b_p0_bLong p0_bTight c_p0_bTight b_p0_bTight p0_code c_p0_code b_p0_code p0_codeNumber c_p0_codeNumber b_p0_codeNumber p0_laws c_p0_laws b_p0_laws p0_pile c_p0_pile b_p0_pile p0_rFrom c_p0_rFrom b_p0_rFrom p0_rTo c_p0_rTo b_p0_rTo) sz) := by
  refine Met.ofW (cc := cX9_pull) (maxL := 3) (ret := (some .int)) (by decide) rfl ?_
  intro p e s m args below meth c s₁ B hml hv
  obtain ⟨rfl, hsz, hP, hK, hD0, hE⟩ := hv
  have hx := B.exec
  have hb := B.bytes
  have hr := B.returns
  have hts := atoms_spec (ws := zw_r_pull) B.pre
  have hown : s.vm.findClass RX9 = some m.cls := findClass_of_methodNamed B.named
  have hlocks := B.notSynchronized
  subst hsz
  have hD := hD0.self (sz := s.heap.size)
  generalize hAe : va_A (zW_r_pull p0 f_p0 p0_bLong c_p0_bLong b_p0_bLong p0_bTight c_p0_bTight b_p0_bTight p0_code c_p0_code b_p0_code p0_codeNumber c_p0_codeNumber b_p0_codeNumber p0_laws c_p0_laws b_p0_laws p0_pile c_p0_pile b_p0_pile p0_rFrom c_p0_rFrom b_p0_rFrom p0_rTo c_p0_rTo b_p0_rTo) s.heap.size = A at hD hE ⊢
  have hA : ∀ q : Nat, s.heap.size ≤ q → A q := fun q h => by rw [← hAe]; exact Or.inr h
  have hDa : q_DA A (zA_r_pull p0 p0_bLong p0_bTight p0_code p0_codeNumber p0_laws p0_pile p0_rFrom p0_rTo) := q_DA.mk hD za_r_pull
  clear hAe hD0 hD
  have hS : va_S A s.heap s.heap [] := va_S.rf
  have m_0 : (.fieldLink RX9 297 "BowWalkModel" "hasBow" "Z" : Cond) ∈ zw_r_pull := List.mem_append_left _ (List.mem_of_getElem? (i := 1) rfl)
  have k_0 := hts _ m_0
  have m_1 : (.fieldLink RX9 396 "BowWalkModel" "bMany" "I" : Cond) ∈ zw_r_pull := List.mem_append_left _ (List.mem_of_getElem? (i := 2) rfl)
  have k_1 := hts _ m_1
  have m_2 : (.methodLink RX9 389 yX9_isIn : Cond) ∈ zw_r_pull := List.mem_append_left _ (List.mem_of_getElem? (i := 3) rfl)
  have k_2 := hts _ m_2
  have m_3 : (.static yX9_isIn : Cond) ∈ zw_r_pull := List.mem_append_left _ (List.mem_of_getElem? (i := 4) rfl)
  have k_3 := hts _ m_3
  have m_4 : (.initialized RX9 : Cond) ∈ zw_r_pull := List.mem_append_left _ (List.mem_of_getElem? (i := 5) rfl)
  have k_4 := hts _ m_4
  have m_5 : (.fieldLink RX9 376 "BowWalkModel" "nowStrike" "I" : Cond) ∈ zw_r_pull := List.mem_append_left _ (List.mem_of_getElem? (i := 6) rfl)
  have k_5 := hts _ m_5
  have m_6 : (.fieldLink RX9 379 "BowWalkModel" "nowSwing" "I" : Cond) ∈ zw_r_pull := List.mem_append_left _ (List.mem_of_getElem? (i := 7) rfl)
  have k_6 := hts _ m_6
  have m_7 : (.methodLink RX9 427 yX9_pullIt : Cond) ∈ zw_r_pull := List.mem_append_left _ (List.mem_of_getElem? (i := 8) rfl)
  have k_7 := hts _ m_7
  have m_8 : (.instanceMethod yX9_pullIt : Cond) ∈ zw_r_pull := List.mem_append_left _ (List.mem_of_getElem? (i := 9) rfl)
  have k_8 := hts _ m_8
  have m_9 : (.selects RX9 yX9_pullIt yX9_pullIt : Cond) ∈ zw_r_pull := List.mem_append_left _ (List.mem_of_getElem? (i := 10) rfl)
  have k_9 := hts _ m_9
  have m_10 : (.fieldLink RX9 449 "BowWalkModel" "slipped" "I" : Cond) ∈ zw_r_pull := List.mem_append_left _ (List.mem_of_getElem? (i := 11) rfl)
  have k_10 := hts _ m_10
  have g_r_isIn : ∀ w ∈ zw_r_isIn, w ∈ zw_r_pull := fun w h => List.mem_append_right _ (List.mem_append_left _ h)
  have g_r_pullIt : ∀ w ∈ zw_r_pullIt, w ∈ zw_r_pull := fun w h => List.mem_append_right _ (List.mem_append_right _ (List.mem_append_left _ h))
  have i_X9 : ∀ w ∈ u_ws RX9 TX9 81, w ∈ zw_r_pull := fun w h => List.mem_append_right _ (List.mem_append_right _ (List.mem_append_right _ (List.mem_append_left _ h)))
  have lt_m1 : ((-1) : Int32).toInt = -1 := by decide
  have lt_0 : (0 : Int32).toInt = 0 := by decide
  have lt_1 : (1 : Int32).toInt = 1 := by decide
  have lt_999 : (999 : Int32).toInt = 999 := by decide
  have hl := lv_entry ([.ref p0, .int a1]) (n := 3) (Nat.le_of_ble_eq_true rfl)
  rw [lg_entry_eq]
  generalize (lg_sl ([.ref p0, .int a1]) ++ List.replicate (3 - (lg_sl ([.ref p0, .int a1])).length) Slot.unset).toArray = ls at hl ⊢
  have hl : lv_has ls 3 [(0, .ref p0), (1, .int a1)] := hl
  have tbk := (OKX9_g43 ho_p0).use pf_bk
  have hlb := hr_p0_laws bk.toNatClampNeg (q_cl (q_in (by omega) (by omega)))
  refine lv_aload_n hx hb dX9_pull_0 rfl (lv_at hl 0 rfl) ?_
  obtain ⟨v_1, fv_1⟩ := OKX9_g60 ho_p0
  refine qg_X9_60 hx hb hts i_X9 hown hK hP 0 rfl k_0 fv_1 dX9_pull_1 ?_
  refine lv_if_eq (tgt := 25) hx hb dX9_pull_4 (by decide) (fun c_2 => ?_) (fun c_2 => ?_)
  · have tc_2 := q_eq c_2
    refine lv_iconst (v := (-1)) hx hb dX9_pull_25 (by decide) ?_
    exact q_iret hx hb hr hlocks hS dX9_pull_26 ⟨f_p0, b_p0_bLong, b_p0_bTight, b_p0_pile, ho_p0, q_fr.rf, hP, za_r_pull⟩
  · have tc_2 := q_neN c_2
    refine lv_aload_n hx hb dX9_pull_7 rfl (lv_at hl 0 rfl) ?_
    obtain ⟨v_3, fv_3, tv_3⟩ := OKX9_g52 ho_p0
    refine qg_X9_52 hx hb hts i_X9 hown hK hP 0 rfl k_1 fv_3 dX9_pull_8 ?_
    refine lv_if_eq (tgt := 25) hx hb dX9_pull_11 (by decide) (fun c_4 => ?_) (fun c_4 => ?_)
    · have tc_4 := q_eq c_4
      refine lv_iconst (v := (-1)) hx hb dX9_pull_25 (by decide) ?_
      exact q_iret hx hb hr hlocks hS dX9_pull_26 ⟨f_p0, b_p0_bLong, b_p0_bTight, b_p0_pile, ho_p0, q_fr.rf, hP, za_r_pull⟩
    · have tc_4 := q_neN c_4
      refine lv_iload_n hx hb dX9_pull_14 rfl (lv_at hl 1 rfl) (lv_iconst (v := 0) hx hb dX9_pull_15 (by decide) (lv_sipush (v := 999) hx hb dX9_pull_16 (by decide) ?_))
      refine q_cSi (As := [.int a1, .int 0, .int 999]) (rest := []) q_w0 trivial hK hP hDa za_r_pull hS hA [] [] (by decide +kernel) ⟨hx, hb, hml, hown, hts⟩ (r_isIn l dC dI s.heap.size a1 0 999) rfl rfl (va_cwS 3 hts (p1_gS m_2 m_3 m_4 g_r_isIn gz_r_isIn) rfl rfl rfl (by decide +kernel) ⟨by decide, by decide⟩) zm_r_isIn rfl hl.1 rfl (Nat.le_of_ble_eq_true rfl) dX9_pull_19 ⟨by decide, by decide⟩ (fun r_5 H6 lo6 hG6 hS6 => ?_)
      obtain ⟨z_7, hQ6⟩ := hG6
      have hP6 : va_P (dC, dI) vwCl (zW_r_pull p0 f_p0 p0_bLong c_p0_bLong b_p0_bLong p0_bTight c_p0_bTight b_p0_bTight p0_code c_p0_code b_p0_code p0_codeNumber c_p0_codeNumber b_p0_codeNumber p0_laws c_p0_laws b_p0_laws p0_pile c_p0_pile b_p0_pile p0_rFrom c_p0_rFrom b_p0_rFrom p0_rTo c_p0_rTo b_p0_rTo) H6 := hQ6
      clear hQ6 hP hS
      rcases z_7 with ⟨rfl, z_7⟩ | ⟨rfl, z_7⟩
      · refine lv_if_ne (tgt := 27) hx hb dX9_pull_22 (by decide) (fun c_8 => ?_) (fun c_8 => absurd c_8 (by decide))
        refine lv_aload_n hx hb dX9_pull_27 rfl (lv_at hl 0 rfl) (lv_iconst (v := 0) hx hb dX9_pull_28 (by decide) (qp_X9_56 hx hb hts i_X9 hown hK hP6 hDa za_r_pull hS6 0 rfl k_5 (OKX9_l ho_p0) dX9_pull_29 (fun H9 lo9 fs9 efs9 (hP9 : va_P (dC, dI) vwCl (zW_r_pull p0 fs9 p0_bLong c_p0_bLong b_p0_bLong p0_bTight c_p0_bTight b_p0_bTight p0_code c_p0_code b_p0_code p0_codeNumber c_p0_codeNumber b_p0_codeNumber p0_laws c_p0_laws b_p0_laws p0_pile c_p0_pile b_p0_pile p0_rFrom c_p0_rFrom b_p0_rFrom p0_rTo c_p0_rTo b_p0_rTo) H9) hS9 => ?_)))
        have ho9 := OKX9_p56 ho_p0 efs9
        clear hP6 hS6
        refine lv_aload_n hx hb dX9_pull_32 rfl (lv_at hl 0 rfl) (lv_iconst (v := 0) hx hb dX9_pull_33 (by decide) (qp_X9_57 hx hb hts i_X9 hown hK hP9 hDa za_r_pull hS9 0 rfl k_6 (OKX9_l ho9) dX9_pull_34 (fun H10 lo10 fs10 efs10 (hP10 : va_P (dC, dI) vwCl (zW_r_pull p0 fs10 p0_bLong c_p0_bLong b_p0_bLong p0_bTight c_p0_bTight b_p0_bTight p0_code c_p0_code b_p0_code p0_codeNumber c_p0_codeNumber b_p0_codeNumber p0_laws c_p0_laws b_p0_laws p0_pile c_p0_pile b_p0_pile p0_rFrom c_p0_rFrom b_p0_rFrom p0_rTo c_p0_rTo b_p0_rTo) H10) hS10 => ?_)))
        have ho10 := OKX9_p57 ho9 efs10
        clear hP9 hS9
        refine lv_aload_n hx hb dX9_pull_37 rfl (lv_at hl 0 rfl) (lv_iconst (v := 0) hx hb dX9_pull_38 (by decide) (lv_iload_n hx hb dX9_pull_39 rfl (lv_at hl 1 rfl) ?_))
        refine q_cVi (As := [.int 0, .int a1]) (rest := []) q_w0 trivial hK hP10 hDa za_r_pull hS10 hA [0, 1, 2, 3, 4, 5, 6, 7, 8] [0, 1, 2, 3, 4, 5, 6, 7] (by decide +kernel) ⟨hx, hb, hml, hown, hts⟩ (r_pullIt l dC dI H10.size p0 fs10 p0_bLong c_p0_bLong b_p0_bLong p0_bTight c_p0_bTight b_p0_bTight p0_code c_p0_code b_p0_code p0_codeNumber c_p0_codeNumber b_p0_codeNumber p0_laws c_p0_laws b_p0_laws p0_pile c_p0_pile b_p0_pile p0_rFrom c_p0_rFrom b_p0_rFrom p0_rTo c_p0_rTo b_p0_rTo 0 a1 bk ho10 ((q_sn efs10 (by decide) (q_sn efs9 (by decide) fr_p0_14))) ((q_sn efs10 (by decide) (q_sn efs9 (by decide) fr_p0_36))) ((q_sn efs10 (by decide) (q_sn efs9 (by decide) fr_p0_37))) ((q_sn efs10 (by decide) (q_sn efs9 (by decide) fr_p0_38))) ((q_sn efs10 (by decide) (q_sn efs9 (by decide) fr_p0_39))) ((q_sn efs10 (by decide) (q_sn efs9 (by decide) fr_p0_42))) ((q_sn efs10 (by decide) (q_sn efs9 (by decide) fr_p0_49))) ((q_sn efs10 (by decide) (q_sn efs9 (by decide) fr_p0_50))) hr_p0_laws hr_p0_rFrom hr_p0_rTo ((q_sn efs10 (by decide) (q_sn efs9 (by decide) pf_bk))) hLB ((by omega))) rfl rfl (cwV 2 hts (p1_gV m_7 m_8 m_9 m_4 g_r_pullIt gz_r_pullIt) rfl rfl rfl (by decide +kernel) ⟨by decide, by decide⟩) (va_recv hK hP10 (ci := 8) (q0 := 0) rfl rfl) zm_r_pullIt rfl hl.1 rfl (Nat.le_of_ble_eq_true rfl) dX9_pull_40 ⟨by decide, by decide⟩ (fun r_11 H12 lo12 hG12 hS12 => ?_)
        obtain ⟨o_13, o_14, o_15, o_16, ho_17, hf_18, hQ12⟩ := hG12
        have hP12 : va_P (dC, dI) vwCl (zW_r_pull p0 o_13 p0_bLong c_p0_bLong o_14 p0_bTight c_p0_bTight o_15 p0_code c_p0_code b_p0_code p0_codeNumber c_p0_codeNumber b_p0_codeNumber p0_laws c_p0_laws b_p0_laws p0_pile c_p0_pile o_16 p0_rFrom c_p0_rFrom b_p0_rFrom p0_rTo c_p0_rTo b_p0_rTo) H12 := hQ12
        clear hQ12 hP10 hS10
        refine lv_istore_n (lv' := [(2, .int r_11), (0, .ref p0), (1, .int a1)]) hx hb dX9_pull_43 rfl hl (by decide) rfl (fun ls hl => ?_)
        refine lv_aload_n hx hb dX9_pull_44 rfl (lv_at hl 1 rfl) (lv_dup hx hb dX9_pull_45 rfl ?_)
        obtain ⟨v_19, fv_19⟩ := OKX9_g64 ho_17
        refine qg_X9_64 hx hb hts i_X9 hown hK hP12 0 rfl k_10 fv_19 dX9_pull_46 (lv_iload_n hx hb dX9_pull_49 rfl (lv_at hl 0 rfl) (lv_iadd hx hb dX9_pull_50 (lv_topi fun v_20 ev_20 => qp_X9_64 hx hb hts i_X9 hown hK hP12 hDa za_r_pull hS12 0 rfl k_10 (OKX9_l ho_17) dX9_pull_51 (fun H21 lo21 fs21 efs21 (hP21 : va_P (dC, dI) vwCl (zW_r_pull p0 fs21 p0_bLong c_p0_bLong o_14 p0_bTight c_p0_bTight o_15 p0_code c_p0_code b_p0_code p0_codeNumber c_p0_codeNumber b_p0_codeNumber p0_laws c_p0_laws b_p0_laws p0_pile c_p0_pile o_16 p0_rFrom c_p0_rFrom b_p0_rFrom p0_rTo c_p0_rTo b_p0_rTo) H21) hS21 => ?_))))
        have ho21 := OKX9_p64 ho_17 efs21
        clear hP12 hS12
        refine lv_iload_n hx hb dX9_pull_54 rfl (lv_at hl 0 rfl) ?_
        exact q_iret hx hb hr hlocks hS21 dX9_pull_55 ⟨fs21, o_14, o_15, o_16, ho21, ((((q_fr.rf.st efs9 (by decide)).st efs10 (by decide)).tr hf_18 (by decide)).st efs21 (by decide)), hP21, za_r_pull⟩
      · refine lv_if_ne (tgt := 27) hx hb dX9_pull_22 (by decide) (fun c_22 => absurd c_22 (by decide)) (fun c_22 => ?_)
        refine lv_iconst (v := (-1)) hx hb dX9_pull_25 (by decide) ?_
        exact q_iret hx hb hr hlocks hS6 dX9_pull_26 ⟨f_p0, b_p0_bLong, b_p0_bTight, b_p0_pile, ho_p0, q_fr.rf, hP6, za_r_pull⟩
def zo_r_bow : List Cond := [.code yX9_bow cX9_bow 2 (some .int), .fieldLink RX9 297 "BowWalkModel" "hasBow" "Z", .fieldLink RX9 396 "BowWalkModel" "bMany" "I", .fieldLink RX9 122 "BowWalkModel" "bLong" "[I", .fieldLink RX9 446 "BowWalkModel" "stepsDone" "I", .fieldLink RX9 449 "BowWalkModel" "slipped" "I", .fieldLink RX9 399 "BowWalkModel" "bAll" "I", .methodLink RX9 389 yX9_isIn, .static yX9_isIn, .initialized RX9, .fieldLink RX9 119 "BowWalkModel" "bTight" "[I"]
def zw_r_bow : List Cond := zo_r_bow ++ (zw_r_isIn ++ (wsX90 ++ []))
theorem gz_r_bow : zw_r_bow.all goodWord = true := p1_ga (by decide +kernel) (p1_ga gz_r_isIn (p1_ga gk_X9 p1_g0))
theorem iz_r_bow : ∀ w ∈ zw_r_bow, w ∈ lw_tbl := p1_ia (p1_all [1509, 1097, 1089, 1087, 1100, 1101, 1090, 1439, 1440, 116, 1086] (by decide +kernel)) (p1_ia iz_r_isIn (p1_ia ik_X9 p1_i0))
def zW_r_bow (p0 : Nat) (f_p0 : List Value) (p0_bLong : Nat) (c_p0_bLong : ClassId) (b_p0_bLong : Nat → Int32) (p0_bTight : Nat) (c_p0_bTight : ClassId) (b_p0_bTight : Nat → Int32) : va_W := [(p0, .inr (8, f_p0)), (p0_bLong, .inl (c_p0_bLong, 2, .inl b_p0_bLong)), (p0_bTight, .inl (c_p0_bTight, 12, .inl b_p0_bTight))]
def zT_r_bow (c_p0_bLong : ClassId) (c_p0_bTight : ClassId) : List (ClassId × FieldType) := [(c_p0_bLong, .int), (c_p0_bTight, .int)]
def zA_r_bow (p0 : Nat) (p0_bLong : Nat) (p0_bTight : Nat) : List Nat := [p0, p0_bLong, p0_bTight]
theorem za_r_bow {p0 : Nat} {f_p0 : List Value} {p0_bLong : Nat} {c_p0_bLong : ClassId} {b_p0_bLong : Nat → Int32} {p0_bTight : Nat} {c_p0_bTight : ClassId} {b_p0_bTight : Nat → Int32} : (zW_r_bow p0 f_p0 p0_bLong c_p0_bLong b_p0_bLong p0_bTight c_p0_bTight b_p0_bTight).map Prod.fst = (zA_r_bow p0 p0_bLong p0_bTight) := rfl
def zG_r_bow (p0 : Nat) (f_p0 : List Value) (p0_bLong : Nat) (c_p0_bLong : ClassId) (b_p0_bLong : Nat → Int32) (p0_bTight : Nat) (c_p0_bTight : ClassId) (b_p0_bTight : Nat → Int32) (a1 : Int32) (r : Int32) (X : va_W → Prop) : Prop := X (zW_r_bow p0 f_p0 p0_bLong c_p0_bLong b_p0_bLong p0_bTight c_p0_bTight b_p0_bTight)
theorem zm_r_bow {p0 : Nat} {f_p0 : List Value} {p0_bLong : Nat} {c_p0_bLong : ClassId} {b_p0_bLong : Nat → Int32} {p0_bTight : Nat} {c_p0_bTight : ClassId} {b_p0_bTight : Nat → Int32} {a1 : Int32} : ∀ (r : Int32), ∀ X Y : va_W → Prop, (∀ w, X w → Y w) → zG_r_bow p0 f_p0 p0_bLong c_p0_bLong b_p0_bLong p0_bTight c_p0_bTight b_p0_bTight a1 r X → zG_r_bow p0 f_p0 p0_bLong c_p0_bLong b_p0_bLong p0_bTight c_p0_bTight b_p0_bTight a1 r Y := fun r X Y h h1 => h _ h1
set_option maxHeartbeats 4000000 in
set_option maxRecDepth 100000 in
theorem r_bow (l : Launch) (dC : Nat → ClassId) (dI : Nat → Nat → Nat) (sz : Nat) (p0 : Nat) (f_p0 : List Value) (p0_bLong : Nat) (c_p0_bLong : ClassId) (b_p0_bLong : Nat → Int32) (p0_bTight : Nat) (c_p0_bTight : ClassId) (b_p0_bTight : Nat → Int32) (a1 : Int32) (ho_p0 : OKX9 f_p0) (fr_p0_49 : q_rf f_p0 49 p0_bTight) (fr_p0_50 : q_rf f_p0 50 p0_bLong) : Met l yX9_bow zw_r_bow ({ frames := 1, cells := 0, slots := 0, locals := 22 }) (va_Pc [.ref p0, .int a1] (q_pre (dC, dI) (zW_r_bow p0 f_p0 p0_bLong c_p0_bLong b_p0_bLong p0_bTight c_p0_bTight b_p0_bTight) (zT_r_bow c_p0_bLong c_p0_bTight) q_E0 sz)) (q_Qi (dC, dI) (zG_r_bow p0 f_p0 p0_bLong c_p0_bLong b_p0_bLong p0_bTight c_p0_bTight b_p0_bTight a1) (zA_r_bow p0 p0_bLong p0_bTight) (va_A (zW_r_bow p0 f_p0 p0_bLong c_p0_bLong b_p0_bLong p0_bTight c_p0_bTight b_p0_bTight) sz)) 0 0 (va_A (zW_r_bow p0 f_p0 p0_bLong c_p0_bLong b_p0_bLong p0_bTight c_p0_bTight b_p0_bTight) sz) := by
  refine Met.ofW (cc := cX9_bow) (maxL := 2) (ret := (some .int)) (by decide) rfl ?_
  intro p e s m args below meth c s₁ B hml hv
  obtain ⟨rfl, hsz, hP, hK, hD0, hE⟩ := hv
  have hx := B.exec
  have hb := B.bytes
  have hr := B.returns
  have hts := atoms_spec (ws := zw_r_bow) B.pre
  have hown : s.vm.findClass RX9 = some m.cls := findClass_of_methodNamed B.named
  have hlocks := B.notSynchronized
  subst hsz
  have hD := hD0.self (sz := s.heap.size)
  generalize hAe : va_A (zW_r_bow p0 f_p0 p0_bLong c_p0_bLong b_p0_bLong p0_bTight c_p0_bTight b_p0_bTight) s.heap.size = A at hD hE ⊢
  have hA : ∀ q : Nat, s.heap.size ≤ q → A q := fun q h => by rw [← hAe]; exact Or.inr h
  have hDa : q_DA A (zA_r_bow p0 p0_bLong p0_bTight) := q_DA.mk hD za_r_bow
  clear hAe hD0 hD
  have hS : va_S A s.heap s.heap [] := va_S.rf
  have m_0 : (.fieldLink RX9 297 "BowWalkModel" "hasBow" "Z" : Cond) ∈ zw_r_bow := List.mem_append_left _ (List.mem_of_getElem? (i := 1) rfl)
  have k_0 := hts _ m_0
  have m_1 : (.fieldLink RX9 396 "BowWalkModel" "bMany" "I" : Cond) ∈ zw_r_bow := List.mem_append_left _ (List.mem_of_getElem? (i := 2) rfl)
  have k_1 := hts _ m_1
  have m_2 : (.fieldLink RX9 122 "BowWalkModel" "bLong" "[I" : Cond) ∈ zw_r_bow := List.mem_append_left _ (List.mem_of_getElem? (i := 3) rfl)
  have k_2 := hts _ m_2
  have m_3 : (.fieldLink RX9 446 "BowWalkModel" "stepsDone" "I" : Cond) ∈ zw_r_bow := List.mem_append_left _ (List.mem_of_getElem? (i := 4) rfl)
  have k_3 := hts _ m_3
  have m_4 : (.fieldLink RX9 449 "BowWalkModel" "slipped" "I" : Cond) ∈ zw_r_bow := List.mem_append_left _ (List.mem_of_getElem? (i := 5) rfl)
  have k_4 := hts _ m_4
  have m_5 : (.fieldLink RX9 399 "BowWalkModel" "bAll" "I" : Cond) ∈ zw_r_bow := List.mem_append_left _ (List.mem_of_getElem? (i := 6) rfl)
  have k_5 := hts _ m_5
  have m_6 : (.methodLink RX9 389 yX9_isIn : Cond) ∈ zw_r_bow := List.mem_append_left _ (List.mem_of_getElem? (i := 7) rfl)
  have k_6 := hts _ m_6
  have m_7 : (.static yX9_isIn : Cond) ∈ zw_r_bow := List.mem_append_left _ (List.mem_of_getElem? (i := 8) rfl)
  have k_7 := hts _ m_7
  have m_8 : (.initialized RX9 : Cond) ∈ zw_r_bow := List.mem_append_left _ (List.mem_of_getElem? (i := 9) rfl)
  have k_8 := hts _ m_8
  have m_9 : (.fieldLink RX9 119 "BowWalkModel" "bTight" "[I" : Cond) ∈ zw_r_bow := List.mem_append_left _ (List.mem_of_getElem? (i := 10) rfl)
  have k_9 := hts _ m_9
  have g_r_isIn : ∀ w ∈ zw_r_isIn, w ∈ zw_r_bow := fun w h => List.mem_append_right _ (List.mem_append_left _ h)
  have i_X9 : ∀ w ∈ u_ws RX9 TX9 81, w ∈ zw_r_bow := fun w h => List.mem_append_right _ (List.mem_append_right _ (List.mem_append_left _ h))
  have lt_m1 : ((-1) : Int32).toInt = -1 := by decide
  have lt_0 : (0 : Int32).toInt = 0 := by decide
  have lt_1 : (1 : Int32).toInt = 1 := by decide
  have lt_2 : (2 : Int32).toInt = 2 := by decide
  have lt_3 : (3 : Int32).toInt = 3 := by decide
  have lt_4 : (4 : Int32).toInt = 4 := by decide
  have lt_9 : (9 : Int32).toInt = 9 := by decide
  have lt_10 : (10 : Int32).toInt = 10 := by decide
  have hl := lv_entry ([.ref p0, .int a1]) (n := 2) (Nat.le_of_ble_eq_true rfl)
  rw [lg_entry_eq]
  generalize (lg_sl ([.ref p0, .int a1]) ++ List.replicate (2 - (lg_sl ([.ref p0, .int a1])).length) Slot.unset).toArray = ls at hl ⊢
  have hl : lv_has ls 2 [(0, .ref p0), (1, .int a1)] := hl
  refine lv_aload_n hx hb dX9_bow_0 rfl (lv_at hl 0 rfl) ?_
  obtain ⟨v_1, fv_1⟩ := OKX9_g60 ho_p0
  refine qg_X9_60 hx hb hts i_X9 hown hK hP 0 rfl k_0 fv_1 dX9_bow_1 ?_
  refine lv_if_ne (tgt := 9) hx hb dX9_bow_4 (by decide) (fun c_2 => ?_) (fun c_2 => ?_)
  · have tc_2 := q_ne c_2
    refine lv_iload_n hx hb dX9_bow_9 rfl (lv_at hl 1 rfl) ?_
    by_cases hk_3 : a1 = 0
    · refine lv_tableIn (tgt := 44) (off := 34) hx hb dX9_bow_10 (by rw [hk_3]; decide) (by rw [hk_3]; decide) (by rw [hk_3]; decide) (by decide) ?_
      have thk_3 := q_eq hk_3
      refine lv_aload_n hx hb dX9_bow_44 rfl (lv_at hl 0 rfl) ?_
      obtain ⟨v_4, fv_4, tv_4⟩ := OKX9_g52 ho_p0
      refine qg_X9_52 hx hb hts i_X9 hown hK hP 0 rfl k_1 fv_4 dX9_bow_45 ?_
      exact q_iret hx hb hr hlocks hS dX9_bow_48 ⟨hP, za_r_bow⟩
    by_cases hk_5 : a1 = 1
    · refine lv_tableIn (tgt := 49) (off := 39) hx hb dX9_bow_10 (by rw [hk_5]; decide) (by rw [hk_5]; decide) (by rw [hk_5]; decide) (by decide) ?_
      have thk_5 := q_eq hk_5
      refine lv_aload_n hx hb dX9_bow_49 rfl (lv_at hl 0 rfl) (qg_X9_50 hx hb hts i_X9 hown hK hP 0 rfl k_2 fr_p0_50 dX9_bow_50 (lv_iconst (v := 0) hx hb dX9_bow_53 (by decide) (q_ild hx hb hK hP 1 0 rfl rfl (p1_in (i := 0) (n := 2) (by decide)) dX9_bow_54 (fun v_6 ev_6 => ?_))))
      exact q_iret hx hb hr hlocks hS dX9_bow_55 ⟨hP, za_r_bow⟩
    by_cases hk_7 : a1 = 2
    · refine lv_tableIn (tgt := 56) (off := 46) hx hb dX9_bow_10 (by rw [hk_7]; decide) (by rw [hk_7]; decide) (by rw [hk_7]; decide) (by decide) ?_
      have thk_7 := q_eq hk_7
      refine lv_aload_n hx hb dX9_bow_56 rfl (lv_at hl 0 rfl) (qg_X9_50 hx hb hts i_X9 hown hK hP 0 rfl k_2 fr_p0_50 dX9_bow_57 (lv_iconst (v := 1) hx hb dX9_bow_60 (by decide) (q_ild hx hb hK hP 1 0 rfl rfl (p1_in (i := 1) (n := 2) (by decide)) dX9_bow_61 (fun v_8 ev_8 => ?_))))
      exact q_iret hx hb hr hlocks hS dX9_bow_62 ⟨hP, za_r_bow⟩
    by_cases hk_9 : a1 = 3
    · refine lv_tableIn (tgt := 63) (off := 53) hx hb dX9_bow_10 (by rw [hk_9]; decide) (by rw [hk_9]; decide) (by rw [hk_9]; decide) (by decide) ?_
      have thk_9 := q_eq hk_9
      refine lv_aload_n hx hb dX9_bow_63 rfl (lv_at hl 0 rfl) ?_
      obtain ⟨v_10, v_11, fv_10, fv_11, tv_10⟩ := OKX9_g62 ho_p0
      refine qg_X9_63 hx hb hts i_X9 hown hK hP 0 rfl k_3 fv_11 dX9_bow_64 ?_
      exact q_iret hx hb hr hlocks hS dX9_bow_67 ⟨hP, za_r_bow⟩
    by_cases hk_12 : a1 = 4
    · refine lv_tableIn (tgt := 68) (off := 58) hx hb dX9_bow_10 (by rw [hk_12]; decide) (by rw [hk_12]; decide) (by rw [hk_12]; decide) (by decide) ?_
      have thk_12 := q_eq hk_12
      refine lv_aload_n hx hb dX9_bow_68 rfl (lv_at hl 0 rfl) ?_
      obtain ⟨v_13, fv_13⟩ := OKX9_g64 ho_p0
      refine qg_X9_64 hx hb hts i_X9 hown hK hP 0 rfl k_4 fv_13 dX9_bow_69 ?_
      exact q_iret hx hb hr hlocks hS dX9_bow_72 ⟨hP, za_r_bow⟩
    have thk_3 := q_ne hk_3
    have thk_5 := q_ne hk_5
    have thk_7 := q_ne hk_7
    have thk_9 := q_ne hk_9
    have thk_12 := q_ne hk_12
    refine lv_tableOut (tgt := 73) hx hb dX9_bow_10 (by omega) (by decide) ?_
    refine lv_iload_n hx hb dX9_bow_73 rfl (lv_at hl 1 rfl) (lv_bipush (v := 10) hx hb dX9_bow_74 (by decide) (lv_bipush (v := 9) hx hb dX9_bow_76 (by decide) (lv_aload_n hx hb dX9_bow_78 rfl (lv_at hl 0 rfl) ?_)))
    obtain ⟨v_14, fv_14, tv_14⟩ := OKX9_g53 ho_p0
    refine qg_X9_53 hx hb hts i_X9 hown hK hP 0 rfl k_5 fv_14 dX9_bow_79 (lv_iadd hx hb dX9_bow_82 (lv_topi fun v_15 ev_15 => ?_))
    have tv_15 := q_add ev_15 (by omega) (by omega)
    refine q_cSi (As := [.int a1, .int 10, .int v_15]) (rest := []) q_w0 trivial hK hP hDa za_r_bow hS hA [] [] (by decide +kernel) ⟨hx, hb, hml, hown, hts⟩ (r_isIn l dC dI s.heap.size a1 10 v_15) rfl rfl (va_cwS 3 hts (p1_gS m_6 m_7 m_8 g_r_isIn gz_r_isIn) rfl rfl rfl (by decide +kernel) ⟨by decide, by decide⟩) zm_r_isIn rfl hl.1 rfl (Nat.le_of_ble_eq_true rfl) dX9_bow_83 ⟨by decide, by decide⟩ (fun r_16 H17 lo17 hG17 hS17 => ?_)
    obtain ⟨z_18, hQ17⟩ := hG17
    have hP17 : va_P (dC, dI) vwCl (zW_r_bow p0 f_p0 p0_bLong c_p0_bLong b_p0_bLong p0_bTight c_p0_bTight b_p0_bTight) H17 := hQ17
    clear hQ17 hP hS
    rcases z_18 with ⟨rfl, z_18⟩ | ⟨rfl, z_18⟩
    · refine lv_if_eq (tgt := 101) hx hb dX9_bow_86 (by decide) (fun c_19 => absurd c_19 (by decide)) (fun c_19 => ?_)
      refine lv_aload_n hx hb dX9_bow_89 rfl (lv_at hl 0 rfl) (qg_X9_49 hx hb hts i_X9 hown hK hP17 0 rfl k_9 fr_p0_49 dX9_bow_90 (lv_iload_n hx hb dX9_bow_93 rfl (lv_at hl 1 rfl) (lv_bipush (v := 10) hx hb dX9_bow_94 (by decide) (lv_isub hx hb dX9_bow_96 (lv_topi fun v_20 ev_20 => ?_)))))
      have tv_20 := q_sub ev_20 (by omega) (by omega)
      refine q_ild hx hb hK hP17 2 1 rfl rfl (q_in (by omega) (by omega)) dX9_bow_97 (fun v_21 ev_21 => ?_)
      refine lv_goto (tgt := 102) hx hb dX9_bow_98 (by decide) ?_
      exact q_iret hx hb hr hlocks hS17 dX9_bow_102 ⟨hP17, za_r_bow⟩
    · refine lv_if_eq (tgt := 101) hx hb dX9_bow_86 (by decide) (fun c_22 => ?_) (fun c_22 => absurd c_22 (by decide))
      refine lv_iconst (v := (-1)) hx hb dX9_bow_101 (by decide) ?_
      exact q_iret hx hb hr hlocks hS17 dX9_bow_102 ⟨hP17, za_r_bow⟩
  · have tc_2 := q_eqN c_2
    refine lv_iconst (v := (-1)) hx hb dX9_bow_7 (by decide) ?_
    exact q_iret hx hb hr hlocks hS dX9_bow_8 ⟨hP, za_r_bow⟩
def zo_r_knot : List Cond := [.code yX9_knot cX9_knot 7 (some .int), .methodLink RX9 431 yX9_isKnot, .instanceMethod yX9_isKnot, .selects RX9 yX9_isKnot yX9_isKnot, .initialized RX9, .fieldLink RX9 68 "BowWalkModel" "sides" "[I", .fieldLink RX9 291 "BowWalkModel" "bank" "I", .fieldLink RX9 71 "BowWalkModel" "crossings" "[I"]
def zw_r_knot : List Cond := zo_r_knot ++ (zw_r_isKnot ++ (wsX90 ++ []))
theorem gz_r_knot : zw_r_knot.all goodWord = true := p1_ga (by decide +kernel) (p1_ga gz_r_isKnot (p1_ga gk_X9 p1_g0))
theorem iz_r_knot : ∀ w ∈ zw_r_knot, w ∈ lw_tbl := p1_ia (p1_all [1513, 1435, 1437, 71, 116, 1063, 1080, 1064] (by decide +kernel)) (p1_ia iz_r_isKnot (p1_ia ik_X9 p1_i0))
def zW_r_knot (p0 : Nat) (f_p0 : List Value) (p0_crossings : Nat) (c_p0_crossings : ClassId) (b_p0_crossings : Nat → Int32) (p0_knots : Nat) (c_p0_knots : ClassId) (b_p0_knots : Nat → Int32) (p0_sides : Nat) (c_p0_sides : ClassId) (b_p0_sides : Nat → Int32) : va_W := [(p0, .inr (8, f_p0)), (p0_crossings, .inl (c_p0_crossings, 12, .inl b_p0_crossings)), (p0_knots, .inl (c_p0_knots, 2, .inl b_p0_knots)), (p0_sides, .inl (c_p0_sides, 12, .inl b_p0_sides))]
def zT_r_knot (c_p0_crossings : ClassId) (c_p0_knots : ClassId) (c_p0_sides : ClassId) : List (ClassId × FieldType) := [(c_p0_crossings, .int), (c_p0_knots, .int), (c_p0_sides, .int)]
def zA_r_knot (p0 : Nat) (p0_crossings : Nat) (p0_knots : Nat) (p0_sides : Nat) : List Nat := [p0, p0_crossings, p0_knots, p0_sides]
theorem za_r_knot {p0 : Nat} {f_p0 : List Value} {p0_crossings : Nat} {c_p0_crossings : ClassId} {b_p0_crossings : Nat → Int32} {p0_knots : Nat} {c_p0_knots : ClassId} {b_p0_knots : Nat → Int32} {p0_sides : Nat} {c_p0_sides : ClassId} {b_p0_sides : Nat → Int32} : (zW_r_knot p0 f_p0 p0_crossings c_p0_crossings b_p0_crossings p0_knots c_p0_knots b_p0_knots p0_sides c_p0_sides b_p0_sides).map Prod.fst = (zA_r_knot p0 p0_crossings p0_knots p0_sides) := rfl
def zG_r_knot (p0 : Nat) (f_p0 : List Value) (p0_crossings : Nat) (c_p0_crossings : ClassId) (b_p0_crossings : Nat → Int32) (p0_knots : Nat) (c_p0_knots : ClassId) (b_p0_knots : Nat → Int32) (p0_sides : Nat) (c_p0_sides : ClassId) (b_p0_sides : Nat → Int32) (a1 : Int32) (a2 : Int32) (bk : Int32) (r : Int32) (X : va_W → Prop) : Prop := X (zW_r_knot p0 f_p0 p0_crossings c_p0_crossings b_p0_crossings p0_knots c_p0_knots b_p0_knots p0_sides c_p0_sides b_p0_sides)
theorem zm_r_knot {p0 : Nat} {f_p0 : List Value} {p0_crossings : Nat} {c_p0_crossings : ClassId} {b_p0_crossings : Nat → Int32} {p0_knots : Nat} {c_p0_knots : ClassId} {b_p0_knots : Nat → Int32} {p0_sides : Nat} {c_p0_sides : ClassId} {b_p0_sides : Nat → Int32} {a1 : Int32} {a2 : Int32} {bk : Int32} : ∀ (r : Int32), ∀ X Y : va_W → Prop, (∀ w, X w → Y w) → zG_r_knot p0 f_p0 p0_crossings c_p0_crossings b_p0_crossings p0_knots c_p0_knots b_p0_knots p0_sides c_p0_sides b_p0_sides a1 a2 bk r X → zG_r_knot p0 f_p0 p0_crossings c_p0_crossings b_p0_crossings p0_knots c_p0_knots b_p0_knots p0_sides c_p0_sides b_p0_sides a1 a2 bk r Y := fun r X Y h h1 => h _ h1
set_option maxHeartbeats 4000000 in
set_option maxRecDepth 100000 in
theorem r_knot (l : Launch) (dC : Nat → ClassId) (dI : Nat → Nat → Nat) (sz : Nat) (p0 : Nat) (f_p0 : List Value) (p0_crossings : Nat) (c_p0_crossings : ClassId) (b_p0_crossings : Nat → Int32) (p0_knots : Nat) (c_p0_knots : ClassId) (b_p0_knots : Nat → Int32) (p0_sides : Nat) (c_p0_sides : ClassId) (b_p0_sides : Nat → Int32) (a1 : Int32) (a2 : Int32) (bk : Int32) (ho_p0 : OKX9 f_p0) (fr_p0_11 : q_rf f_p0 11 p0_knots) (fr_p0_26 : q_rf f_p0 26 p0_sides) (fr_p0_27 : q_rf f_p0 27 p0_crossings) (hr_p0_crossings : q_rg 12 (0) 12 b_p0_crossings) (hr_p0_knots : q_rg 2 (0) 6 b_p0_knots) (pf_bk : q_if f_p0 43 bk) : Met l yX9_knot zw_r_knot ({ frames := 2, cells := 0, slots := 0, locals := 43 }) (va_Pc [.ref p0, .int a1, .int a2] (q_pre (dC, dI) (zW_r_knot p0 f_p0 p0_crossings c_p0_crossings b_p0_crossings p0_knots c_p0_knots b_p0_knots p0_sides c_p0_sides b_p0_sides) (zT_r_knot c_p0_crossings c_p0_knots c_p0_sides) q_E0 sz)) (q_Qi (dC, dI) (zG_r_knot p0 f_p0 p0_crossings c_p0_crossings b_p0_crossings p0_knots c_p0_knots b_p0_knots p0_sides c_p0_sides b_p0_sides a1 a2 bk) (zA_r_knot p0 p0_crossings p0_knots p0_sides) (va_A (zW_r_knot p0 f_p0 p0_crossings c_p0_crossings b_p0_crossings p0_knots c_p0_knots b_p0_knots p0_sides c_p0_sides b_p0_sides) sz)) 0 0 (va_A (zW_r_knot p0 f_p0 p0_crossings c_p0_crossings b_p0_crossings p0_knots c_p0_knots b_p0_knots p0_sides c_p0_sides b_p0_sides) sz) := by
  refine Met.ofW (cc := cX9_knot) (maxL := 7) (ret := (some .int)) (by decide) rfl ?_
  intro p e s m args below meth c s₁ B hml hv
  obtain ⟨rfl, hsz, hP, hK, hD0, hE⟩ := hv
  have hx := B.exec
  have hb := B.bytes
  have hr := B.returns
  have hts := atoms_spec (ws := zw_r_knot) B.pre
  have hown : s.vm.findClass RX9 = some m.cls := findClass_of_methodNamed B.named
  have hlocks := B.notSynchronized
  subst hsz
  have hD := hD0.self (sz := s.heap.size)
  generalize hAe : va_A (zW_r_knot p0 f_p0 p0_crossings c_p0_crossings b_p0_crossings p0_knots c_p0_knots b_p0_knots p0_sides c_p0_sides b_p0_sides) s.heap.size = A at hD hE ⊢
  have hA : ∀ q : Nat, s.heap.size ≤ q → A q := fun q h => by rw [← hAe]; exact Or.inr h
  have hDa : q_DA A (zA_r_knot p0 p0_crossings p0_knots p0_sides) := q_DA.mk hD za_r_knot
  clear hAe hD0 hD
  have hS : va_S A s.heap s.heap [] := va_S.rf
  have m_0 : (.methodLink RX9 431 yX9_isKnot : Cond) ∈ zw_r_knot := List.mem_append_left _ (List.mem_of_getElem? (i := 1) rfl)
  have k_0 := hts _ m_0
  have m_1 : (.instanceMethod yX9_isKnot : Cond) ∈ zw_r_knot := List.mem_append_left _ (List.mem_of_getElem? (i := 2) rfl)
  have k_1 := hts _ m_1
  have m_2 : (.selects RX9 yX9_isKnot yX9_isKnot : Cond) ∈ zw_r_knot := List.mem_append_left _ (List.mem_of_getElem? (i := 3) rfl)
  have k_2 := hts _ m_2
  have m_3 : (.initialized RX9 : Cond) ∈ zw_r_knot := List.mem_append_left _ (List.mem_of_getElem? (i := 4) rfl)
  have k_3 := hts _ m_3
  have m_4 : (.fieldLink RX9 68 "BowWalkModel" "sides" "[I" : Cond) ∈ zw_r_knot := List.mem_append_left _ (List.mem_of_getElem? (i := 5) rfl)
  have k_4 := hts _ m_4
  have m_5 : (.fieldLink RX9 291 "BowWalkModel" "bank" "I" : Cond) ∈ zw_r_knot := List.mem_append_left _ (List.mem_of_getElem? (i := 6) rfl)
  have k_5 := hts _ m_5
  have m_6 : (.fieldLink RX9 71 "BowWalkModel" "crossings" "[I" : Cond) ∈ zw_r_knot := List.mem_append_left _ (List.mem_of_getElem? (i := 7) rfl)
  have k_6 := hts _ m_6
  have g_r_isKnot : ∀ w ∈ zw_r_isKnot, w ∈ zw_r_knot := fun w h => List.mem_append_right _ (List.mem_append_left _ h)
  have i_X9 : ∀ w ∈ u_ws RX9 TX9 81, w ∈ zw_r_knot := fun w h => List.mem_append_right _ (List.mem_append_right _ (List.mem_append_left _ h))
  have lt_m1 : ((-1) : Int32).toInt = -1 := by decide
  have lt_0 : (0 : Int32).toInt = 0 := by decide
  have lt_1 : (1 : Int32).toInt = 1 := by decide
  have lt_2 : (2 : Int32).toInt = 2 := by decide
  have lt_6 : (6 : Int32).toInt = 6 := by decide
  have hl := lv_entry ([.ref p0, .int a1, .int a2]) (n := 7) (Nat.le_of_ble_eq_true rfl)
  rw [lg_entry_eq]
  generalize (lg_sl ([.ref p0, .int a1, .int a2]) ++ List.replicate (7 - (lg_sl ([.ref p0, .int a1, .int a2])).length) Slot.unset).toArray = ls at hl ⊢
  have hl : lv_has ls 7 [(0, .ref p0), (1, .int a1), (2, .int a2)] := hl
  have tbk := (OKX9_g43 ho_p0).use pf_bk
  refine lv_aload_n hx hb dX9_knot_0 rfl (lv_at hl 0 rfl) (lv_iload_n hx hb dX9_knot_1 rfl (lv_at hl 1 rfl) ?_)
  refine q_cVi (As := [.int a1]) (rest := []) q_w0 trivial hK hP hDa za_r_knot hS hA [0, 2] [1] (by decide +kernel) ⟨hx, hb, hml, hown, hts⟩ (r_isKnot l dC dI s.heap.size p0 f_p0 p0_knots c_p0_knots b_p0_knots a1 bk ho_p0 fr_p0_11 hr_p0_knots pf_bk) rfl rfl (cwV 1 hts (p1_gV m_0 m_1 m_2 m_3 g_r_isKnot gz_r_isKnot) rfl rfl rfl (by decide +kernel) ⟨by decide, by decide⟩) (va_recv hK hP (ci := 8) (q0 := 0) rfl rfl) zm_r_isKnot rfl hl.1 rfl (Nat.le_of_ble_eq_true rfl) dX9_knot_2 ⟨by decide, by decide⟩ (fun r_1 H2 lo2 hG2 hS2 => ?_)
  obtain ⟨z_3, hQ2⟩ := hG2
  have hP2 : va_P (dC, dI) vwCl (zW_r_knot p0 f_p0 p0_crossings c_p0_crossings b_p0_crossings p0_knots c_p0_knots b_p0_knots p0_sides c_p0_sides b_p0_sides) H2 := hQ2
  clear hQ2 hP hS
  rcases z_3 with ⟨rfl, z_3⟩ | ⟨rfl, z_3⟩
  · refine lv_if_ne (tgt := 10) hx hb dX9_knot_5 (by decide) (fun c_4 => ?_) (fun c_4 => absurd c_4 (by decide))
    refine lv_aload_n hx hb dX9_knot_10 rfl (lv_at hl 0 rfl) (qg_X9_26 hx hb hts i_X9 hown hK hP2 0 rfl k_4 fr_p0_26 dX9_knot_11 (lv_bipush (v := 6) hx hb dX9_knot_14 (by decide) (lv_aload_n hx hb dX9_knot_16 rfl (lv_at hl 0 rfl) (qg_X9_43 hx hb hts i_X9 hown hK hP2 0 rfl k_5 pf_bk dX9_knot_17 (lv_imul hx hb dX9_knot_20 (lv_topi fun v_5 ev_5 => ?_))))))
    have tv_5 := q_mulc (c := 6) ev_5 (by decide) (by omega) (by omega)
    refine lv_iload_n hx hb dX9_knot_21 rfl (lv_at hl 1 rfl) (lv_iadd hx hb dX9_knot_22 (lv_topi fun v_6 ev_6 => ?_))
    have tv_6 := q_add ev_6 (by omega) (by omega)
    refine q_ild hx hb hK hP2 3 2 rfl rfl (q_in (by omega) (by omega)) dX9_knot_23 (fun v_7 ev_7 => ?_)
    refine lv_istore_n (lv' := [(3, .int v_7), (0, .ref p0), (1, .int a1), (2, .int a2)]) hx hb dX9_knot_24 rfl hl (by decide) rfl (fun ls hl => ?_)
    refine lv_aload_n hx hb dX9_knot_25 rfl (lv_at hl 1 rfl) (qg_X9_27 hx hb hts i_X9 hown hK hP2 0 rfl k_6 fr_p0_27 dX9_knot_26 (lv_bipush (v := 6) hx hb dX9_knot_29 (by decide) (lv_aload_n hx hb dX9_knot_31 rfl (lv_at hl 1 rfl) (qg_X9_43 hx hb hts i_X9 hown hK hP2 0 rfl k_5 pf_bk dX9_knot_32 (lv_imul hx hb dX9_knot_35 (lv_topi fun v_8 ev_8 => ?_))))))
    have tv_8 := q_mulc (c := 6) ev_8 (by decide) (by omega) (by omega)
    refine lv_iload_n hx hb dX9_knot_36 rfl (lv_at hl 2 rfl) (lv_iadd hx hb dX9_knot_37 (lv_topi fun v_9 ev_9 => ?_))
    have tv_9 := q_add ev_9 (by omega) (by omega)
    refine q_ild hx hb hK hP2 1 0 rfl rfl (q_in (by omega) (by omega)) dX9_knot_38 (fun v_10 ev_10 => ?_)
    have tv_10 := q_rd' hr_p0_crossings (q_in (by omega) (by omega)) ev_10
    refine lv_istore (lv' := [(4, .int v_10), (3, .int v_7), (0, .ref p0), (1, .int a1), (2, .int a2)]) hx hb dX9_knot_39 hl (by decide) rfl (fun ls hl => ?_)
    refine lv_iconst (v := 0) hx hb dX9_knot_41 (by decide) (lv_istore (lv' := [(5, .int 0), (4, .int v_10), (3, .int v_7), (0, .ref p0), (1, .int a1), (2, .int a2)]) hx hb dX9_knot_42 hl (by decide) rfl (fun ls hl => ?_))
    refine lv_iconst (v := 1) hx hb dX9_knot_44 (by decide) (lv_istore (lv' := [(6, .int 1), (5, .int 0), (4, .int v_10), (3, .int v_7), (0, .ref p0), (1, .int a1), (2, .int a2)]) hx hb dX9_knot_45 hl (by decide) rfl (fun ls hl => ?_))
    have key47 : ∀ (fu47 : Nat) (lk : Int32) (i : Int32) (H : Heap) (locs : List Loc) (ls : Array Slot) (hfu47 : 12 - i.toInt ≤ (fu47 : Int)) (ti : (1) ≤ i.toInt ∧ i.toInt ≤ 12), va_P (dC, dI) vwCl (zW_r_knot p0 f_p0 p0_crossings c_p0_crossings b_p0_crossings p0_knots c_p0_knots b_p0_knots p0_sides c_p0_sides b_p0_sides) H → va_S A s.heap H locs → lv_has ls 7 [(6, .int i), (5, .int lk), (4, .int v_10), (3, .int v_7), (0, .ref p0), (1, .int a1), (2, .int a2)] → W p l e (headSpec zw_r_knot { frames := 2, cells := 0, slots := 0, locals := 43 }).room s m ([.ref p0, .int a1, .int a2] : List Value).toArray below meth c H locs 0 0 (MQ below (q_Qi (dC, dI) (zG_r_knot p0 f_p0 p0_crossings c_p0_crossings b_p0_crossings p0_knots c_p0_knots b_p0_knots p0_sides c_p0_sides b_p0_sides a1 a2 bk) (zA_r_knot p0 p0_crossings p0_knots p0_sides) A) ([.ref p0, .int a1, .int a2] : List Value).toArray s 0 0 A) (F0 m 47 ls []) := by
      intro fu47
      induction fu47 using Nat.strongRecOn with
      | ind fu47 ih47 =>
        intro lk i H11 lo11 ls hfu47 ti hP11 hS11 hl
        refine lv_iload hx hb dX9_knot_47 (lv_at hl 0 rfl) (lv_iload hx hb dX9_knot_49 (lv_at hl 2 rfl) ?_)
        refine lv_icmp_ge (tgt := 87) hx hb dX9_knot_51 (by decide) (fun c_12 => ?_) (fun c_12 => ?_)
        · have tc_12 := q_ge c_12
          refine lv_iload_n hx hb dX9_knot_87 rfl (lv_at hl 6 rfl) ?_
          refine lv_if_ne (tgt := 96) hx hb dX9_knot_88 (by decide) (fun c_13 => ?_) (fun c_13 => ?_)
          · have tc_13 := q_ne c_13
            refine lv_iload_n hx hb dX9_knot_96 rfl (lv_at hl 6 rfl) (lv_iconst (v := 1) hx hb dX9_knot_97 (by decide) ?_)
            refine lv_icmp_ne (tgt := 105) hx hb dX9_knot_98 (by decide) (fun c_14 => ?_) (fun c_14 => ?_)
            · have tc_14 := q_ne c_14
              refine lv_iload_n hx hb dX9_knot_105 rfl (lv_at hl 6 rfl) (lv_iconst (v := 2) hx hb dX9_knot_106 (by decide) ?_)
              refine lv_icmp_ne (tgt := 115) hx hb dX9_knot_107 (by decide) (fun c_15 => ?_) (fun c_15 => ?_)
              · have tc_15 := q_ne c_15
                refine lv_iconst (v := (-1)) hx hb dX9_knot_115 (by decide) ?_
                exact q_iret hx hb hr hlocks hS11 dX9_knot_116 ⟨hP11, za_r_knot⟩
              · have tc_15 := q_eqN c_15
                refine lv_iload hx hb dX9_knot_110 (lv_at hl 1 rfl) (lv_goto (tgt := 116) hx hb dX9_knot_112 (by decide) ?_)
                exact q_iret hx hb hr hlocks hS11 dX9_knot_116 ⟨hP11, za_r_knot⟩
            · have tc_14 := q_eqN c_14
              refine lv_iload_n hx hb dX9_knot_101 rfl (lv_at hl 3 rfl) (lv_goto (tgt := 116) hx hb dX9_knot_102 (by decide) ?_)
              exact q_iret hx hb hr hlocks hS11 dX9_knot_116 ⟨hP11, za_r_knot⟩
          · have tc_13 := q_eqN c_13
            refine lv_iload hx hb dX9_knot_91 (lv_at hl 2 rfl) (lv_goto (tgt := 116) hx hb dX9_knot_93 (by decide) ?_)
            exact q_iret hx hb hr hlocks hS11 dX9_knot_116 ⟨hP11, za_r_knot⟩
        · have tc_12 := q_ltN c_12
          refine lv_iload hx hb dX9_knot_54 (lv_at hl 1 rfl) (lv_iload_n hx hb dX9_knot_56 rfl (lv_at hl 3 rfl) (lv_iload hx hb dX9_knot_57 (lv_at hl 0 rfl) (lv_ishr hx hb dX9_knot_59 (lv_topi fun v_16 ev_16 => lv_iconst (v := 1) hx hb dX9_knot_60 (by decide) (lv_iand hx hb dX9_knot_61 (lv_topi fun v_17 ev_17 => ?_))))))
          have tv_17 := q_and (k := 1) ev_17 (by decide) (by decide)
          refine lv_iload_n hx hb dX9_knot_62 rfl (lv_at hl 3 rfl) (lv_iload hx hb dX9_knot_63 (lv_at hl 0 rfl) (lv_iconst (v := 1) hx hb dX9_knot_65 (by decide) (lv_isub hx hb dX9_knot_66 (lv_topi fun v_18 ev_18 => ?_))))
          have tv_18 := q_sub ev_18 (by omega) (by omega)
          refine lv_ishr hx hb dX9_knot_67 (lv_topi fun v_19 ev_19 => lv_iconst (v := 1) hx hb dX9_knot_68 (by decide) (lv_iand hx hb dX9_knot_69 (lv_topi fun v_20 ev_20 => ?_)))
          have tv_20 := q_and (k := 1) ev_20 (by decide) (by decide)
          refine lv_icmp_ne (tgt := 77) hx hb dX9_knot_70 (by decide) (fun c_21 => ?_) (fun c_21 => ?_)
          · have tc_21 := q_ne c_21
            refine lv_iconst (v := 0) hx hb dX9_knot_77 (by decide) (lv_iadd hx hb dX9_knot_78 (lv_topi fun v_22 ev_22 => lv_istore (lv' := [(5, .int v_22), (6, .int i), (4, .int v_10), (3, .int v_7), (0, .ref p0), (1, .int a1), (2, .int a2)]) hx hb dX9_knot_79 hl (by decide) rfl (fun ls hl => ?_)))
            obtain ⟨v_23, ev_23⟩ : ∃ y : Int32, y = i + 1 := ⟨_, rfl⟩
            have tv_23 := q_add ev_23 (by omega) (by omega)
            refine lv_iinc (v := v_23) (lv' := [(6, .int v_23), (5, .int v_22), (4, .int v_10), (3, .int v_7), (0, .ref p0), (1, .int a1), (2, .int a2)]) hx hb dX9_knot_81 hl (k := 1) rfl (by rw [ev_23]; rfl) (by decide) rfl (fun ls hl => ?_)
            refine lv_goto (tgt := 47) hx hb dX9_knot_84 (by decide) ?_
            exact ih47 (fu47 - 1) (by omega) v_22 v_23 _ _ _ (by omega) (by omega) hP11 hS11 (lv_sub hl [0, 1, 2, 3, 4, 5, 6] rfl)
          · have tc_21 := q_eqN c_21
            refine lv_iconst (v := 1) hx hb dX9_knot_73 (by decide) (lv_goto (tgt := 78) hx hb dX9_knot_74 (by decide) (lv_iadd hx hb dX9_knot_78 (lv_topi fun v_24 ev_24 => lv_istore (lv' := [(5, .int v_24), (6, .int i), (4, .int v_10), (3, .int v_7), (0, .ref p0), (1, .int a1), (2, .int a2)]) hx hb dX9_knot_79 hl (by decide) rfl (fun ls hl => ?_))))
            obtain ⟨v_25, ev_25⟩ : ∃ y : Int32, y = i + 1 := ⟨_, rfl⟩
            have tv_25 := q_add ev_25 (by omega) (by omega)
            refine lv_iinc (v := v_25) (lv' := [(6, .int v_25), (5, .int v_24), (4, .int v_10), (3, .int v_7), (0, .ref p0), (1, .int a1), (2, .int a2)]) hx hb dX9_knot_81 hl (k := 1) rfl (by rw [ev_25]; rfl) (by decide) rfl (fun ls hl => ?_)
            refine lv_goto (tgt := 47) hx hb dX9_knot_84 (by decide) ?_
            exact ih47 (fu47 - 1) (by omega) v_24 v_25 _ _ _ (by omega) (by omega) hP11 hS11 (lv_sub hl [0, 1, 2, 3, 4, 5, 6] rfl)
    exact key47 12 0 1 _ _ _ (by omega) (by omega) hP2 hS2 (lv_sub hl [0, 1, 2, 3, 4, 5, 6] rfl)
  · refine lv_if_ne (tgt := 10) hx hb dX9_knot_5 (by decide) (fun c_26 => absurd c_26 (by decide)) (fun c_26 => ?_)
    refine lv_iconst (v := (-1)) hx hb dX9_knot_8 (by decide) ?_
    exact q_iret hx hb hr hlocks hS2 dX9_knot_9 ⟨hP2, za_r_knot⟩
def zo_r_wouldSlip : List Cond := [.code yX9_wouldSlip cX9_wouldSlip 6 (some .boolean), .fieldLink RX9 291 "BowWalkModel" "bank" "I", .fieldLink RX9 83 "BowWalkModel" "steps" "[I", .fieldLink RX9 86 "BowWalkModel" "strikes" "[I", .fieldLink RX9 421 "BowWalkModel" "lessStrike" "I", .fieldLink RX9 376 "BowWalkModel" "nowStrike" "I", .fieldLink RX9 89 "BowWalkModel" "swings" "[I", .fieldLink RX9 424 "BowWalkModel" "lessSwing" "I", .fieldLink RX9 379 "BowWalkModel" "nowSwing" "I", .fieldLink RX9 396 "BowWalkModel" "bMany" "I", .methodLink RX9 411 yX9_pullOf, .instanceMethod yX9_pullOf, .selects RX9 yX9_pullOf yX9_pullOf, .initialized RX9, .methodLink RX9 414 yX9_rub, .instanceMethod yX9_rub, .selects RX9 yX9_rub yX9_rub]
def zw_r_wouldSlip : List Cond := zo_r_wouldSlip ++ (zw_r_pullOf ++ (zw_r_rub ++ (wsX90 ++ [])))
theorem gz_r_wouldSlip : zw_r_wouldSlip.all goodWord = true := p1_ga (by decide +kernel) (p1_ga gz_r_pullOf (p1_ga gz_r_rub (p1_ga gk_X9 p1_g0)))
theorem iz_r_wouldSlip : ∀ w ∈ zw_r_wouldSlip, w ∈ lw_tbl := p1_ia (p1_all [1553, 1080, 1068, 1069, 1096, 1093, 1070, 1095, 1094, 1089, 1477, 1479, 79, 116, 1496, 1498, 83] (by decide +kernel)) (p1_ia iz_r_pullOf (p1_ia iz_r_rub (p1_ia ik_X9 p1_i0)))
def zW_r_wouldSlip (p0 : Nat) (f_p0 : List Value) (p0_bLong : Nat) (c_p0_bLong : ClassId) (b_p0_bLong : Nat → Int32) (p0_bTight : Nat) (c_p0_bTight : ClassId) (b_p0_bTight : Nat → Int32) (p0_code : Nat) (c_p0_code : ClassId) (b_p0_code : Nat → Int32) (p0_codeNumber : Nat) (c_p0_codeNumber : ClassId) (b_p0_codeNumber : Nat → Int32) (p0_laws : Nat) (c_p0_laws : ClassId) (b_p0_laws : Nat → Int32) (p0_pile : Nat) (c_p0_pile : ClassId) (b_p0_pile : Nat → Int32) (p0_rFrom : Nat) (c_p0_rFrom : ClassId) (b_p0_rFrom : Nat → Int32) (p0_rTo : Nat) (c_p0_rTo : ClassId) (b_p0_rTo : Nat → Int32) (p0_steps : Nat) (c_p0_steps : ClassId) (b_p0_steps : Nat → Int32) (p0_strikes : Nat) (c_p0_strikes : ClassId) (b_p0_strikes : Nat → Int32) (p0_swings : Nat) (c_p0_swings : ClassId) (b_p0_swings : Nat → Int32) (p0_walks : Nat) (c_p0_walks : ClassId) (b_p0_walks : Nat → Int32) : va_W := [(p0, .inr (8, f_p0)), (p0_bLong, .inl (c_p0_bLong, 2, .inl b_p0_bLong)), (p0_bTight, .inl (c_p0_bTight, 12, .inl b_p0_bTight)), (p0_code, .inl (c_p0_code, 1800, .inl b_p0_code)), (p0_codeNumber, .inl (c_p0_codeNumber, 1800, .inl b_p0_codeNumber)), (p0_laws, .inl (c_p0_laws, 2, .inl b_p0_laws)), (p0_pile, .inl (c_p0_pile, 90, .inl b_p0_pile)), (p0_rFrom, .inl (c_p0_rFrom, 12, .inl b_p0_rFrom)), (p0_rTo, .inl (c_p0_rTo, 12, .inl b_p0_rTo)), (p0_steps, .inl (c_p0_steps, 8, .inl b_p0_steps)), (p0_strikes, .inl (c_p0_strikes, 64, .inl b_p0_strikes)), (p0_swings, .inl (c_p0_swings, 64, .inl b_p0_swings)), (p0_walks, .inl (c_p0_walks, 2, .inl b_p0_walks))]
def zT_r_wouldSlip (c_p0_bLong : ClassId) (c_p0_bTight : ClassId) (c_p0_code : ClassId) (c_p0_codeNumber : ClassId) (c_p0_laws : ClassId) (c_p0_pile : ClassId) (c_p0_rFrom : ClassId) (c_p0_rTo : ClassId) (c_p0_steps : ClassId) (c_p0_strikes : ClassId) (c_p0_swings : ClassId) (c_p0_walks : ClassId) : List (ClassId × FieldType) := [(c_p0_bLong, .int), (c_p0_bTight, .int), (c_p0_code, .int), (c_p0_codeNumber, .int), (c_p0_laws, .int), (c_p0_pile, .int), (c_p0_rFrom, .int), (c_p0_rTo, .int), (c_p0_steps, .int), (c_p0_strikes, .int), (c_p0_swings, .int), (c_p0_walks, .int)]
def zA_r_wouldSlip (p0 : Nat) (p0_bLong : Nat) (p0_bTight : Nat) (p0_code : Nat) (p0_codeNumber : Nat) (p0_laws : Nat) (p0_pile : Nat) (p0_rFrom : Nat) (p0_rTo : Nat) (p0_steps : Nat) (p0_strikes : Nat) (p0_swings : Nat) (p0_walks : Nat) : List Nat := [p0, p0_bLong, p0_bTight, p0_code, p0_codeNumber, p0_laws, p0_pile, p0_rFrom, p0_rTo, p0_steps, p0_strikes, p0_swings, p0_walks]
theorem za_r_wouldSlip {p0 : Nat} {f_p0 : List Value} {p0_bLong : Nat} {c_p0_bLong : ClassId} {b_p0_bLong : Nat → Int32} {p0_bTight : Nat} {c_p0_bTight : ClassId} {b_p0_bTight : Nat → Int32} {p0_code : Nat} {c_p0_code : ClassId} {b_p0_code : Nat → Int32} {p0_codeNumber : Nat} {c_p0_codeNumber : ClassId} {b_p0_codeNumber : Nat → Int32} {p0_laws : Nat} {c_p0_laws : ClassId} {b_p0_laws : Nat → Int32} {p0_pile : Nat} {c_p0_pile : ClassId} {b_p0_pile : Nat → Int32} {p0_rFrom : Nat} {c_p0_rFrom : ClassId} {b_p0_rFrom : Nat → Int32} {p0_rTo : Nat} {c_p0_rTo : ClassId} {b_p0_rTo : Nat → Int32} {p0_steps : Nat} {c_p0_steps : ClassId} {b_p0_steps : Nat → Int32} {p0_strikes : Nat} {c_p0_strikes : ClassId} {b_p0_strikes : Nat → Int32} {p0_swings : Nat} {c_p0_swings : ClassId} {b_p0_swings : Nat → Int32} {p0_walks : Nat} {c_p0_walks : ClassId} {b_p0_walks : Nat → Int32} : (zW_r_wouldSlip p0 f_p0 p0_bLong c_p0_bLong b_p0_bLong p0_bTight c_p0_bTight b_p0_bTight p0_code c_p0_code b_p0_code p0_codeNumber c_p0_codeNumber b_p0_codeNumber p0_laws c_p0_laws b_p0_laws p0_pile c_p0_pile b_p0_pile p0_rFrom c_p0_rFrom b_p0_rFrom p0_rTo c_p0_rTo b_p0_rTo p0_steps c_p0_steps b_p0_steps p0_strikes c_p0_strikes b_p0_strikes p0_swings c_p0_swings b_p0_swings p0_walks c_p0_walks b_p0_walks).map Prod.fst = (zA_r_wouldSlip p0 p0_bLong p0_bTight p0_code p0_codeNumber p0_laws p0_pile p0_rFrom p0_rTo p0_steps p0_strikes p0_swings p0_walks) := rfl
def zG_r_wouldSlip (p0 : Nat) (f_p0 : List Value) (p0_bLong : Nat) (c_p0_bLong : ClassId) (b_p0_bLong : Nat → Int32) (p0_bTight : Nat) (c_p0_bTight : ClassId) (b_p0_bTight : Nat → Int32) (p0_code : Nat) (c_p0_code : ClassId) (b_p0_code : Nat → Int32) (p0_codeNumber : Nat) (c_p0_codeNumber : ClassId) (b_p0_codeNumber : Nat → Int32) (p0_laws : Nat) (c_p0_laws : ClassId) (b_p0_laws : Nat → Int32) (p0_pile : Nat) (c_p0_pile : ClassId) (b_p0_pile : Nat → Int32) (p0_rFrom : Nat) (c_p0_rFrom : ClassId) (b_p0_rFrom : Nat → Int32) (p0_rTo : Nat) (c_p0_rTo : ClassId) (b_p0_rTo : Nat → Int32) (p0_steps : Nat) (c_p0_steps : ClassId) (b_p0_steps : Nat → Int32) (p0_strikes : Nat) (c_p0_strikes : ClassId) (b_p0_strikes : Nat → Int32) (p0_swings : Nat) (c_p0_swings : ClassId) (b_p0_swings : Nat → Int32) (p0_walks : Nat) (c_p0_walks : ClassId) (b_p0_walks : Nat → Int32) (a1 : Int32) (a2 : Int32) (a3 : Int32) (bm : Int32) (bk : Int32) (r : Int32) (X : va_W → Prop) : Prop := ∃ (y_p0 : List Value) (y_p0_pile : Nat → Int32), ((r = 1 ∧ (True)) ∨ (r = 0 ∧ (True))) ∧ OKX9 y_p0 ∧ q_fr [56, 57] f_p0 y_p0 ∧ X (zW_r_wouldSlip p0 y_p0 p0_bLong c_p0_bLong b_p0_bLong p0_bTight c_p0_bTight b_p0_bTight p0_code c_p0_code b_p0_code p0_codeNumber c_p0_codeNumber b_p0_codeNumber p0_laws c_p0_laws b_p0_laws p0_pile c_p0_pile y_p0_pile p0_rFrom c_p0_rFrom b_p0_rFrom p0_rTo c_p0_rTo b_p0_rTo p0_steps c_p0_steps b_p0_steps p0_strikes c_p0_strikes b_p0_strikes p0_swings c_p0_swings b_p0_swings p0_walks c_p0_walks b_p0_walks)
theorem zm_r_wouldSlip {p0 : Nat} {f_p0 : List Value} {p0_bLong : Nat} {c_p0_bLong : ClassId} {b_p0_bLong : Nat → Int32} {p0_bTight : Nat} {c_p0_bTight : ClassId} {b_p0_bTight : Nat → Int32} {p0_code : Nat} {c_p0_code : ClassId} {b_p0_code : Nat → Int32} {p0_codeNumber : Nat} {c_p0_codeNumber : ClassId} {b_p0_codeNumber : Nat → Int32} {p0_laws : Nat} {c_p0_laws : ClassId} {b_p0_laws : Nat → Int32} {p0_pile : Nat} {c_p0_pile : ClassId} {b_p0_pile : Nat → Int32} {p0_rFrom : Nat} {c_p0_rFrom : ClassId} {b_p0_rFrom : Nat → Int32} {p0_rTo : Nat} {c_p0_rTo : ClassId} {b_p0_rTo : Nat → Int32} {p0_steps : Nat} {c_p0_steps : ClassId} {b_p0_steps : Nat → Int32} {p0_strikes : Nat} {c_p0_strikes : ClassId} {b_p0_strikes : Nat → Int32} {p0_swings : Nat} {c_p0_swings : ClassId} {b_p0_swings : Nat → Int32} {p0_walks : Nat} {c_p0_walks : ClassId} {b_p0_walks : Nat → Int32} {a1 : Int32} {a2 : Int32} {a3 : Int32} {bm : Int32} {bk : Int32} : ∀ (r : Int32), ∀ X Y : va_W → Prop, (∀ w, X w → Y w) → zG_r_wouldSlip p0 f_p0 p0_bLong c_p0_bLong b_p0_bLong p0_bTight c_p0_bTight b_p0_bTight p0_code c_p0_code b_p0_code p0_codeNumber c_p0_codeNumber b_p0_codeNumber p0_laws c_p0_laws b_p0_laws p0_pile c_p0_pile b_p0_pile p0_rFrom c_p0_rFrom b_p0_rFrom p0_rTo c_p0_rTo b_p0_rTo p0_steps c_p0_steps b_p0_steps p0_strikes c_p0_strikes b_p0_strikes p0_swings c_p0_swings b_p0_swings p0_walks c_p0_walks b_p0_walks a1 a2 a3 bm bk r X → zG_r_wouldSlip p0 f_p0 p0_bLong c_p0_bLong b_p0_bLong p0_bTight c_p0_bTight b_p0_bTight p0_code c_p0_code b_p0_code p0_codeNumber c_p0_codeNumber b_p0_codeNumber p0_laws c_p0_laws b_p0_laws p0_pile c_p0_pile b_p0_pile p0_rFrom c_p0_rFrom b_p0_rFrom p0_rTo c_p0_rTo b_p0_rTo p0_steps c_p0_steps b_p0_steps p0_strikes c_p0_strikes b_p0_strikes p0_swings c_p0_swings b_p0_swings p0_walks c_p0_walks b_p0_walks a1 a2 a3 bm bk r Y := fun r X Y h h1 => by obtain ⟨x0, x1, x2, x3, x4, hx⟩ := h1; exact ⟨x0, x1, x2, x3, x4, h _ hx⟩
set_option maxHeartbeats 4000000 in
set_option maxRecDepth 100000 in
theorem r_wouldSlip (l : Launch) (dC : Nat → ClassId) (dI : Nat → Nat → Nat) (sz : Nat) (p0 : Nat) (f_p0 : List Value) (p0_bLong : Nat) (c_p0_bLong : ClassId) (b_p0_bLong : Nat → Int32) (p0_bTight : Nat) (c_p0_bTight : ClassId) (b_p0_bTight : Nat → Int32) (p0_code : Nat) (c_p0_code : ClassId) (b_p0_code : Nat → Int32) (p0_codeNumber : Nat) (c_p0_codeNumber : ClassId) (b_p0_codeNumber : Nat → Int32) (p0_laws : Nat) (c_p0_laws : ClassId) (b_p0_laws : Nat → Int32) (p0_pile : Nat) (c_p0_pile : ClassId) (b_p0_pile : Nat → Int32) (p0_rFrom : Nat) (c_p0_rFrom : ClassId) (b_p0_rFrom : Nat → Int32) (p0_rTo : Nat) (c_p0_rTo : ClassId) (b_p0_rTo : Nat → Int32) (p0_steps : Nat) (c_p0_steps : ClassId) (b_p0_steps : Nat → Int32) (p0_strikes : Nat) (c_p0_strikes : ClassId) (b_p0_strikes : Nat → Int32) (p0_swings : Nat) (c_p0_swings : ClassId) (b_p0_swings : Nat → Int32) (p0_walks : Nat) (c_p0_walks : ClassId) (b_p0_walks : Nat → Int32) (a1 : Int32) (a2 : Int32) (a3 : Int32) (bm : Int32) (bk : Int32) (ho_p0 : OKX9 f_p0) (fr_p0_13 : q_rf f_p0 13 p0_walks) (fr_p0_14 : q_rf f_p0 14 p0_laws) (fr_p0_31 : q_rf f_p0 31 p0_steps) (fr_p0_32 : q_rf f_p0 32 p0_strikes) (fr_p0_33 : q_rf f_p0 33 p0_swings) (fr_p0_36 : q_rf f_p0 36 p0_rFrom) (fr_p0_37 : q_rf f_p0 37 p0_rTo) (fr_p0_38 : q_rf f_p0 38 p0_code) (fr_p0_39 : q_rf f_p0 39 p0_codeNumber) (fr_p0_42 : q_rf f_p0 42 p0_pile) (fr_p0_49 : q_rf f_p0 49 p0_bTight) (fr_p0_50 : q_rf f_p0 50 p0_bLong) (hr_p0_laws : q_rg 2 (0) 3 b_p0_laws) (hr_p0_rFrom : q_rg 12 (0) 1800 b_p0_rFrom) (hr_p0_rTo : q_rg 12 (0) 1800 b_p0_rTo) (hr_p0_steps : q_rg 8 (0) 8 b_p0_steps) (hr_p0_walks : q_rg 2 (0) 4 b_p0_walks) (pf_bm : q_if f_p0 52 bm) (pf_bk : q_if f_p0 43 bk) (ta1 : (0) ≤ a1.toInt ∧ a1.toInt ≤ 3) (ta2 : (0) ≤ a2.toInt ∧ a2.toInt ≤ 2147483647) (hWB : q_WB bk b_p0_walks b_p0_steps) (hLB : q_LB bk b_p0_laws b_p0_rFrom b_p0_rTo b_p0_code) (hw : 0 ≤ a1.toInt ∧ a1.toInt < (b_p0_walks bk.toNatClampNeg).toInt) (hl : 0 ≤ a3.toInt ∧ ((b_p0_laws bk.toNatClampNeg).toInt = 0 ∨ a3.toInt < (b_p0_laws bk.toNatClampNeg).toInt)) (hm : 1 ≤ bm.toInt) : Met l yX9_wouldSlip zw_r_wouldSlip ({ frames := 4, cells := 0, slots := 0, locals := 91 }) (va_Pc [.ref p0, .int a1, .int a2, .int a3] (q_pre (dC, dI) (zW_r_wouldSlip p0 f_p0 p0_bLong c_p0_bLong b_p0_bLong p0_bTight c_p0_bTight b_p0_bTight p0_code c_p0_code b_p0_code p0_codeNumber c_p0_codeNumber b_p0_codeNumber p0_laws c_p0_laws b_p0_laws p0_pile c_p0_pile b_p0_pile p0_rFrom c_p0_rFrom b_p0_rFrom p0_rTo c_p0_rTo b_p0_rTo p0_steps c_p0_steps b_p0_steps p0_strikes c_p0_strikes b_p0_strikes p0_swings c_p0_swings b_p0_swings p0_walks c_p0_walks b_p0_walks) (zT_r_wouldSlip c_p0_bLong c_p0_bTight c_p0_code c_p0_codeNumber c_p0_laws c_p0_pile c_p0_rFrom c_p0_rTo c_p0_steps c_p0_strikes c_p0_swings c_p0_walks) q_E0 sz)) (q_Qi (dC, dI) (zG_r_wouldSlip p0 f_p0 p0_bLong c_p0_bLong b_p0_bLong p0_bTight c_p0_bTight b_p0_bTight p0_code c_p0_code b_p0_code p0_codeNumber c_p0_codeNumber b_p0_codeNumber p0_laws c_p0_laws b_p0_laws p0_pile c_p0_pile b_p0_pile p0_rFrom c_p0_rFrom b_p0_rFrom p0_rTo c_p0_rTo b_p0_rTo p0_steps c_p0_steps b_p0_steps p0_strikes c_p0_strikes b_p0_strikes p0_swings c_p0_swings b_p0_swings p0_walks c_p0_walks b_p0_walks a1 a2 a3 bm bk) (zA_r_wouldSlip p0 p0_bLong p0_bTight p0_code p0_codeNumber p0_laws p0_pile p0_rFrom p0_rTo p0_steps p0_strikes p0_swings p0_walks) (va_A (zW_r_wouldSlip p0 f_p0 p0_bLong c_p0_bLong b_p0_bLong p0_bTight c_p0_bTight b_p0_bTight p0_code c_p0_code b_p0_code p0_codeNumber c_p0_codeNumber b_p0_codeNumber p0_laws c_p0_laws b_p0_laws p0_pile c_p0_pile b_p0_pile p0_rFrom c_p0_rFrom b_p0_rFrom p0_rTo c_p0_rTo b_p0_rTo p0_steps c_p0_steps b_p0_steps p0_strikes c_p0_strikes b_p0_strikes p0_swings c_p0_swings b_p0_swings p0_walks c_p0_walks b_p0_walks) sz)) 0 0 (va_A (zW_r_wouldSlip p0 f_p0 p0_bLong c_p0_bLong b_p0_bLong p0_bTight c_p0_bTight b_p0_bTight p0_code c_p0_code b_p0_code p0_codeNumber c_p0_codeNumber b_p0_codeNumber p0_laws c_p0_laws b_p0_laws p0_pile c_p0_pile b_p0_pile p0_rFrom c_p0_rFrom b_p0_rFrom p0_rTo c_p0_rTo b_p0_rTo p0_steps c_p0_steps b_p0_steps p0_strikes c_p0_strikes b_p0_strikes p0_swings c_p0_swings b_p0_swings p0_walks c_p0_walks b_p0_walks) sz) := by
  refine Met.ofW (cc := cX9_wouldSlip) (maxL := 6) (ret := (some .boolean)) (by decide) rfl ?_
  intro p e s m args below meth c s₁ B hml hv
  obtain ⟨rfl, hsz, hP, hK, hD0, hE⟩ := hv
  have hx := B.exec
  have hb := B.bytes
  have hr := B.returns
  have hts := atoms_spec (ws := zw_r_wouldSlip) B.pre
  have hown : s.vm.findClass RX9 = some m.cls := findClass_of_methodNamed B.named
  have hlocks := B.notSynchronized
  subst hsz
  have hD := hD0.self (sz := s.heap.size)
  generalize hAe : va_A (zW_r_wouldSlip p0 f_p0 p0_bLong c_p0_bLong b_p0_bLong p0_bTight c_p0_bTight b_p0_bTight p0_code c_p0_code b_p0_code p0_codeNumber c_p0_codeNumber b_p0_codeNumber p0_laws c_p0_laws b_p0_laws p0_pile c_p0_pile b_p0_pile p0_rFrom c_p0_rFrom b_p0_rFrom p0_rTo c_p0_rTo b_p0_rTo p0_steps c_p0_steps b_p0_steps p0_strikes c_p0_strikes b_p0_strikes p0_swings c_p0_swings b_p0_swings p0_walks c_p0_walks b_p0_walks) s.heap.size = A at hD hE ⊢
  have hA : ∀ q : Nat, s.heap.size ≤ q → A q := fun q h => by rw [← hAe]; exact Or.inr h
  have hDa : q_DA A (zA_r_wouldSlip p0 p0_bLong p0_bTight p0_code p0_codeNumber p0_laws p0_pile p0_rFrom p0_rTo p0_steps p0_strikes p0_swings p0_walks) := q_DA.mk hD za_r_wouldSlip
  clear hAe hD0 hD
  have hS : va_S A s.heap s.heap [] := va_S.rf
  have m_0 : (.fieldLink RX9 291 "BowWalkModel" "bank" "I" : Cond) ∈ zw_r_wouldSlip := List.mem_append_left _ (List.mem_of_getElem? (i := 1) rfl)
  have k_0 := hts _ m_0
  have m_1 : (.fieldLink RX9 83 "BowWalkModel" "steps" "[I" : Cond) ∈ zw_r_wouldSlip := List.mem_append_left _ (List.mem_of_getElem? (i := 2) rfl)
  have k_1 := hts _ m_1
  have m_2 : (.fieldLink RX9 86 "BowWalkModel" "strikes" "[I" : Cond) ∈ zw_r_wouldSlip := List.mem_append_left _ (List.mem_of_getElem? (i := 3) rfl)
  have k_2 := hts _ m_2
  have m_3 : (.fieldLink RX9 421 "BowWalkModel" "lessStrike" "I" : Cond) ∈ zw_r_wouldSlip := List.mem_append_left _ (List.mem_of_getElem? (i := 4) rfl)
  have k_3 := hts _ m_3
  have m_4 : (.fieldLink RX9 376 "BowWalkModel" "nowStrike" "I" : Cond) ∈ zw_r_wouldSlip := List.mem_append_left _ (List.mem_of_getElem? (i := 5) rfl)
  have k_4 := hts _ m_4
  have m_5 : (.fieldLink RX9 89 "BowWalkModel" "swings" "[I" : Cond) ∈ zw_r_wouldSlip := List.mem_append_left _ (List.mem_of_getElem? (i := 6) rfl)
  have k_5 := hts _ m_5
  have m_6 : (.fieldLink RX9 424 "BowWalkModel" "lessSwing" "I" : Cond) ∈ zw_r_wouldSlip := List.mem_append_left _ (List.mem_of_getElem? (i := 7) rfl)
  have k_6 := hts _ m_6
  have m_7 : (.fieldLink RX9 379 "BowWalkModel" "nowSwing" "I" : Cond) ∈ zw_r_wouldSlip := List.mem_append_left _ (List.mem_of_getElem? (i := 8) rfl)
  have k_7 := hts _ m_7
  have m_8 : (.fieldLink RX9 396 "BowWalkModel" "bMany" "I" : Cond) ∈ zw_r_wouldSlip := List.mem_append_left _ (List.mem_of_getElem? (i := 9) rfl)
  have k_8 := hts _ m_8
  have m_9 : (.methodLink RX9 411 yX9_pullOf : Cond) ∈ zw_r_wouldSlip := List.mem_append_left _ (List.mem_of_getElem? (i := 10) rfl)
  have k_9 := hts _ m_9
  have m_10 : (.instanceMethod yX9_pullOf : Cond) ∈ zw_r_wouldSlip := List.mem_append_left _ (List.mem_of_getElem? (i := 11) rfl)
  have k_10 := hts _ m_10
  have m_11 : (.selects RX9 yX9_pullOf yX9_pullOf : Cond) ∈ zw_r_wouldSlip := List.mem_append_left _ (List.mem_of_getElem? (i := 12) rfl)
  have k_11 := hts _ m_11
  have m_12 : (.initialized RX9 : Cond) ∈ zw_r_wouldSlip := List.mem_append_left _ (List.mem_of_getElem? (i := 13) rfl)
  have k_12 := hts _ m_12
  have m_13 : (.methodLink RX9 414 yX9_rub : Cond) ∈ zw_r_wouldSlip := List.mem_append_left _ (List.mem_of_getElem? (i := 14) rfl)
  have k_13 := hts _ m_13
  have m_14 : (.instanceMethod yX9_rub : Cond) ∈ zw_r_wouldSlip := List.mem_append_left _ (List.mem_of_getElem? (i := 15) rfl)
  have k_14 := hts _ m_14
  have m_15 : (.selects RX9 yX9_rub yX9_rub : Cond) ∈ zw_r_wouldSlip := List.mem_append_left _ (List.mem_of_getElem? (i := 16) rfl)
  have k_15 := hts _ m_15
  have g_r_pullOf : ∀ w ∈ zw_r_pullOf, w ∈ zw_r_wouldSlip := fun w h => List.mem_append_right _ (List.mem_append_left _ h)
  have g_r_rub : ∀ w ∈ zw_r_rub, w ∈ zw_r_wouldSlip := fun w h => List.mem_append_right _ (List.mem_append_right _ (List.mem_append_left _ h))
  have i_X9 : ∀ w ∈ u_ws RX9 TX9 81, w ∈ zw_r_wouldSlip := fun w h => List.mem_append_right _ (List.mem_append_right _ (List.mem_append_right _ (List.mem_append_left _ h)))
  have lt_0 : (0 : Int32).toInt = 0 := by decide
  have lt_1 : (1 : Int32).toInt = 1 := by decide
  have lt_4 : (4 : Int32).toInt = 4 := by decide
  have lt_8 : (8 : Int32).toInt = 8 := by decide
  have hl := lv_entry ([.ref p0, .int a1, .int a2, .int a3]) (n := 6) (Nat.le_of_ble_eq_true rfl)
  rw [lg_entry_eq]
  generalize (lg_sl ([.ref p0, .int a1, .int a2, .int a3]) ++ List.replicate (6 - (lg_sl ([.ref p0, .int a1, .int a2, .int a3])).length) Slot.unset).toArray = ls at hl ⊢
  have hl : lv_has ls 6 [(0, .ref p0), (1, .int a1), (2, .int a2), (3, .int a3)] := hl
  have tbm := (OKX9_g52 ho_p0).use pf_bm
  have tbk := (OKX9_g43 ho_p0).use pf_bk
  have hwb := hr_p0_walks bk.toNatClampNeg (q_cl (q_in (by omega) (by omega)))
  have hlb := hr_p0_laws bk.toNatClampNeg (q_cl (q_in (by omega) (by omega)))
  refine lv_bipush (v := 8) hx hb dX9_wouldSlip_0 (by decide) (lv_iconst (v := 4) hx hb dX9_wouldSlip_2 (by decide) (lv_aload_n hx hb dX9_wouldSlip_3 rfl (lv_at hl 0 rfl) (qg_X9_43 hx hb hts i_X9 hown hK hP 0 rfl k_0 pf_bk dX9_wouldSlip_4 (lv_imul hx hb dX9_wouldSlip_7 (lv_topi fun v_1 ev_1 => ?_)))))
  have tv_1 := q_mulc (c := 4) ev_1 (by decide) (by omega) (by omega)
  refine lv_iload_n hx hb dX9_wouldSlip_8 rfl (lv_at hl 1 rfl) (lv_iadd hx hb dX9_wouldSlip_9 (lv_topi fun v_2 ev_2 => ?_))
  have tv_2 := q_add ev_2 (by omega) (by omega)
  refine lv_imul hx hb dX9_wouldSlip_10 (lv_topi fun v_3 ev_3 => ?_)
  have tv_3 := q_mulc (c := 8) ev_3 (by decide) (by omega) (by omega)
  refine lv_iload_n hx hb dX9_wouldSlip_11 rfl (lv_at hl 2 rfl) (lv_aload_n hx hb dX9_wouldSlip_12 rfl (lv_at hl 0 rfl) (qg_X9_31 hx hb hts i_X9 hown hK hP 0 rfl k_1 fr_p0_31 dX9_wouldSlip_13 (lv_iconst (v := 4) hx hb dX9_wouldSlip_16 (by decide) (lv_aload_n hx hb dX9_wouldSlip_17 rfl (lv_at hl 0 rfl) (qg_X9_43 hx hb hts i_X9 hown hK hP 0 rfl k_0 pf_bk dX9_wouldSlip_18 (lv_imul hx hb dX9_wouldSlip_21 (lv_topi fun v_4 ev_4 => ?_)))))))
  have tv_4 := q_mulc (c := 4) ev_4 (by decide) (by omega) (by omega)
  refine lv_iload_n hx hb dX9_wouldSlip_22 rfl (lv_at hl 1 rfl) (lv_iadd hx hb dX9_wouldSlip_23 (lv_topi fun v_5 ev_5 => ?_))
  have tv_5 := q_add ev_5 (by omega) (by omega)
  refine q_ild hx hb hK hP 9 8 rfl rfl (q_in (by omega) (by omega)) dX9_wouldSlip_24 (fun v_6 ev_6 => ?_)
  have tv_6 := q_rd' hr_p0_steps (q_in (by omega) (by omega)) ev_6
  have sv_6 : 1 ≤ v_6.toInt := by rw [ev_6]; exact hWB.at (a := a1) (by omega) (by omega) (by omega) (by omega)
  refine lv_irem hx hb dX9_wouldSlip_25 (q_n0 (by omega)) (lv_topi fun v_7 ev_7 => ?_)
  have tv_7 := q_remv ev_7 (by omega) (by omega)
  have rv_7 := tv_7.2
  clear tv_7
  refine lv_iadd hx hb dX9_wouldSlip_26 (lv_topi fun v_8 ev_8 => ?_)
  have tv_8 := q_add ev_8 (by omega) (by omega)
  refine lv_istore (lv' := [(4, .int v_8), (0, .ref p0), (1, .int a1), (2, .int a2), (3, .int a3)]) hx hb dX9_wouldSlip_27 hl (by decide) rfl (fun ls hl => ?_)
  refine lv_aload_n hx hb dX9_wouldSlip_29 rfl (lv_at hl 1 rfl) (lv_aload_n hx hb dX9_wouldSlip_30 rfl (lv_at hl 1 rfl) (qg_X9_32 hx hb hts i_X9 hown hK hP 0 rfl k_2 fr_p0_32 dX9_wouldSlip_31 (lv_iload hx hb dX9_wouldSlip_34 (lv_at hl 0 rfl) (q_ild hx hb hK hP 10 9 rfl rfl (q_in (by omega) (by omega)) dX9_wouldSlip_36 (fun v_9 ev_9 => ?_)))))
  refine lv_aload_n hx hb dX9_wouldSlip_37 rfl (lv_at hl 1 rfl) ?_
  obtain ⟨v_10, fv_10⟩ := OKX9_g59 ho_p0
  refine qg_X9_59 hx hb hts i_X9 hown hK hP 0 rfl k_3 fv_10 dX9_wouldSlip_38 ?_
  refine lv_icmp_le (tgt := 59) hx hb dX9_wouldSlip_41 (by decide) (fun c_11 => ?_) (fun c_11 => ?_)
  · have tc_11 := q_le c_11
    refine lv_iconst (v := 0) hx hb dX9_wouldSlip_59 (by decide) (qp_X9_56 hx hb hts i_X9 hown hK hP hDa za_r_wouldSlip hS 0 rfl k_4 (OKX9_l ho_p0) dX9_wouldSlip_60 (fun H12 lo12 fs12 efs12 (hP12 : va_P (dC, dI) vwCl (zW_r_wouldSlip p0 fs12 p0_bLong c_p0_bLong b_p0_bLong p0_bTight c_p0_bTight b_p0_bTight p0_code c_p0_code b_p0_code p0_codeNumber c_p0_codeNumber b_p0_codeNumber p0_laws c_p0_laws b_p0_laws p0_pile c_p0_pile b_p0_pile p0_rFrom c_p0_rFrom b_p0_rFrom p0_rTo c_p0_rTo b_p0_rTo p0_steps c_p0_steps b_p0_steps p0_strikes c_p0_strikes b_p0_strikes p0_swings c_p0_swings b_p0_swings p0_walks c_p0_walks b_p0_walks) H12) hS12 => ?_))
    have ho12 := OKX9_p56 ho_p0 efs12
    clear hP hS
    refine lv_aload_n hx hb dX9_wouldSlip_63 rfl (lv_at hl 1 rfl) (lv_aload_n hx hb dX9_wouldSlip_64 rfl (lv_at hl 1 rfl) (qg_X9_33 hx hb hts i_X9 hown hK hP12 0 rfl k_5 (q_sn efs12 (by decide) fr_p0_33) dX9_wouldSlip_65 (lv_iload hx hb dX9_wouldSlip_68 (lv_at hl 0 rfl) (q_ild hx hb hK hP12 11 10 rfl rfl (q_in (by omega) (by omega)) dX9_wouldSlip_70 (fun v_13 ev_13 => ?_)))))
    refine lv_aload_n hx hb dX9_wouldSlip_71 rfl (lv_at hl 1 rfl) ?_
    obtain ⟨v_14, fv_14⟩ := OKX9_g58 ho12
    refine qg_X9_58 hx hb hts i_X9 hown hK hP12 0 rfl k_6 fv_14 dX9_wouldSlip_72 ?_
    refine lv_icmp_le (tgt := 93) hx hb dX9_wouldSlip_75 (by decide) (fun c_15 => ?_) (fun c_15 => ?_)
    · have tc_15 := q_le c_15
      refine lv_iconst (v := 0) hx hb dX9_wouldSlip_93 (by decide) (qp_X9_57 hx hb hts i_X9 hown hK hP12 hDa za_r_wouldSlip hS12 0 rfl k_7 (OKX9_l ho12) dX9_wouldSlip_94 (fun H16 lo16 fs16 efs16 (hP16 : va_P (dC, dI) vwCl (zW_r_wouldSlip p0 fs16 p0_bLong c_p0_bLong b_p0_bLong p0_bTight c_p0_bTight b_p0_bTight p0_code c_p0_code b_p0_code p0_codeNumber c_p0_codeNumber b_p0_codeNumber p0_laws c_p0_laws b_p0_laws p0_pile c_p0_pile b_p0_pile p0_rFrom c_p0_rFrom b_p0_rFrom p0_rTo c_p0_rTo b_p0_rTo p0_steps c_p0_steps b_p0_steps p0_strikes c_p0_strikes b_p0_strikes p0_swings c_p0_swings b_p0_swings p0_walks c_p0_walks b_p0_walks) H16) hS16 => ?_))
      have ho16 := OKX9_p57 ho12 efs16
      clear hP12 hS12
      refine lv_aload_n hx hb dX9_wouldSlip_97 rfl (lv_at hl 1 rfl) (qg_X9_52 hx hb hts i_X9 hown hK hP16 0 rfl k_8 (q_sn efs16 (by decide) (q_sn efs12 (by decide) pf_bm)) dX9_wouldSlip_98 (lv_iconst (v := 1) hx hb dX9_wouldSlip_101 (by decide) (lv_isub hx hb dX9_wouldSlip_102 (lv_topi fun v_17 ev_17 => ?_))))
      have tv_17 := q_sub ev_17 (by omega) (by omega)
      refine lv_istore (lv' := [(5, .int v_17), (4, .int v_8), (0, .ref p0), (1, .int a1), (2, .int a2), (3, .int a3)]) hx hb dX9_wouldSlip_103 hl (by decide) rfl (fun ls hl => ?_)
      refine lv_aload_n hx hb dX9_wouldSlip_105 rfl (lv_at hl 2 rfl) (lv_iload_n hx hb dX9_wouldSlip_106 rfl (lv_at hl 5 rfl) (lv_iload hx hb dX9_wouldSlip_107 (lv_at hl 0 rfl) ?_))
      refine q_cVi (As := [.int a3, .int v_17]) (rest := []) q_w0 trivial hK hP16 hDa za_r_wouldSlip hS16 hA [0, 1, 2, 3, 4, 5, 6, 7, 8] [0, 1, 2, 3, 4, 5, 6, 7] (by decide +kernel) ⟨hx, hb, hml, hown, hts⟩ (r_pullOf l dC dI H16.size p0 fs16 p0_bLong c_p0_bLong b_p0_bLong p0_bTight c_p0_bTight b_p0_bTight p0_code c_p0_code b_p0_code p0_codeNumber c_p0_codeNumber b_p0_codeNumber p0_laws c_p0_laws b_p0_laws p0_pile c_p0_pile b_p0_pile p0_rFrom c_p0_rFrom b_p0_rFrom p0_rTo c_p0_rTo b_p0_rTo a3 v_17 bk ho16 ((q_sn efs16 (by decide) (q_sn efs12 (by decide) fr_p0_14))) ((q_sn efs16 (by decide) (q_sn efs12 (by decide) fr_p0_36))) ((q_sn efs16 (by decide) (q_sn efs12 (by decide) fr_p0_37))) ((q_sn efs16 (by decide) (q_sn efs12 (by decide) fr_p0_38))) ((q_sn efs16 (by decide) (q_sn efs12 (by decide) fr_p0_39))) ((q_sn efs16 (by decide) (q_sn efs12 (by decide) fr_p0_42))) ((q_sn efs16 (by decide) (q_sn efs12 (by decide) fr_p0_49))) ((q_sn efs16 (by decide) (q_sn efs12 (by decide) fr_p0_50))) hr_p0_laws hr_p0_rFrom hr_p0_rTo ((q_sn efs16 (by decide) (q_sn efs12 (by decide) pf_bk))) ((by omega)) hLB ((by omega))) rfl rfl (cwV 2 hts (p1_gV m_9 m_10 m_11 m_12 g_r_pullOf gz_r_pullOf) rfl rfl rfl (by decide +kernel) ⟨by decide, by decide⟩) (va_recv hK hP16 (ci := 8) (q0 := 0) rfl rfl) zm_r_pullOf rfl hl.1 rfl (Nat.le_of_ble_eq_true rfl) dX9_wouldSlip_109 ⟨by decide, by decide⟩ (fun r_18 H19 lo19 hG19 hS19 => ?_)
      obtain ⟨o_20, hQ19⟩ := hG19
      have hP19 : va_P (dC, dI) vwCl (zW_r_wouldSlip p0 fs16 p0_bLong c_p0_bLong b_p0_bLong p0_bTight c_p0_bTight b_p0_bTight p0_code c_p0_code b_p0_code p0_codeNumber c_p0_codeNumber b_p0_codeNumber p0_laws c_p0_laws b_p0_laws p0_pile c_p0_pile o_20 p0_rFrom c_p0_rFrom b_p0_rFrom p0_rTo c_p0_rTo b_p0_rTo p0_steps c_p0_steps b_p0_steps p0_strikes c_p0_strikes b_p0_strikes p0_swings c_p0_swings b_p0_swings p0_walks c_p0_walks b_p0_walks) H19 := hQ19
      clear hQ19 hP16 hS16
      refine lv_i2l hx hb dX9_wouldSlip_112 rfl (lv_topl fun w_21 ew_21 => lv_aload_n hx hb dX9_wouldSlip_113 rfl (lv_at hl 2 rfl) (lv_iload_n hx hb dX9_wouldSlip_114 rfl (lv_at hl 5 rfl) (lv_iload hx hb dX9_wouldSlip_115 (lv_at hl 0 rfl) ?_)))
      refine q_cVi (As := [.int a3, .int v_17]) (rest := [.long w_21]) q_w0 trivial hK hP19 hDa za_r_wouldSlip hS19 hA [0, 1, 2, 3, 4, 5, 6, 7, 8] [0, 1, 2, 3, 4, 5, 6, 7] (by decide +kernel) ⟨hx, hb, hml, hown, hts⟩ (r_rub l dC dI H19.size p0 fs16 p0_bLong c_p0_bLong b_p0_bLong p0_bTight c_p0_bTight b_p0_bTight p0_code c_p0_code b_p0_code p0_codeNumber c_p0_codeNumber b_p0_codeNumber p0_laws c_p0_laws b_p0_laws p0_pile c_p0_pile o_20 p0_rFrom c_p0_rFrom b_p0_rFrom p0_rTo c_p0_rTo b_p0_rTo a3 v_17 bk ho16 ((q_sn efs16 (by decide) (q_sn efs12 (by decide) fr_p0_14))) ((q_sn efs16 (by decide) (q_sn efs12 (by decide) fr_p0_36))) ((q_sn efs16 (by decide) (q_sn efs12 (by decide) fr_p0_37))) ((q_sn efs16 (by decide) (q_sn efs12 (by decide) fr_p0_38))) ((q_sn efs16 (by decide) (q_sn efs12 (by decide) fr_p0_39))) ((q_sn efs16 (by decide) (q_sn efs12 (by decide) fr_p0_42))) ((q_sn efs16 (by decide) (q_sn efs12 (by decide) fr_p0_49))) ((q_sn efs16 (by decide) (q_sn efs12 (by decide) fr_p0_50))) hr_p0_laws hr_p0_rFrom hr_p0_rTo ((q_sn efs16 (by decide) (q_sn efs12 (by decide) pf_bk))) ((by omega)) hLB ((by omega))) rfl rfl (cwV 2 hts (p1_gV m_13 m_14 m_15 m_12 g_r_rub gz_r_rub) rfl rfl rfl (by decide +kernel) ⟨by decide, by decide⟩) (va_recv hK hP19 (ci := 8) (q0 := 0) rfl rfl) zm_r_rub rfl hl.1 rfl (Nat.le_of_ble_eq_true rfl) dX9_wouldSlip_117 ⟨by decide, by decide⟩ (fun r_22 H23 lo23 hG23 hS23 => ?_)
      obtain ⟨o_24, hQ23⟩ := hG23
      have hP23 : va_P (dC, dI) vwCl (zW_r_wouldSlip p0 fs16 p0_bLong c_p0_bLong b_p0_bLong p0_bTight c_p0_bTight b_p0_bTight p0_code c_p0_code b_p0_code p0_codeNumber c_p0_codeNumber b_p0_codeNumber p0_laws c_p0_laws b_p0_laws p0_pile c_p0_pile o_24 p0_rFrom c_p0_rFrom b_p0_rFrom p0_rTo c_p0_rTo b_p0_rTo p0_steps c_p0_steps b_p0_steps p0_strikes c_p0_strikes b_p0_strikes p0_swings c_p0_swings b_p0_swings p0_walks c_p0_walks b_p0_walks) H23 := hQ23
      clear hQ23 hP19 hS19
      refine lv_i2l hx hb dX9_wouldSlip_120 rfl (lv_topl fun w_25 ew_25 => W.lcmp hx hb dX9_wouldSlip_121 (lv_topi fun v_26 ev_26 => ?_))
      refine lv_if_le (tgt := 129) hx hb dX9_wouldSlip_122 (by decide) (fun c_27 => ?_) (fun c_27 => ?_)
      · have tc_27 := q_le c_27
        refine lv_iconst (v := 0) hx hb dX9_wouldSlip_129 (by decide) ?_
        exact q_zret hx hb hr hlocks (by decide) hS23 dX9_wouldSlip_130 ⟨fs16, o_24, (Or.inr ⟨rfl, by first | trivial | omega⟩), ho16, ((q_fr.rf.st efs12 (by decide)).st efs16 (by decide)), hP23, za_r_wouldSlip⟩
      · have tc_27 := q_gtN c_27
        refine lv_iconst (v := 1) hx hb dX9_wouldSlip_125 (by decide) (lv_goto (tgt := 130) hx hb dX9_wouldSlip_126 (by decide) ?_)
        exact q_zret hx hb hr hlocks (by decide) hS23 dX9_wouldSlip_130 ⟨fs16, o_24, (Or.inl ⟨rfl, by first | trivial | omega⟩), ho16, ((q_fr.rf.st efs12 (by decide)).st efs16 (by decide)), hP23, za_r_wouldSlip⟩
    · have tc_15 := q_gtN c_15
      refine lv_aload_n hx hb dX9_wouldSlip_78 rfl (lv_at hl 1 rfl) (qg_X9_33 hx hb hts i_X9 hown hK hP12 0 rfl k_5 (q_sn efs12 (by decide) fr_p0_33) dX9_wouldSlip_79 (lv_iload hx hb dX9_wouldSlip_82 (lv_at hl 0 rfl) (q_ild hx hb hK hP12 11 10 rfl rfl (q_in (by omega) (by omega)) dX9_wouldSlip_84 (fun v_28 ev_28 => ?_))))
      refine lv_aload_n hx hb dX9_wouldSlip_85 rfl (lv_at hl 1 rfl) (qg_X9_58 hx hb hts i_X9 hown hK hP12 0 rfl k_6 fv_14 dX9_wouldSlip_86 (lv_isub hx hb dX9_wouldSlip_89 (lv_topi fun v_29 ev_29 => lv_goto (tgt := 94) hx hb dX9_wouldSlip_90 (by decide) (qp_X9_57 hx hb hts i_X9 hown hK hP12 hDa za_r_wouldSlip hS12 0 rfl k_7 (OKX9_l ho12) dX9_wouldSlip_94 (fun H30 lo30 fs30 efs30 (hP30 : va_P (dC, dI) vwCl (zW_r_wouldSlip p0 fs30 p0_bLong c_p0_bLong b_p0_bLong p0_bTight c_p0_bTight b_p0_bTight p0_code c_p0_code b_p0_code p0_codeNumber c_p0_codeNumber b_p0_codeNumber p0_laws c_p0_laws b_p0_laws p0_pile c_p0_pile b_p0_pile p0_rFrom c_p0_rFrom b_p0_rFrom p0_rTo c_p0_rTo b_p0_rTo p0_steps c_p0_steps b_p0_steps p0_strikes c_p0_strikes b_p0_strikes p0_swings c_p0_swings b_p0_swings p0_walks c_p0_walks b_p0_walks) H30) hS30 => ?_)))))
      have ho30 := OKX9_p57 ho12 efs30
      clear hP12 hS12
      refine lv_aload_n hx hb dX9_wouldSlip_97 rfl (lv_at hl 1 rfl) (qg_X9_52 hx hb hts i_X9 hown hK hP30 0 rfl k_8 (q_sn efs30 (by decide) (q_sn efs12 (by decide) pf_bm)) dX9_wouldSlip_98 (lv_iconst (v := 1) hx hb dX9_wouldSlip_101 (by decide) (lv_isub hx hb dX9_wouldSlip_102 (lv_topi fun v_31 ev_31 => ?_))))
      have tv_31 := q_sub ev_31 (by omega) (by omega)
      refine lv_istore (lv' := [(5, .int v_31), (4, .int v_8), (0, .ref p0), (1, .int a1), (2, .int a2), (3, .int a3)]) hx hb dX9_wouldSlip_103 hl (by decide) rfl (fun ls hl => ?_)
      refine lv_aload_n hx hb dX9_wouldSlip_105 rfl (lv_at hl 2 rfl) (lv_iload_n hx hb dX9_wouldSlip_106 rfl (lv_at hl 5 rfl) (lv_iload hx hb dX9_wouldSlip_107 (lv_at hl 0 rfl) ?_))
      refine q_cVi (As := [.int a3, .int v_31]) (rest := []) q_w0 trivial hK hP30 hDa za_r_wouldSlip hS30 hA [0, 1, 2, 3, 4, 5, 6, 7, 8] [0, 1, 2, 3, 4, 5, 6, 7] (by decide +kernel) ⟨hx, hb, hml, hown, hts⟩ (r_pullOf l dC dI H30.size p0 fs30 p0_bLong c_p0_bLong b_p0_bLong p0_bTight c_p0_bTight b_p0_bTight p0_code c_p0_code b_p0_code p0_codeNumber c_p0_codeNumber b_p0_codeNumber p0_laws c_p0_laws b_p0_laws p0_pile c_p0_pile b_p0_pile p0_rFrom c_p0_rFrom b_p0_rFrom p0_rTo c_p0_rTo b_p0_rTo a3 v_31 bk ho30 ((q_sn efs30 (by decide) (q_sn efs12 (by decide) fr_p0_14))) ((q_sn efs30 (by decide) (q_sn efs12 (by decide) fr_p0_36))) ((q_sn efs30 (by decide) (q_sn efs12 (by decide) fr_p0_37))) ((q_sn efs30 (by decide) (q_sn efs12 (by decide) fr_p0_38))) ((q_sn efs30 (by decide) (q_sn efs12 (by decide) fr_p0_39))) ((q_sn efs30 (by decide) (q_sn efs12 (by decide) fr_p0_42))) ((q_sn efs30 (by decide) (q_sn efs12 (by decide) fr_p0_49))) ((q_sn efs30 (by decide) (q_sn efs12 (by decide) fr_p0_50))) hr_p0_laws hr_p0_rFrom hr_p0_rTo ((q_sn efs30 (by decide) (q_sn efs12 (by decide) pf_bk))) ((by omega)) hLB ((by omega))) rfl rfl (cwV 2 hts (p1_gV m_9 m_10 m_11 m_12 g_r_pullOf gz_r_pullOf) rfl rfl rfl (by decide +kernel) ⟨by decide, by decide⟩) (va_recv hK hP30 (ci := 8) (q0 := 0) rfl rfl) zm_r_pullOf rfl hl.1 rfl (Nat.le_of_ble_eq_true rfl) dX9_wouldSlip_109 ⟨by decide, by decide⟩ (fun r_32 H33 lo33 hG33 hS33 => ?_)
      obtain ⟨o_34, hQ33⟩ := hG33
      have hP33 : va_P (dC, dI) vwCl (zW_r_wouldSlip p0 fs30 p0_bLong c_p0_bLong b_p0_bLong p0_bTight c_p0_bTight b_p0_bTight p0_code c_p0_code b_p0_code p0_codeNumber c_p0_codeNumber b_p0_codeNumber p0_laws c_p0_laws b_p0_laws p0_pile c_p0_pile o_34 p0_rFrom c_p0_rFrom b_p0_rFrom p0_rTo c_p0_rTo b_p0_rTo p0_steps c_p0_steps b_p0_steps p0_strikes c_p0_strikes b_p0_strikes p0_swings c_p0_swings b_p0_swings p0_walks c_p0_walks b_p0_walks) H33 := hQ33
      clear hQ33 hP30 hS30
      refine lv_i2l hx hb dX9_wouldSlip_112 rfl (lv_topl fun w_35 ew_35 => lv_aload_n hx hb dX9_wouldSlip_113 rfl (lv_at hl 2 rfl) (lv_iload_n hx hb dX9_wouldSlip_114 rfl (lv_at hl 5 rfl) (lv_iload hx hb dX9_wouldSlip_115 (lv_at hl 0 rfl) ?_)))
      refine q_cVi (As := [.int a3, .int v_31]) (rest := [.long w_35]) q_w0 trivial hK hP33 hDa za_r_wouldSlip hS33 hA [0, 1, 2, 3, 4, 5, 6, 7, 8] [0, 1, 2, 3, 4, 5, 6, 7] (by decide +kernel) ⟨hx, hb, hml, hown, hts⟩ (r_rub l dC dI H33.size p0 fs30 p0_bLong c_p0_bLong b_p0_bLong p0_bTight c_p0_bTight b_p0_bTight p0_code c_p0_code b_p0_code p0_codeNumber c_p0_codeNumber b_p0_codeNumber p0_laws c_p0_laws b_p0_laws p0_pile c_p0_pile o_34 p0_rFrom c_p0_rFrom b_p0_rFrom p0_rTo c_p0_rTo b_p0_rTo a3 v_31 bk ho30 ((q_sn efs30 (by decide) (q_sn efs12 (by decide) fr_p0_14))) ((q_sn efs30 (by decide) (q_sn efs12 (by decide) fr_p0_36))) ((q_sn efs30 (by decide) (q_sn efs12 (by decide) fr_p0_37))) ((q_sn efs30 (by decide) (q_sn efs12 (by decide) fr_p0_38))) ((q_sn efs30 (by decide) (q_sn efs12 (by decide) fr_p0_39))) ((q_sn efs30 (by decide) (q_sn efs12 (by decide) fr_p0_42))) ((q_sn efs30 (by decide) (q_sn efs12 (by decide) fr_p0_49))) ((q_sn efs30 (by decide) (q_sn efs12 (by decide) fr_p0_50))) hr_p0_laws hr_p0_rFrom hr_p0_rTo ((q_sn efs30 (by decide) (q_sn efs12 (by decide) pf_bk))) ((by omega)) hLB ((by omega))) rfl rfl (cwV 2 hts (p1_gV m_13 m_14 m_15 m_12 g_r_rub gz_r_rub) rfl rfl rfl (by decide +kernel) ⟨by decide, by decide⟩) (va_recv hK hP33 (ci := 8) (q0 := 0) rfl rfl) zm_r_rub rfl hl.1 rfl (Nat.le_of_ble_eq_true rfl) dX9_wouldSlip_117 ⟨by decide, by decide⟩ (fun r_36 H37 lo37 hG37 hS37 => ?_)
      obtain ⟨o_38, hQ37⟩ := hG37
      have hP37 : va_P (dC, dI) vwCl (zW_r_wouldSlip p0 fs30 p0_bLong c_p0_bLong b_p0_bLong p0_bTight c_p0_bTight b_p0_bTight p0_code c_p0_code b_p0_code p0_codeNumber c_p0_codeNumber b_p0_codeNumber p0_laws c_p0_laws b_p0_laws p0_pile c_p0_pile o_38 p0_rFrom c_p0_rFrom b_p0_rFrom p0_rTo c_p0_rTo b_p0_rTo p0_steps c_p0_steps b_p0_steps p0_strikes c_p0_strikes b_p0_strikes p0_swings c_p0_swings b_p0_swings p0_walks c_p0_walks b_p0_walks) H37 := hQ37
      clear hQ37 hP33 hS33
      refine lv_i2l hx hb dX9_wouldSlip_120 rfl (lv_topl fun w_39 ew_39 => W.lcmp hx hb dX9_wouldSlip_121 (lv_topi fun v_40 ev_40 => ?_))
      refine lv_if_le (tgt := 129) hx hb dX9_wouldSlip_122 (by decide) (fun c_41 => ?_) (fun c_41 => ?_)
      · have tc_41 := q_le c_41
        refine lv_iconst (v := 0) hx hb dX9_wouldSlip_129 (by decide) ?_
        exact q_zret hx hb hr hlocks (by decide) hS37 dX9_wouldSlip_130 ⟨fs30, o_38, (Or.inr ⟨rfl, by first | trivial | omega⟩), ho30, ((q_fr.rf.st efs12 (by decide)).st efs30 (by decide)), hP37, za_r_wouldSlip⟩
      · have tc_41 := q_gtN c_41
        refine lv_iconst (v := 1) hx hb dX9_wouldSlip_125 (by decide) (lv_goto (tgt := 130) hx hb dX9_wouldSlip_126 (by decide) ?_)
        exact q_zret hx hb hr hlocks (by decide) hS37 dX9_wouldSlip_130 ⟨fs30, o_38, (Or.inl ⟨rfl, by first | trivial | omega⟩), ho30, ((q_fr.rf.st efs12 (by decide)).st efs30 (by decide)), hP37, za_r_wouldSlip⟩
  · have tc_11 := q_gtN c_11
    refine lv_aload_n hx hb dX9_wouldSlip_44 rfl (lv_at hl 1 rfl) (qg_X9_32 hx hb hts i_X9 hown hK hP 0 rfl k_2 fr_p0_32 dX9_wouldSlip_45 (lv_iload hx hb dX9_wouldSlip_48 (lv_at hl 0 rfl) (q_ild hx hb hK hP 10 9 rfl rfl (q_in (by omega) (by omega)) dX9_wouldSlip_50 (fun v_42 ev_42 => ?_))))
    refine lv_aload_n hx hb dX9_wouldSlip_51 rfl (lv_at hl 1 rfl) (qg_X9_59 hx hb hts i_X9 hown hK hP 0 rfl k_3 fv_10 dX9_wouldSlip_52 (lv_isub hx hb dX9_wouldSlip_55 (lv_topi fun v_43 ev_43 => lv_goto (tgt := 60) hx hb dX9_wouldSlip_56 (by decide) (qp_X9_56 hx hb hts i_X9 hown hK hP hDa za_r_wouldSlip hS 0 rfl k_4 (OKX9_l ho_p0) dX9_wouldSlip_60 (fun H44 lo44 fs44 efs44 (hP44 : va_P (dC, dI) vwCl (zW_r_wouldSlip p0 fs44 p0_bLong c_p0_bLong b_p0_bLong p0_bTight c_p0_bTight b_p0_bTight p0_code c_p0_code b_p0_code p0_codeNumber c_p0_codeNumber b_p0_codeNumber p0_laws c_p0_laws b_p0_laws p0_pile c_p0_pile b_p0_pile p0_rFrom c_p0_rFrom b_p0_rFrom p0_rTo c_p0_rTo b_p0_rTo p0_steps c_p0_steps b_p0_steps p0_strikes c_p0_strikes b_p0_strikes p0_swings c_p0_swings b_p0_swings p0_walks c_p0_walks b_p0_walks) H44) hS44 => ?_)))))
    have ho44 := OKX9_p56 ho_p0 efs44
    clear hP hS
    refine lv_aload_n hx hb dX9_wouldSlip_63 rfl (lv_at hl 1 rfl) (lv_aload_n hx hb dX9_wouldSlip_64 rfl (lv_at hl 1 rfl) (qg_X9_33 hx hb hts i_X9 hown hK hP44 0 rfl k_5 (q_sn efs44 (by decide) fr_p0_33) dX9_wouldSlip_65 (lv_iload hx hb dX9_wouldSlip_68 (lv_at hl 0 rfl) (q_ild hx hb hK hP44 11 10 rfl rfl (q_in (by omega) (by omega)) dX9_wouldSlip_70 (fun v_45 ev_45 => ?_)))))
    refine lv_aload_n hx hb dX9_wouldSlip_71 rfl (lv_at hl 1 rfl) ?_
    obtain ⟨v_46, fv_46⟩ := OKX9_g58 ho44
    refine qg_X9_58 hx hb hts i_X9 hown hK hP44 0 rfl k_6 fv_46 dX9_wouldSlip_72 ?_
    refine lv_icmp_le (tgt := 93) hx hb dX9_wouldSlip_75 (by decide) (fun c_47 => ?_) (fun c_47 => ?_)
    · have tc_47 := q_le c_47
      refine lv_iconst (v := 0) hx hb dX9_wouldSlip_93 (by decide) (qp_X9_57 hx hb hts i_X9 hown hK hP44 hDa za_r_wouldSlip hS44 0 rfl k_7 (OKX9_l ho44) dX9_wouldSlip_94 (fun H48 lo48 fs48 efs48 (hP48 : va_P (dC, dI) vwCl (zW_r_wouldSlip p0 fs48 p0_bLong c_p0_bLong b_p0_bLong p0_bTight c_p0_bTight b_p0_bTight p0_code c_p0_code b_p0_code p0_codeNumber c_p0_codeNumber b_p0_codeNumber p0_laws c_p0_laws b_p0_laws p0_pile c_p0_pile b_p0_pile p0_rFrom c_p0_rFrom b_p0_rFrom p0_rTo c_p0_rTo b_p0_rTo p0_steps c_p0_steps b_p0_steps p0_strikes c_p0_strikes b_p0_strikes p0_swings c_p0_swings b_p0_swings p0_walks c_p0_walks b_p0_walks) H48) hS48 => ?_))
      have ho48 := OKX9_p57 ho44 efs48
      clear hP44 hS44
      refine lv_aload_n hx hb dX9_wouldSlip_97 rfl (lv_at hl 1 rfl) (qg_X9_52 hx hb hts i_X9 hown hK hP48 0 rfl k_8 (q_sn efs48 (by decide) (q_sn efs44 (by decide) pf_bm)) dX9_wouldSlip_98 (lv_iconst (v := 1) hx hb dX9_wouldSlip_101 (by decide) (lv_isub hx hb dX9_wouldSlip_102 (lv_topi fun v_49 ev_49 => ?_))))
      have tv_49 := q_sub ev_49 (by omega) (by omega)
      refine lv_istore (lv' := [(5, .int v_49), (4, .int v_8), (0, .ref p0), (1, .int a1), (2, .int a2), (3, .int a3)]) hx hb dX9_wouldSlip_103 hl (by decide) rfl (fun ls hl => ?_)
      refine lv_aload_n hx hb dX9_wouldSlip_105 rfl (lv_at hl 2 rfl) (lv_iload_n hx hb dX9_wouldSlip_106 rfl (lv_at hl 5 rfl) (lv_iload hx hb dX9_wouldSlip_107 (lv_at hl 0 rfl) ?_))
      refine q_cVi (As := [.int a3, .int v_49]) (rest := []) q_w0 trivial hK hP48 hDa za_r_wouldSlip hS48 hA [0, 1, 2, 3, 4, 5, 6, 7, 8] [0, 1, 2, 3, 4, 5, 6, 7] (by decide +kernel) ⟨hx, hb, hml, hown, hts⟩ (r_pullOf l dC dI H48.size p0 fs48 p0_bLong c_p0_bLong b_p0_bLong p0_bTight c_p0_bTight b_p0_bTight p0_code c_p0_code b_p0_code p0_codeNumber c_p0_codeNumber b_p0_codeNumber p0_laws c_p0_laws b_p0_laws p0_pile c_p0_pile b_p0_pile p0_rFrom c_p0_rFrom b_p0_rFrom p0_rTo c_p0_rTo b_p0_rTo a3 v_49 bk ho48 ((q_sn efs48 (by decide) (q_sn efs44 (by decide) fr_p0_14))) ((q_sn efs48 (by decide) (q_sn efs44 (by decide) fr_p0_36))) ((q_sn efs48 (by decide) (q_sn efs44 (by decide) fr_p0_37))) ((q_sn efs48 (by decide) (q_sn efs44 (by decide) fr_p0_38))) ((q_sn efs48 (by decide) (q_sn efs44 (by decide) fr_p0_39))) ((q_sn efs48 (by decide) (q_sn efs44 (by decide) fr_p0_42))) ((q_sn efs48 (by decide) (q_sn efs44 (by decide) fr_p0_49))) ((q_sn efs48 (by decide) (q_sn efs44 (by decide) fr_p0_50))) hr_p0_laws hr_p0_rFrom hr_p0_rTo ((q_sn efs48 (by decide) (q_sn efs44 (by decide) pf_bk))) ((by omega)) hLB ((by omega))) rfl rfl (cwV 2 hts (p1_gV m_9 m_10 m_11 m_12 g_r_pullOf gz_r_pullOf) rfl rfl rfl (by decide +kernel) ⟨by decide, by decide⟩) (va_recv hK hP48 (ci := 8) (q0 := 0) rfl rfl) zm_r_pullOf rfl hl.1 rfl (Nat.le_of_ble_eq_true rfl) dX9_wouldSlip_109 ⟨by decide, by decide⟩ (fun r_50 H51 lo51 hG51 hS51 => ?_)
      obtain ⟨o_52, hQ51⟩ := hG51
      have hP51 : va_P (dC, dI) vwCl (zW_r_wouldSlip p0 fs48 p0_bLong c_p0_bLong b_p0_bLong p0_bTight c_p0_bTight b_p0_bTight p0_code c_p0_code b_p0_code p0_codeNumber c_p0_codeNumber b_p0_codeNumber p0_laws c_p0_laws b_p0_laws p0_pile c_p0_pile o_52 p0_rFrom c_p0_rFrom b_p0_rFrom p0_rTo c_p0_rTo b_p0_rTo p0_steps c_p0_steps b_p0_steps p0_strikes c_p0_strikes b_p0_strikes p0_swings c_p0_swings b_p0_swings p0_walks c_p0_walks b_p0_walks) H51 := hQ51
      clear hQ51 hP48 hS48
      refine lv_i2l hx hb dX9_wouldSlip_112 rfl (lv_topl fun w_53 ew_53 => lv_aload_n hx hb dX9_wouldSlip_113 rfl (lv_at hl 2 rfl) (lv_iload_n hx hb dX9_wouldSlip_114 rfl (lv_at hl 5 rfl) (lv_iload hx hb dX9_wouldSlip_115 (lv_at hl 0 rfl) ?_)))
      refine q_cVi (As := [.int a3, .int v_49]) (rest := [.long w_53]) q_w0 trivial hK hP51 hDa za_r_wouldSlip hS51 hA [0, 1, 2, 3, 4, 5, 6, 7, 8] [0, 1, 2, 3, 4, 5, 6, 7] (by decide +kernel) ⟨hx, hb, hml, hown, hts⟩ (r_rub l dC dI H51.size p0 fs48 p0_bLong c_p0_bLong b_p0_bLong p0_bTight c_p0_bTight b_p0_bTight p0_code c_p0_code b_p0_code p0_codeNumber c_p0_codeNumber b_p0_codeNumber p0_laws c_p0_laws b_p0_laws p0_pile c_p0_pile o_52 p0_rFrom c_p0_rFrom b_p0_rFrom p0_rTo c_p0_rTo b_p0_rTo a3 v_49 bk ho48 ((q_sn efs48 (by decide) (q_sn efs44 (by decide) fr_p0_14))) ((q_sn efs48 (by decide) (q_sn efs44 (by decide) fr_p0_36))) ((q_sn efs48 (by decide) (q_sn efs44 (by decide) fr_p0_37))) ((q_sn efs48 (by decide) (q_sn efs44 (by decide) fr_p0_38))) ((q_sn efs48 (by decide) (q_sn efs44 (by decide) fr_p0_39))) ((q_sn efs48 (by decide) (q_sn efs44 (by decide) fr_p0_42))) ((q_sn efs48 (by decide) (q_sn efs44 (by decide) fr_p0_49))) ((q_sn efs48 (by decide) (q_sn efs44 (by decide) fr_p0_50))) hr_p0_laws hr_p0_rFrom hr_p0_rTo ((q_sn efs48 (by decide) (q_sn efs44 (by decide) pf_bk))) ((by omega)) hLB ((by omega))) rfl rfl (cwV 2 hts (p1_gV m_13 m_14 m_15 m_12 g_r_rub gz_r_rub) rfl rfl rfl (by decide +kernel) ⟨by decide, by decide⟩) (va_recv hK hP51 (ci := 8) (q0 := 0) rfl rfl) zm_r_rub rfl hl.1 rfl (Nat.le_of_ble_eq_true rfl) dX9_wouldSlip_117 ⟨by decide, by decide⟩ (fun r_54 H55 lo55 hG55 hS55 => ?_)
      obtain ⟨o_56, hQ55⟩ := hG55
      have hP55 : va_P (dC, dI) vwCl (zW_r_wouldSlip p0 fs48 p0_bLong c_p0_bLong b_p0_bLong p0_bTight c_p0_bTight b_p0_bTight p0_code c_p0_code b_p0_code p0_codeNumber c_p0_codeNumber b_p0_codeNumber p0_laws c_p0_laws b_p0_laws p0_pile c_p0_pile o_56 p0_rFrom c_p0_rFrom b_p0_rFrom p0_rTo c_p0_rTo b_p0_rTo p0_steps c_p0_steps b_p0_steps p0_strikes c_p0_strikes b_p0_strikes p0_swings c_p0_swings b_p0_swings p0_walks c_p0_walks b_p0_walks) H55 := hQ55
      clear hQ55 hP51 hS51
      refine lv_i2l hx hb dX9_wouldSlip_120 rfl (lv_topl fun w_57 ew_57 => W.lcmp hx hb dX9_wouldSlip_121 (lv_topi fun v_58 ev_58 => ?_))
      refine lv_if_le (tgt := 129) hx hb dX9_wouldSlip_122 (by decide) (fun c_59 => ?_) (fun c_59 => ?_)
      · have tc_59 := q_le c_59
        refine lv_iconst (v := 0) hx hb dX9_wouldSlip_129 (by decide) ?_
        exact q_zret hx hb hr hlocks (by decide) hS55 dX9_wouldSlip_130 ⟨fs48, o_56, (Or.inr ⟨rfl, by first | trivial | omega⟩), ho48, ((q_fr.rf.st efs44 (by decide)).st efs48 (by decide)), hP55, za_r_wouldSlip⟩
      · have tc_59 := q_gtN c_59
        refine lv_iconst (v := 1) hx hb dX9_wouldSlip_125 (by decide) (lv_goto (tgt := 130) hx hb dX9_wouldSlip_126 (by decide) ?_)
        exact q_zret hx hb hr hlocks (by decide) hS55 dX9_wouldSlip_130 ⟨fs48, o_56, (Or.inl ⟨rfl, by first | trivial | omega⟩), ho48, ((q_fr.rf.st efs44 (by decide)).st efs48 (by decide)), hP55, za_r_wouldSlip⟩
    · have tc_47 := q_gtN c_47
      refine lv_aload_n hx hb dX9_wouldSlip_78 rfl (lv_at hl 1 rfl) (qg_X9_33 hx hb hts i_X9 hown hK hP44 0 rfl k_5 (q_sn efs44 (by decide) fr_p0_33) dX9_wouldSlip_79 (lv_iload hx hb dX9_wouldSlip_82 (lv_at hl 0 rfl) (q_ild hx hb hK hP44 11 10 rfl rfl (q_in (by omega) (by omega)) dX9_wouldSlip_84 (fun v_60 ev_60 => ?_))))
      refine lv_aload_n hx hb dX9_wouldSlip_85 rfl (lv_at hl 1 rfl) (qg_X9_58 hx hb hts i_X9 hown hK hP44 0 rfl k_6 fv_46 dX9_wouldSlip_86 (lv_isub hx hb dX9_wouldSlip_89 (lv_topi fun v_61 ev_61 => lv_goto (tgt := 94) hx hb dX9_wouldSlip_90 (by decide) (qp_X9_57 hx hb hts i_X9 hown hK hP44 hDa za_r_wouldSlip hS44 0 rfl k_7 (OKX9_l ho44) dX9_wouldSlip_94 (fun H62 lo62 fs62 efs62 (hP62 : va_P (dC, dI) vwCl (zW_r_wouldSlip p0 fs62 p0_bLong c_p0_bLong b_p0_bLong p0_bTight c_p0_bTight b_p0_bTight p0_code c_p0_code b_p0_code p0_codeNumber c_p0_codeNumber b_p0_codeNumber p0_laws c_p0_laws b_p0_laws p0_pile c_p0_pile b_p0_pile p0_rFrom c_p0_rFrom b_p0_rFrom p0_rTo c_p0_rTo b_p0_rTo p0_steps c_p0_steps b_p0_steps p0_strikes c_p0_strikes b_p0_strikes p0_swings c_p0_swings b_p0_swings p0_walks c_p0_walks b_p0_walks) H62) hS62 => ?_)))))
      have ho62 := OKX9_p57 ho44 efs62
      clear hP44 hS44
      refine lv_aload_n hx hb dX9_wouldSlip_97 rfl (lv_at hl 1 rfl) (qg_X9_52 hx hb hts i_X9 hown hK hP62 0 rfl k_8 (q_sn efs62 (by decide) (q_sn efs44 (by decide) pf_bm)) dX9_wouldSlip_98 (lv_iconst (v := 1) hx hb dX9_wouldSlip_101 (by decide) (lv_isub hx hb dX9_wouldSlip_102 (lv_topi fun v_63 ev_63 => ?_))))
      have tv_63 := q_sub ev_63 (by omega) (by omega)
      refine lv_istore (lv' := [(5, .int v_63), (4, .int v_8), (0, .ref p0), (1, .int a1), (2, .int a2), (3, .int a3)]) hx hb dX9_wouldSlip_103 hl (by decide) rfl (fun ls hl => ?_)
      refine lv_aload_n hx hb dX9_wouldSlip_105 rfl (lv_at hl 2 rfl) (lv_iload_n hx hb dX9_wouldSlip_106 rfl (lv_at hl 5 rfl) (lv_iload hx hb dX9_wouldSlip_107 (lv_at hl 0 rfl) ?_))
      refine q_cVi (As := [.int a3, .int v_63]) (rest := []) q_w0 trivial hK hP62 hDa za_r_wouldSlip hS62 hA [0, 1, 2, 3, 4, 5, 6, 7, 8] [0, 1, 2, 3, 4, 5, 6, 7] (by decide +kernel) ⟨hx, hb, hml, hown, hts⟩ (r_pullOf l dC dI H62.size p0 fs62 p0_bLong c_p0_bLong b_p0_bLong p0_bTight c_p0_bTight b_p0_bTight p0_code c_p0_code b_p0_code p0_codeNumber c_p0_codeNumber b_p0_codeNumber p0_laws c_p0_laws b_p0_laws p0_pile c_p0_pile b_p0_pile p0_rFrom c_p0_rFrom b_p0_rFrom p0_rTo c_p0_rTo b_p0_rTo a3 v_63 bk ho62 ((q_sn efs62 (by decide) (q_sn efs44 (by decide) fr_p0_14))) ((q_sn efs62 (by decide) (q_sn efs44 (by decide) fr_p0_36))) ((q_sn efs62 (by decide) (q_sn efs44 (by decide) fr_p0_37))) ((q_sn efs62 (by decide) (q_sn efs44 (by decide) fr_p0_38))) ((q_sn efs62 (by decide) (q_sn efs44 (by decide) fr_p0_39))) ((q_sn efs62 (by decide) (q_sn efs44 (by decide) fr_p0_42))) ((q_sn efs62 (by decide) (q_sn efs44 (by decide) fr_p0_49))) ((q_sn efs62 (by decide) (q_sn efs44 (by decide) fr_p0_50))) hr_p0_laws hr_p0_rFrom hr_p0_rTo ((q_sn efs62 (by decide) (q_sn efs44 (by decide) pf_bk))) ((by omega)) hLB ((by omega))) rfl rfl (cwV 2 hts (p1_gV m_9 m_10 m_11 m_12 g_r_pullOf gz_r_pullOf) rfl rfl rfl (by decide +kernel) ⟨by decide, by decide⟩) (va_recv hK hP62 (ci := 8) (q0 := 0) rfl rfl) zm_r_pullOf rfl hl.1 rfl (Nat.le_of_ble_eq_true rfl) dX9_wouldSlip_109 ⟨by decide, by decide⟩ (fun r_64 H65 lo65 hG65 hS65 => ?_)
      obtain ⟨o_66, hQ65⟩ := hG65
      have hP65 : va_P (dC, dI) vwCl (zW_r_wouldSlip p0 fs62 p0_bLong c_p0_bLong b_p0_bLong p0_bTight c_p0_bTight b_p0_bTight p0_code c_p0_code b_p0_code p0_codeNumber c_p0_codeNumber b_p0_codeNumber p0_laws c_p0_laws b_p0_laws p0_pile c_p0_pile o_66 p0_rFrom c_p0_rFrom b_p0_rFrom p0_rTo c_p0_rTo b_p0_rTo p0_steps c_p0_steps b_p0_steps p0_strikes c_p0_strikes b_p0_strikes p0_swings c_p0_swings b_p0_swings p0_walks c_p0_walks b_p0_walks) H65 := hQ65
      clear hQ65 hP62 hS62
      refine lv_i2l hx hb dX9_wouldSlip_112 rfl (lv_topl fun w_67 ew_67 => lv_aload_n hx hb dX9_wouldSlip_113 rfl (lv_at hl 2 rfl) (lv_iload_n hx hb dX9_wouldSlip_114 rfl (lv_at hl 5 rfl) (lv_iload hx hb dX9_wouldSlip_115 (lv_at hl 0 rfl) ?_)))
      refine q_cVi (As := [.int a3, .int v_63]) (rest := [.long w_67]) q_w0 trivial hK hP65 hDa za_r_wouldSlip hS65 hA [0, 1, 2, 3, 4, 5, 6, 7, 8] [0, 1, 2, 3, 4, 5, 6, 7] (by decide +kernel) ⟨hx, hb, hml, hown, hts⟩ (r_rub l dC dI H65.size p0 fs62 p0_bLong c_p0_bLong b_p0_bLong p0_bTight c_p0_bTight b_p0_bTight p0_code c_p0_code b_p0_code p0_codeNumber c_p0_codeNumber b_p0_codeNumber p0_laws c_p0_laws b_p0_laws p0_pile c_p0_pile o_66 p0_rFrom c_p0_rFrom b_p0_rFrom p0_rTo c_p0_rTo b_p0_rTo a3 v_63 bk ho62 ((q_sn efs62 (by decide) (q_sn efs44 (by decide) fr_p0_14))) ((q_sn efs62 (by decide) (q_sn efs44 (by decide) fr_p0_36))) ((q_sn efs62 (by decide) (q_sn efs44 (by decide) fr_p0_37))) ((q_sn efs62 (by decide) (q_sn efs44 (by decide) fr_p0_38))) ((q_sn efs62 (by decide) (q_sn efs44 (by decide) fr_p0_39))) ((q_sn efs62 (by decide) (q_sn efs44 (by decide) fr_p0_42))) ((q_sn efs62 (by decide) (q_sn efs44 (by decide) fr_p0_49))) ((q_sn efs62 (by decide) (q_sn efs44 (by decide) fr_p0_50))) hr_p0_laws hr_p0_rFrom hr_p0_rTo ((q_sn efs62 (by decide) (q_sn efs44 (by decide) pf_bk))) ((by omega)) hLB ((by omega))) rfl rfl (cwV 2 hts (p1_gV m_13 m_14 m_15 m_12 g_r_rub gz_r_rub) rfl rfl rfl (by decide +kernel) ⟨by decide, by decide⟩) (va_recv hK hP65 (ci := 8) (q0 := 0) rfl rfl) zm_r_rub rfl hl.1 rfl (Nat.le_of_ble_eq_true rfl) dX9_wouldSlip_117 ⟨by decide, by decide⟩ (fun r_68 H69 lo69 hG69 hS69 => ?_)
      obtain ⟨o_70, hQ69⟩ := hG69
      have hP69 : va_P (dC, dI) vwCl (zW_r_wouldSlip p0 fs62 p0_bLong c_p0_bLong b_p0_bLong p0_bTight c_p0_bTight b_p0_bTight p0_code c_p0_code b_p0_code p0_codeNumber c_p0_codeNumber b_p0_codeNumber p0_laws c_p0_laws b_p0_laws p0_pile c_p0_pile o_70 p0_rFrom c_p0_rFrom b_p0_rFrom p0_rTo c_p0_rTo b_p0_rTo p0_steps c_p0_steps b_p0_steps p0_strikes c_p0_strikes b_p0_strikes p0_swings c_p0_swings b_p0_swings p0_walks c_p0_walks b_p0_walks) H69 := hQ69
      clear hQ69 hP65 hS65
      refine lv_i2l hx hb dX9_wouldSlip_120 rfl (lv_topl fun w_71 ew_71 => W.lcmp hx hb dX9_wouldSlip_121 (lv_topi fun v_72 ev_72 => ?_))
      refine lv_if_le (tgt := 129) hx hb dX9_wouldSlip_122 (by decide) (fun c_73 => ?_) (fun c_73 => ?_)
      · have tc_73 := q_le c_73
        refine lv_iconst (v := 0) hx hb dX9_wouldSlip_129 (by decide) ?_
        exact q_zret hx hb hr hlocks (by decide) hS69 dX9_wouldSlip_130 ⟨fs62, o_70, (Or.inr ⟨rfl, by first | trivial | omega⟩), ho62, ((q_fr.rf.st efs44 (by decide)).st efs62 (by decide)), hP69, za_r_wouldSlip⟩
      · have tc_73 := q_gtN c_73
        refine lv_iconst (v := 1) hx hb dX9_wouldSlip_125 (by decide) (lv_goto (tgt := 130) hx hb dX9_wouldSlip_126 (by decide) ?_)
        exact q_zret hx hb hr hlocks (by decide) hS69 dX9_wouldSlip_130 ⟨fs62, o_70, (Or.inl ⟨rfl, by first | trivial | omega⟩), ho62, ((q_fr.rf.st efs44 (by decide)).st efs62 (by decide)), hP69, za_r_wouldSlip⟩
def zo_r_isStill : List Cond := [.code yX9_isStill cX9_isStill 6 (some .boolean), .fieldLink RX9 83 "BowWalkModel" "steps" "[I", .fieldLink RX9 291 "BowWalkModel" "bank" "I", .methodLink RX9 468 yX9_wouldSlip, .instanceMethod yX9_wouldSlip, .selects RX9 yX9_wouldSlip yX9_wouldSlip, .initialized RX9]
def zw_r_isStill : List Cond := zo_r_isStill ++ (zw_r_wouldSlip ++ (wsX90 ++ []))
theorem gz_r_isStill : zw_r_isStill.all goodWord = true := p1_ga (by decide +kernel) (p1_ga gz_r_wouldSlip (p1_ga gk_X9 p1_g0))
theorem iz_r_isStill : ∀ w ∈ zw_r_isStill, w ∈ lw_tbl := p1_ia (p1_all [1549, 1068, 1080, 1550, 1552, 92, 116] (by decide +kernel)) (p1_ia iz_r_wouldSlip (p1_ia ik_X9 p1_i0))
def zW_r_isStill (p0 : Nat) (f_p0 : List Value) (p0_bLong : Nat) (c_p0_bLong : ClassId) (b_p0_bLong : Nat → Int32) (p0_bTight : Nat) (c_p0_bTight : ClassId) (b_p0_bTight : Nat → Int32) (p0_code : Nat) (c_p0_code : ClassId) (b_p0_code : Nat → Int32) (p0_codeNumber : Nat) (c_p0_codeNumber : ClassId) (b_p0_codeNumber : Nat → Int32) (p0_laws : Nat) (c_p0_laws : ClassId) (b_p0_laws : Nat → Int32) (p0_pile : Nat) (c_p0_pile : ClassId) (b_p0_pile : Nat → Int32) (p0_rFrom : Nat) (c_p0_rFrom : ClassId) (b_p0_rFrom : Nat → Int32) (p0_rTo : Nat) (c_p0_rTo : ClassId) (b_p0_rTo : Nat → Int32) (p0_steps : Nat) (c_p0_steps : ClassId) (b_p0_steps : Nat → Int32) (p0_strikes : Nat) (c_p0_strikes : ClassId) (b_p0_strikes : Nat → Int32) (p0_swings : Nat) (c_p0_swings : ClassId) (b_p0_swings : Nat → Int32) (p0_walks : Nat) (c_p0_walks : ClassId) (b_p0_walks : Nat → Int32) : va_W := [(p0, .inr (8, f_p0)), (p0_bLong, .inl (c_p0_bLong, 2, .inl b_p0_bLong)), (p0_bTight, .inl (c_p0_bTight, 12, .inl b_p0_bTight)), (p0_code, .inl (c_p0_code, 1800, .inl b_p0_code)), (p0_codeNumber, .inl (c_p0_codeNumber, 1800, .inl b_p0_codeNumber)), (p0_laws, .inl (c_p0_laws, 2, .inl b_p0_laws)), (p0_pile, .inl (c_p0_pile, 90, .inl b_p0_pile)), (p0_rFrom, .inl (c_p0_rFrom, 12, .inl b_p0_rFrom)), (p0_rTo, .inl (c_p0_rTo, 12, .inl b_p0_rTo)), (p0_steps, .inl (c_p0_steps, 8, .inl b_p0_steps)), (p0_strikes, .inl (c_p0_strikes, 64, .inl b_p0_strikes)), (p0_swings, .inl (c_p0_swings, 64, .inl b_p0_swings)), (p0_walks, .inl (c_p0_walks, 2, .inl b_p0_walks))]
def zT_r_isStill (c_p0_bLong : ClassId) (c_p0_bTight : ClassId) (c_p0_code : ClassId) (c_p0_codeNumber : ClassId) (c_p0_laws : ClassId) (c_p0_pile : ClassId) (c_p0_rFrom : ClassId) (c_p0_rTo : ClassId) (c_p0_steps : ClassId) (c_p0_strikes : ClassId) (c_p0_swings : ClassId) (c_p0_walks : ClassId) : List (ClassId × FieldType) := [(c_p0_bLong, .int), (c_p0_bTight, .int), (c_p0_code, .int), (c_p0_codeNumber, .int), (c_p0_laws, .int), (c_p0_pile, .int), (c_p0_rFrom, .int), (c_p0_rTo, .int), (c_p0_steps, .int), (c_p0_strikes, .int), (c_p0_swings, .int), (c_p0_walks, .int)]
def zA_r_isStill (p0 : Nat) (p0_bLong : Nat) (p0_bTight : Nat) (p0_code : Nat) (p0_codeNumber : Nat) (p0_laws : Nat) (p0_pile : Nat) (p0_rFrom : Nat) (p0_rTo : Nat) (p0_steps : Nat) (p0_strikes : Nat) (p0_swings : Nat) (p0_walks : Nat) : List Nat := [p0, p0_bLong, p0_bTight, p0_code, p0_codeNumber, p0_laws, p0_pile, p0_rFrom, p0_rTo, p0_steps, p0_strikes, p0_swings, p0_walks]
theorem za_r_isStill {p0 : Nat} {f_p0 : List Value} {p0_bLong : Nat} {c_p0_bLong : ClassId} {b_p0_bLong : Nat → Int32} {p0_bTight : Nat} {c_p0_bTight : ClassId} {b_p0_bTight : Nat → Int32} {p0_code : Nat} {c_p0_code : ClassId} {b_p0_code : Nat → Int32} {p0_codeNumber : Nat} {c_p0_codeNumber : ClassId} {b_p0_codeNumber : Nat → Int32} {p0_laws : Nat} {c_p0_laws : ClassId} {b_p0_laws : Nat → Int32} {p0_pile : Nat} {c_p0_pile : ClassId} {b_p0_pile : Nat → Int32} {p0_rFrom : Nat} {c_p0_rFrom : ClassId} {b_p0_rFrom : Nat → Int32} {p0_rTo : Nat} {c_p0_rTo : ClassId} {b_p0_rTo : Nat → Int32} {p0_steps : Nat} {c_p0_steps : ClassId} {b_p0_steps : Nat → Int32} {p0_strikes : Nat} {c_p0_strikes : ClassId} {b_p0_strikes : Nat → Int32} {p0_swings : Nat} {c_p0_swings : ClassId} {b_p0_swings : Nat → Int32} {p0_walks : Nat} {c_p0_walks : ClassId} {b_p0_walks : Nat → Int32} : (zW_r_isStill p0 f_p0 p0_bLong c_p0_bLong b_p0_bLong p0_bTight c_p0_bTight b_p0_bTight p0_code c_p0_code b_p0_code p0_codeNumber c_p0_codeNumber b_p0_codeNumber p0_laws c_p0_laws b_p0_laws p0_pile c_p0_pile b_p0_pile p0_rFrom c_p0_rFrom b_p0_rFrom p0_rTo c_p0_rTo b_p0_rTo p0_steps c_p0_steps b_p0_steps p0_strikes c_p0_strikes b_p0_strikes p0_swings c_p0_swings b_p0_swings p0_walks c_p0_walks b_p0_walks).map Prod.fst = (zA_r_isStill p0 p0_bLong p0_bTight p0_code p0_codeNumber p0_laws p0_pile p0_rFrom p0_rTo p0_steps p0_strikes p0_swings p0_walks) := rfl
def zG_r_isStill (p0 : Nat) (f_p0 : List Value) (p0_bLong : Nat) (c_p0_bLong : ClassId) (b_p0_bLong : Nat → Int32) (p0_bTight : Nat) (c_p0_bTight : ClassId) (b_p0_bTight : Nat → Int32) (p0_code : Nat) (c_p0_code : ClassId) (b_p0_code : Nat → Int32) (p0_codeNumber : Nat) (c_p0_codeNumber : ClassId) (b_p0_codeNumber : Nat → Int32) (p0_laws : Nat) (c_p0_laws : ClassId) (b_p0_laws : Nat → Int32) (p0_pile : Nat) (c_p0_pile : ClassId) (b_p0_pile : Nat → Int32) (p0_rFrom : Nat) (c_p0_rFrom : ClassId) (b_p0_rFrom : Nat → Int32) (p0_rTo : Nat) (c_p0_rTo : ClassId) (b_p0_rTo : Nat → Int32) (p0_steps : Nat) (c_p0_steps : ClassId) (b_p0_steps : Nat → Int32) (p0_strikes : Nat) (c_p0_strikes : ClassId) (b_p0_strikes : Nat → Int32) (p0_swings : Nat) (c_p0_swings : ClassId) (b_p0_swings : Nat → Int32) (p0_walks : Nat) (c_p0_walks : ClassId) (b_p0_walks : Nat → Int32) (a1 : Int32) (a2 : Int32) (a3 : Int32) (bm : Int32) (bk : Int32) (r : Int32) (X : va_W → Prop) : Prop := ∃ (y_p0 : List Value) (y_p0_pile : Nat → Int32), ((r = 1 ∧ (True)) ∨ (r = 0 ∧ (True))) ∧ OKX9 y_p0 ∧ q_fr [56, 57] f_p0 y_p0 ∧ X (zW_r_isStill p0 y_p0 p0_bLong c_p0_bLong b_p0_bLong p0_bTight c_p0_bTight b_p0_bTight p0_code c_p0_code b_p0_code p0_codeNumber c_p0_codeNumber b_p0_codeNumber p0_laws c_p0_laws b_p0_laws p0_pile c_p0_pile y_p0_pile p0_rFrom c_p0_rFrom b_p0_rFrom p0_rTo c_p0_rTo b_p0_rTo p0_steps c_p0_steps b_p0_steps p0_strikes c_p0_strikes b_p0_strikes p0_swings c_p0_swings b_p0_swings p0_walks c_p0_walks b_p0_walks)
theorem zm_r_isStill {p0 : Nat} {f_p0 : List Value} {p0_bLong : Nat} {c_p0_bLong : ClassId} {b_p0_bLong : Nat → Int32} {p0_bTight : Nat} {c_p0_bTight : ClassId} {b_p0_bTight : Nat → Int32} {p0_code : Nat} {c_p0_code : ClassId} {b_p0_code : Nat → Int32} {p0_codeNumber : Nat} {c_p0_codeNumber : ClassId} {b_p0_codeNumber : Nat → Int32} {p0_laws : Nat} {c_p0_laws : ClassId} {b_p0_laws : Nat → Int32} {p0_pile : Nat} {c_p0_pile : ClassId} {b_p0_pile : Nat → Int32} {p0_rFrom : Nat} {c_p0_rFrom : ClassId} {b_p0_rFrom : Nat → Int32} {p0_rTo : Nat} {c_p0_rTo : ClassId} {b_p0_rTo : Nat → Int32} {p0_steps : Nat} {c_p0_steps : ClassId} {b_p0_steps : Nat → Int32} {p0_strikes : Nat} {c_p0_strikes : ClassId} {b_p0_strikes : Nat → Int32} {p0_swings : Nat} {c_p0_swings : ClassId} {b_p0_swings : Nat → Int32} {p0_walks : Nat} {c_p0_walks : ClassId} {b_p0_walks : Nat → Int32} {a1 : Int32} {a2 : Int32} {a3 : Int32} {bm : Int32} {bk : Int32} : ∀ (r : Int32), ∀ X Y : va_W → Prop, (∀ w, X w → Y w) → zG_r_isStill p0 f_p0 p0_bLong c_p0_bLong b_p0_bLong p0_bTight c_p0_bTight b_p0_bTight p0_code c_p0_code b_p0_code p0_codeNumber c_p0_codeNumber b_p0_codeNumber p0_laws c_p0_laws b_p0_laws p0_pile c_p0_pile b_p0_pile p0_rFrom c_p0_rFrom b_p0_rFrom p0_rTo c_p0_rTo b_p0_rTo p0_steps c_p0_steps b_p0_steps p0_strikes c_p0_strikes b_p0_strikes p0_swings c_p0_swings b_p0_swings p0_walks c_p0_walks b_p0_walks a1 a2 a3 bm bk r X → zG_r_isStill p0 f_p0 p0_bLong c_p0_bLong b_p0_bLong p0_bTight c_p0_bTight b_p0_bTight p0_code c_p0_code b_p0_code p0_codeNumber c_p0_codeNumber b_p0_codeNumber p0_laws c_p0_laws b_p0_laws p0_pile c_p0_pile b_p0_pile p0_rFrom c_p0_rFrom b_p0_rFrom p0_rTo c_p0_rTo b_p0_rTo p0_steps c_p0_steps b_p0_steps p0_strikes c_p0_strikes b_p0_strikes p0_swings c_p0_swings b_p0_swings p0_walks c_p0_walks b_p0_walks a1 a2 a3 bm bk r Y := fun r X Y h h1 => by obtain ⟨x0, x1, x2, x3, x4, hx⟩ := h1; exact ⟨x0, x1, x2, x3, x4, h _ hx⟩
set_option maxHeartbeats 4000000 in
set_option maxRecDepth 100000 in
theorem r_isStill (l : Launch) (dC : Nat → ClassId) (dI : Nat → Nat → Nat) (sz : Nat) (p0 : Nat) (f_p0 : List Value) (p0_bLong : Nat) (c_p0_bLong : ClassId) (b_p0_bLong : Nat → Int32) (p0_bTight : Nat) (c_p0_bTight : ClassId) (b_p0_bTight : Nat → Int32) (p0_code : Nat) (c_p0_code : ClassId) (b_p0_code : Nat → Int32) (p0_codeNumber : Nat) (c_p0_codeNumber : ClassId) (b_p0_codeNumber : Nat → Int32) (p0_laws : Nat) (c_p0_laws : ClassId) (b_p0_laws : Nat → Int32) (p0_pile : Nat) (c_p0_pile : ClassId) (b_p0_pile : Nat → Int32) (p0_rFrom : Nat) (c_p0_rFrom : ClassId) (b_p0_rFrom : Nat → Int32) (p0_rTo : Nat) (c_p0_rTo : ClassId) (b_p0_rTo : Nat → Int32) (p0_steps : Nat) (c_p0_steps : ClassId) (b_p0_steps : Nat → Int32) (p0_strikes : Nat) (c_p0_strikes : ClassId) (b_p0_strikes : Nat → Int32) (p0_swings : Nat) (c_p0_swings : ClassId) (b_p0_swings : Nat → Int32) (p0_walks : Nat) (c_p0_walks : ClassId) (b_p0_walks : Nat → Int32) (a1 : Int32) (a2 : Int32) (a3 : Int32) (bm : Int32) (bk : Int32) (ho_p0 : OKX9 f_p0) (fr_p0_13 : q_rf f_p0 13 p0_walks) (fr_p0_14 : q_rf f_p0 14 p0_laws) (fr_p0_31 : q_rf f_p0 31 p0_steps) (fr_p0_32 : q_rf f_p0 32 p0_strikes) (fr_p0_33 : q_rf f_p0 33 p0_swings) (fr_p0_36 : q_rf f_p0 36 p0_rFrom) (fr_p0_37 : q_rf f_p0 37 p0_rTo) (fr_p0_38 : q_rf f_p0 38 p0_code) (fr_p0_39 : q_rf f_p0 39 p0_codeNumber) (fr_p0_42 : q_rf f_p0 42 p0_pile) (fr_p0_49 : q_rf f_p0 49 p0_bTight) (fr_p0_50 : q_rf f_p0 50 p0_bLong) (hr_p0_laws : q_rg 2 (0) 3 b_p0_laws) (hr_p0_rFrom : q_rg 12 (0) 1800 b_p0_rFrom) (hr_p0_rTo : q_rg 12 (0) 1800 b_p0_rTo) (hr_p0_steps : q_rg 8 (0) 8 b_p0_steps) (hr_p0_walks : q_rg 2 (0) 4 b_p0_walks) (pf_bm : q_if f_p0 52 bm) (pf_bk : q_if f_p0 43 bk) (ta1 : (0) ≤ a1.toInt ∧ a1.toInt ≤ 3) (ta3 : (0) ≤ a3.toInt ∧ a3.toInt ≤ 2000) (hWB : q_WB bk b_p0_walks b_p0_steps) (hLB : q_LB bk b_p0_laws b_p0_rFrom b_p0_rTo b_p0_code) (hw : 0 ≤ a1.toInt ∧ a1.toInt < (b_p0_walks bk.toNatClampNeg).toInt) (hl : 0 ≤ a2.toInt ∧ ((b_p0_laws bk.toNatClampNeg).toInt = 0 ∨ a2.toInt < (b_p0_laws bk.toNatClampNeg).toInt)) (hm : 1 ≤ bm.toInt) : Met l yX9_isStill zw_r_isStill ({ frames := 5, cells := 0, slots := 0, locals := 116 }) (va_Pc [.ref p0, .int a1, .int a2, .int a3] (q_pre (dC, dI) (zW_r_isStill p0 f_p0 p0_bLong c_p0_bLong b_p0_bLong p0_bTight c_p0_bTight b_p0_bTight p0_code c_p0_code b_p0_code p0_codeNumber c_p0_codeNumber b_p0_codeNumber p0_laws c_p0_laws b_p0_laws p0_pile c_p0_pile b_p0_pile p0_rFrom c_p0_rFrom b_p0_rFrom p0_rTo c_p0_rTo b_p0_rTo p0_steps c_p0_steps b_p0_steps p0_strikes c_p0_strikes b_p0_strikes p0_swings c_p0_swings b_p0_swings p0_walks c_p0_walks b_p0_walks) (zT_r_isStill c_p0_bLong c_p0_bTight c_p0_code c_p0_codeNumber c_p0_laws c_p0_pile c_p0_rFrom c_p0_rTo c_p0_steps c_p0_strikes c_p0_swings c_p0_walks) q_E0 sz)) (q_Qi (dC, dI) (zG_r_isStill p0 f_p0 p0_bLong c_p0_bLong b_p0_bLong p0_bTight c_p0_bTight b_p0_bTight p0_code c_p0_code b_p0_code p0_codeNumber c_p0_codeNumber b_p0_codeNumber p0_laws c_p0_laws b_p0_laws p0_pile c_p0_pile b_p0_pile p0_rFrom c_p0_rFrom b_p0_rFrom p0_rTo c_p0_rTo b_p0_rTo p0_steps c_p0_steps b_p0_steps p0_strikes c_p0_strikes b_p0_strikes p0_swings c_p0_swings b_p0_swings p0_walks c_p0_walks b_p0_walks a1 a2 a3 bm bk) (zA_r_isStill p0 p0_bLong p0_bTight p0_code p0_codeNumber p0_laws p0_pile p0_rFrom p0_rTo p0_steps p0_strikes p0_swings p0_walks) (va_A (zW_r_isStill p0 f_p0 p0_bLong c_p0_bLong b_p0_bLong p0_bTight c_p0_bTight b_p0_bTight p0_code c_p0_code b_p0_code p0_codeNumber c_p0_codeNumber b_p0_codeNumber p0_laws c_p0_laws b_p0_laws p0_pile c_p0_pile b_p0_pile p0_rFrom c_p0_rFrom b_p0_rFrom p0_rTo c_p0_rTo b_p0_rTo p0_steps c_p0_steps b_p0_steps p0_strikes c_p0_strikes b_p0_strikes p0_swings c_p0_swings b_p0_swings p0_walks c_p0_walks b_p0_walks) sz)) 0 0 (va_A (zW_r_isStill p0 f_p0 p0_bLong c_p0_bLong b_p0_bLong p0_bTight c_p0_bTight b_p0_bTight p0_code c_p0_code b_p0_code p0_codeNumber c_p0_codeNumber b_p0_codeNumber p0_laws c_p0_laws b_p0_laws p0_pile c_p0_pile b_p0_pile p0_rFrom c_p0_rFrom b_p0_rFrom p0_rTo c_p0_rTo b_p0_rTo p0_steps c_p0_steps b_p0_steps p0_strikes c_p0_strikes b_p0_strikes p0_swings c_p0_swings b_p0_swings p0_walks c_p0_walks b_p0_walks) sz) := by
  refine Met.ofW (cc := cX9_isStill) (maxL := 6) (ret := (some .boolean)) (by decide) rfl ?_
  intro p e s m args below meth c s₁ B hml hv
  obtain ⟨rfl, hsz, hP, hK, hD0, hE⟩ := hv
  have hx := B.exec
  have hb := B.bytes
  have hr := B.returns
  have hts := atoms_spec (ws := zw_r_isStill) B.pre
  have hown : s.vm.findClass RX9 = some m.cls := findClass_of_methodNamed B.named
  have hlocks := B.notSynchronized
  subst hsz
  have hD := hD0.self (sz := s.heap.size)
  generalize hAe : va_A (zW_r_isStill p0 f_p0 p0_bLong c_p0_bLong b_p0_bLong p0_bTight c_p0_bTight b_p0_bTight p0_code c_p0_code b_p0_code p0_codeNumber c_p0_codeNumber b_p0_codeNumber p0_laws c_p0_laws b_p0_laws p0_pile c_p0_pile b_p0_pile p0_rFrom c_p0_rFrom b_p0_rFrom p0_rTo c_p0_rTo b_p0_rTo p0_steps c_p0_steps b_p0_steps p0_strikes c_p0_strikes b_p0_strikes p0_swings c_p0_swings b_p0_swings p0_walks c_p0_walks b_p0_walks) s.heap.size = A at hD hE ⊢
  have hA : ∀ q : Nat, s.heap.size ≤ q → A q := fun q h => by rw [← hAe]; exact Or.inr h
  have hDa : q_DA A (zA_r_isStill p0 p0_bLong p0_bTight p0_code p0_codeNumber p0_laws p0_pile p0_rFrom p0_rTo p0_steps p0_strikes p0_swings p0_walks) := q_DA.mk hD za_r_isStill
  clear hAe hD0 hD
  have hS : va_S A s.heap s.heap [] := va_S.rf
  have m_0 : (.fieldLink RX9 83 "BowWalkModel" "steps" "[I" : Cond) ∈ zw_r_isStill := List.mem_append_left _ (List.mem_of_getElem? (i := 1) rfl)
  have k_0 := hts _ m_0
  have m_1 : (.fieldLink RX9 291 "BowWalkModel" "bank" "I" : Cond) ∈ zw_r_isStill := List.mem_append_left _ (List.mem_of_getElem? (i := 2) rfl)
  have k_1 := hts _ m_1
  have m_2 : (.methodLink RX9 468 yX9_wouldSlip : Cond) ∈ zw_r_isStill := List.mem_append_left _ (List.mem_of_getElem? (i := 3) rfl)
  have k_2 := hts _ m_2
  have m_3 : (.instanceMethod yX9_wouldSlip : Cond) ∈ zw_r_isStill := List.mem_append_left _ (List.mem_of_getElem? (i := 4) rfl)
  have k_3 := hts _ m_3
  have m_4 : (.selects RX9 yX9_wouldSlip yX9_wouldSlip : Cond) ∈ zw_r_isStill := List.mem_append_left _ (List.mem_of_getElem? (i := 5) rfl)
  have k_4 := hts _ m_4
  have m_5 : (.initialized RX9 : Cond) ∈ zw_r_isStill := List.mem_append_left _ (List.mem_of_getElem? (i := 6) rfl)
  have k_5 := hts _ m_5
  have g_r_wouldSlip : ∀ w ∈ zw_r_wouldSlip, w ∈ zw_r_isStill := fun w h => List.mem_append_right _ (List.mem_append_left _ h)
  have i_X9 : ∀ w ∈ u_ws RX9 TX9 81, w ∈ zw_r_isStill := fun w h => List.mem_append_right _ (List.mem_append_right _ (List.mem_append_left _ h))
  have lt_0 : (0 : Int32).toInt = 0 := by decide
  have lt_1 : (1 : Int32).toInt = 1 := by decide
  have lt_4 : (4 : Int32).toInt = 4 := by decide
  have hl := lv_entry ([.ref p0, .int a1, .int a2, .int a3]) (n := 6) (Nat.le_of_ble_eq_true rfl)
  rw [lg_entry_eq]
  generalize (lg_sl ([.ref p0, .int a1, .int a2, .int a3]) ++ List.replicate (6 - (lg_sl ([.ref p0, .int a1, .int a2, .int a3])).length) Slot.unset).toArray = ls at hl ⊢
  have hl : lv_has ls 6 [(0, .ref p0), (1, .int a1), (2, .int a2), (3, .int a3)] := hl
  have tbm := (OKX9_g52 ho_p0).use pf_bm
  have tbk := (OKX9_g43 ho_p0).use pf_bk
  have hwb := hr_p0_walks bk.toNatClampNeg (q_cl (q_in (by omega) (by omega)))
  have hlb := hr_p0_laws bk.toNatClampNeg (q_cl (q_in (by omega) (by omega)))
  refine lv_iconst (v := 0) hx hb dX9_isStill_0 (by decide) (lv_istore (lv' := [(4, .int 0), (0, .ref p0), (1, .int a1), (2, .int a2), (3, .int a3)]) hx hb dX9_isStill_1 hl (by decide) rfl (fun ls hl => ?_))
  refine lv_iconst (v := 0) hx hb dX9_isStill_3 (by decide) (lv_istore (lv' := [(5, .int 0), (4, .int 0), (0, .ref p0), (1, .int a1), (2, .int a2), (3, .int a3)]) hx hb dX9_isStill_4 hl (by decide) rfl (fun ls hl => ?_))
  have key6 : ∀ (fu6 : Nat) (sl : Int32) (k : Int32) (fz_p0 : List Value) (bz_p0_pile : Nat → Int32) (H : Heap) (locs : List Loc) (ls : Array Slot) (hfu6 : 8 - k.toInt ≤ (fu6 : Int)) (tk : (0) ≤ k.toInt ∧ k.toInt ≤ 8) (ho_fz_p0 : OKX9 fz_p0) (hf_fz_p0 : q_fr [56, 57] f_p0 fz_p0) (fr_fz_p0_13 : q_rf fz_p0 13 p0_walks) (fr_fz_p0_14 : q_rf fz_p0 14 p0_laws) (fr_fz_p0_31 : q_rf fz_p0 31 p0_steps) (fr_fz_p0_32 : q_rf fz_p0 32 p0_strikes) (fr_fz_p0_33 : q_rf fz_p0 33 p0_swings) (fr_fz_p0_36 : q_rf fz_p0 36 p0_rFrom) (fr_fz_p0_37 : q_rf fz_p0 37 p0_rTo) (fr_fz_p0_38 : q_rf fz_p0 38 p0_code) (fr_fz_p0_39 : q_rf fz_p0 39 p0_codeNumber) (fr_fz_p0_42 : q_rf fz_p0 42 p0_pile) (fh_fz_p0_43 : q_if fz_p0 43 bk) (fr_fz_p0_49 : q_rf fz_p0 49 p0_bTight) (fr_fz_p0_50 : q_rf fz_p0 50 p0_bLong) (fh_fz_p0_52 : q_if fz_p0 52 bm), va_P (dC, dI) vwCl (zW_r_isStill p0 fz_p0 p0_bLong c_p0_bLong b_p0_bLong p0_bTight c_p0_bTight b_p0_bTight p0_code c_p0_code b_p0_code p0_codeNumber c_p0_codeNumber b_p0_codeNumber p0_laws c_p0_laws b_p0_laws p0_pile c_p0_pile bz_p0_pile p0_rFrom c_p0_rFrom b_p0_rFrom p0_rTo c_p0_rTo b_p0_rTo p0_steps c_p0_steps b_p0_steps p0_strikes c_p0_strikes b_p0_strikes p0_swings c_p0_swings b_p0_swings p0_walks c_p0_walks b_p0_walks) H → va_S A s.heap H locs → lv_has ls 6 [(5, .int k), (4, .int sl), (0, .ref p0), (1, .int a1), (2, .int a2), (3, .int a3)] → W p l e (headSpec zw_r_isStill { frames := 5, cells := 0, slots := 0, locals := 116 }).room s m ([.ref p0, .int a1, .int a2, .int a3] : List Value).toArray below meth c H locs 0 0 (MQ below (q_Qi (dC, dI) (zG_r_isStill p0 f_p0 p0_bLong c_p0_bLong b_p0_bLong p0_bTight c_p0_bTight b_p0_bTight p0_code c_p0_code b_p0_code p0_codeNumber c_p0_codeNumber b_p0_codeNumber p0_laws c_p0_laws b_p0_laws p0_pile c_p0_pile b_p0_pile p0_rFrom c_p0_rFrom b_p0_rFrom p0_rTo c_p0_rTo b_p0_rTo p0_steps c_p0_steps b_p0_steps p0_strikes c_p0_strikes b_p0_strikes p0_swings c_p0_swings b_p0_swings p0_walks c_p0_walks b_p0_walks a1 a2 a3 bm bk) (zA_r_isStill p0 p0_bLong p0_bTight p0_code p0_codeNumber p0_laws p0_pile p0_rFrom p0_rTo p0_steps p0_strikes p0_swings p0_walks) A) ([.ref p0, .int a1, .int a2, .int a3] : List Value).toArray s 0 0 A) (F0 m 6 ls []) := by
    intro fu6
    induction fu6 using Nat.strongRecOn with
    | ind fu6 ih6 =>
      intro sl k fz_p0 bz_p0_pile H1 lo1 ls hfu6 tk ho_fz_p0 hf_fz_p0 fr_fz_p0_13 fr_fz_p0_14 fr_fz_p0_31 fr_fz_p0_32 fr_fz_p0_33 fr_fz_p0_36 fr_fz_p0_37 fr_fz_p0_38 fr_fz_p0_39 fr_fz_p0_42 fh_fz_p0_43 fr_fz_p0_49 fr_fz_p0_50 fh_fz_p0_52 hP1 hS1 hl
      refine lv_iload hx hb dX9_isStill_6 (lv_at hl 0 rfl) (lv_aload_n hx hb dX9_isStill_8 rfl (lv_at hl 2 rfl) (qg_X9_31 hx hb hts i_X9 hown hK hP1 0 rfl k_0 fr_fz_p0_31 dX9_isStill_9 (lv_iconst (v := 4) hx hb dX9_isStill_12 (by decide) (lv_aload_n hx hb dX9_isStill_13 rfl (lv_at hl 2 rfl) (qg_X9_43 hx hb hts i_X9 hown hK hP1 0 rfl k_1 fh_fz_p0_43 dX9_isStill_14 (lv_imul hx hb dX9_isStill_17 (lv_topi fun v_2 ev_2 => ?_)))))))
      have tv_2 := q_mulc (c := 4) ev_2 (by decide) (by omega) (by omega)
      refine lv_iload_n hx hb dX9_isStill_18 rfl (lv_at hl 3 rfl) (lv_iadd hx hb dX9_isStill_19 (lv_topi fun v_3 ev_3 => ?_))
      have tv_3 := q_add ev_3 (by omega) (by omega)
      refine q_ild hx hb hK hP1 9 8 rfl rfl (q_in (by omega) (by omega)) dX9_isStill_20 (fun v_4 ev_4 => ?_)
      have tv_4 := q_rd' hr_p0_steps (q_in (by omega) (by omega)) ev_4
      have sv_4 : 1 ≤ v_4.toInt := by rw [ev_4]; exact hWB.at (a := a1) (by omega) (by omega) (by omega) (by omega)
      refine lv_icmp_ge (tgt := 55) hx hb dX9_isStill_21 (by decide) (fun c_5 => ?_) (fun c_5 => ?_)
      · have tc_5 := q_ge c_5
        refine lv_iload hx hb dX9_isStill_55 (lv_at hl 1 rfl) ?_
        refine lv_if_ne (tgt := 64) hx hb dX9_isStill_57 (by decide) (fun c_6 => ?_) (fun c_6 => ?_)
        · have tc_6 := q_ne c_6
          refine lv_iconst (v := 0) hx hb dX9_isStill_64 (by decide) ?_
          exact q_zret hx hb hr hlocks (by decide) hS1 dX9_isStill_65 ⟨fz_p0, bz_p0_pile, (Or.inr ⟨rfl, by first | trivial | omega⟩), ho_fz_p0, hf_fz_p0, hP1, za_r_isStill⟩
        · have tc_6 := q_eqN c_6
          refine lv_iconst (v := 1) hx hb dX9_isStill_60 (by decide) (lv_goto (tgt := 65) hx hb dX9_isStill_61 (by decide) ?_)
          exact q_zret hx hb hr hlocks (by decide) hS1 dX9_isStill_65 ⟨fz_p0, bz_p0_pile, (Or.inl ⟨rfl, by first | trivial | omega⟩), ho_fz_p0, hf_fz_p0, hP1, za_r_isStill⟩
      · have tc_5 := q_ltN c_5
        refine lv_iload hx hb dX9_isStill_24 (lv_at hl 1 rfl) ?_
        refine lv_if_ne (tgt := 55) hx hb dX9_isStill_26 (by decide) (fun c_7 => ?_) (fun c_7 => ?_)
        · have tc_7 := q_ne c_7
          refine lv_iload hx hb dX9_isStill_55 (lv_at hl 1 rfl) ?_
          refine lv_if_ne (tgt := 64) hx hb dX9_isStill_57 (by decide) (fun c_8 => ?_) (fun c_8 => ?_)
          · have tc_8 := q_ne c_8
            refine lv_iconst (v := 0) hx hb dX9_isStill_64 (by decide) ?_
            exact q_zret hx hb hr hlocks (by decide) hS1 dX9_isStill_65 ⟨fz_p0, bz_p0_pile, (Or.inr ⟨rfl, by first | trivial | omega⟩), ho_fz_p0, hf_fz_p0, hP1, za_r_isStill⟩
          · have tc_8 := q_eqN c_8
            refine lv_iconst (v := 1) hx hb dX9_isStill_60 (by decide) (lv_goto (tgt := 65) hx hb dX9_isStill_61 (by decide) ?_)
            exact q_zret hx hb hr hlocks (by decide) hS1 dX9_isStill_65 ⟨fz_p0, bz_p0_pile, (Or.inl ⟨rfl, by first | trivial | omega⟩), ho_fz_p0, hf_fz_p0, hP1, za_r_isStill⟩
        · have tc_7 := q_eqN c_7
          refine lv_aload_n hx hb dX9_isStill_29 rfl (lv_at hl 2 rfl) (lv_iload_n hx hb dX9_isStill_30 rfl (lv_at hl 3 rfl) (lv_iload_n hx hb dX9_isStill_31 rfl (lv_at hl 5 rfl) (lv_iload hx hb dX9_isStill_32 (lv_at hl 0 rfl) (lv_iadd hx hb dX9_isStill_34 (lv_topi fun v_9 ev_9 => ?_)))))
          have tv_9 := q_add ev_9 (by omega) (by omega)
          refine lv_iload_n hx hb dX9_isStill_35 rfl (lv_at hl 4 rfl) ?_
          refine q_cVi (As := [.int a1, .int v_9, .int a2]) (rest := []) q_w0 trivial hK hP1 hDa za_r_isStill hS1 hA [0, 1, 2, 3, 4, 5, 6, 7, 8, 9, 10, 11, 12] [0, 1, 2, 3, 4, 5, 6, 7, 8, 9, 10, 11] (by decide +kernel) ⟨hx, hb, hml, hown, hts⟩ (r_wouldSlip l dC dI H1.size p0 fz_p0 p0_bLong c_p0_bLong b_p0_bLong p0_bTight c_p0_bTight b_p0_bTight p0_code c_p0_code b_p0_code p0_codeNumber c_p0_codeNumber b_p0_codeNumber p0_laws c_p0_laws b_p0_laws p0_pile c_p0_pile bz_p0_pile p0_rFrom c_p0_rFrom b_p0_rFrom p0_rTo c_p0_rTo b_p0_rTo p0_steps c_p0_steps b_p0_steps p0_strikes c_p0_strikes b_p0_strikes p0_swings c_p0_swings b_p0_swings p0_walks c_p0_walks b_p0_walks a1 v_9 a2 bm bk ho_fz_p0 fr_fz_p0_13 fr_fz_p0_14 fr_fz_p0_31 fr_fz_p0_32 fr_fz_p0_33 fr_fz_p0_36 fr_fz_p0_37 fr_fz_p0_38 fr_fz_p0_39 fr_fz_p0_42 fr_fz_p0_49 fr_fz_p0_50 hr_p0_laws hr_p0_rFrom hr_p0_rTo hr_p0_steps hr_p0_walks fh_fz_p0_52 fh_fz_p0_43 ((by omega)) ((by have z9 := q_rng v_9; omega)) hWB hLB ((by omega)) ((by omega)) ((by omega))) rfl rfl (cwV 3 hts (p1_gV m_2 m_3 m_4 m_5 g_r_wouldSlip gz_r_wouldSlip) rfl rfl rfl (by decide +kernel) ⟨by decide, by decide⟩) (va_recv hK hP1 (ci := 8) (q0 := 0) rfl rfl) zm_r_wouldSlip rfl hl.1 rfl (Nat.le_of_ble_eq_true rfl) dX9_isStill_36 ⟨by decide, by decide⟩ (fun r_10 H11 lo11 hG11 hS11 => ?_)
          obtain ⟨o_12, o_13, z_14, ho_15, hf_16, hQ11⟩ := hG11
          have hP11 : va_P (dC, dI) vwCl (zW_r_isStill p0 o_12 p0_bLong c_p0_bLong b_p0_bLong p0_bTight c_p0_bTight b_p0_bTight p0_code c_p0_code b_p0_code p0_codeNumber c_p0_codeNumber b_p0_codeNumber p0_laws c_p0_laws b_p0_laws p0_pile c_p0_pile o_13 p0_rFrom c_p0_rFrom b_p0_rFrom p0_rTo c_p0_rTo b_p0_rTo p0_steps c_p0_steps b_p0_steps p0_strikes c_p0_strikes b_p0_strikes p0_swings c_p0_swings b_p0_swings p0_walks c_p0_walks b_p0_walks) H11 := hQ11
          clear hQ11 hP1 hS1
          rcases z_14 with ⟨rfl, z_14⟩ | ⟨rfl, z_14⟩
          · refine lv_if_eq (tgt := 46) hx hb dX9_isStill_39 (by decide) (fun c_17 => absurd c_17 (by decide)) (fun c_17 => ?_)
            refine lv_iconst (v := 1) hx hb dX9_isStill_42 (by decide) (lv_goto (tgt := 47) hx hb dX9_isStill_43 (by decide) (lv_istore (lv' := [(4, .int 1), (5, .int k), (0, .ref p0), (1, .int a1), (2, .int a2), (3, .int a3)]) hx hb dX9_isStill_47 hl (by decide) rfl (fun ls hl => ?_)))
            obtain ⟨v_18, ev_18⟩ : ∃ y : Int32, y = k + 1 := ⟨_, rfl⟩
            have tv_18 := q_add ev_18 (by omega) (by omega)
            refine lv_iinc (v := v_18) (lv' := [(5, .int v_18), (4, .int 1), (0, .ref p0), (1, .int a1), (2, .int a2), (3, .int a3)]) hx hb dX9_isStill_49 hl (k := 1) rfl (by rw [ev_18]; rfl) (by decide) rfl (fun ls hl => ?_)
            refine lv_goto (tgt := 6) hx hb dX9_isStill_52 (by decide) ?_
            exact ih6 (fu6 - 1) (by omega) 1 v_18 o_12 o_13 _ _ _ (by omega) (by omega) ho_15 (hf_fz_p0.tr hf_16 (by decide)) (hf_16.u (by decide) fr_fz_p0_13) (hf_16.u (by decide) fr_fz_p0_14) (hf_16.u (by decide) fr_fz_p0_31) (hf_16.u (by decide) fr_fz_p0_32) (hf_16.u (by decide) fr_fz_p0_33) (hf_16.u (by decide) fr_fz_p0_36) (hf_16.u (by decide) fr_fz_p0_37) (hf_16.u (by decide) fr_fz_p0_38) (hf_16.u (by decide) fr_fz_p0_39) (hf_16.u (by decide) fr_fz_p0_42) (hf_16.u (by decide) fh_fz_p0_43) (hf_16.u (by decide) fr_fz_p0_49) (hf_16.u (by decide) fr_fz_p0_50) (hf_16.u (by decide) fh_fz_p0_52) hP11 hS11 (lv_sub hl [0, 1, 2, 3, 4, 5] rfl)
          · refine lv_if_eq (tgt := 46) hx hb dX9_isStill_39 (by decide) (fun c_19 => ?_) (fun c_19 => absurd c_19 (by decide))
            refine lv_iconst (v := 0) hx hb dX9_isStill_46 (by decide) (lv_istore (lv' := [(4, .int 0), (5, .int k), (0, .ref p0), (1, .int a1), (2, .int a2), (3, .int a3)]) hx hb dX9_isStill_47 hl (by decide) rfl (fun ls hl => ?_))
            obtain ⟨v_20, ev_20⟩ : ∃ y : Int32, y = k + 1 := ⟨_, rfl⟩
            have tv_20 := q_add ev_20 (by omega) (by omega)
            refine lv_iinc (v := v_20) (lv' := [(5, .int v_20), (4, .int 0), (0, .ref p0), (1, .int a1), (2, .int a2), (3, .int a3)]) hx hb dX9_isStill_49 hl (k := 1) rfl (by rw [ev_20]; rfl) (by decide) rfl (fun ls hl => ?_)
            refine lv_goto (tgt := 6) hx hb dX9_isStill_52 (by decide) ?_
            exact ih6 (fu6 - 1) (by omega) 0 v_20 o_12 o_13 _ _ _ (by omega) (by omega) ho_15 (hf_fz_p0.tr hf_16 (by decide)) (hf_16.u (by decide) fr_fz_p0_13) (hf_16.u (by decide) fr_fz_p0_14) (hf_16.u (by decide) fr_fz_p0_31) (hf_16.u (by decide) fr_fz_p0_32) (hf_16.u (by decide) fr_fz_p0_33) (hf_16.u (by decide) fr_fz_p0_36) (hf_16.u (by decide) fr_fz_p0_37) (hf_16.u (by decide) fr_fz_p0_38) (hf_16.u (by decide) fr_fz_p0_39) (hf_16.u (by decide) fr_fz_p0_42) (hf_16.u (by decide) fh_fz_p0_43) (hf_16.u (by decide) fr_fz_p0_49) (hf_16.u (by decide) fr_fz_p0_50) (hf_16.u (by decide) fh_fz_p0_52) hP11 hS11 (lv_sub hl [0, 1, 2, 3, 4, 5] rfl)
  exact key6 8 0 0 f_p0 b_p0_pile _ _ _ (by omega) (by omega) ho_p0 q_fr.rf fr_p0_13 fr_p0_14 fr_p0_31 fr_p0_32 fr_p0_33 fr_p0_36 fr_p0_37 fr_p0_38 fr_p0_39 fr_p0_42 pf_bk fr_p0_49 fr_p0_50 pf_bm hP hS (lv_sub hl [0, 1, 2, 3, 4, 5] rfl)
