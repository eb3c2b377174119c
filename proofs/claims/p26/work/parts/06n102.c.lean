def zo_r_pullIt : List Cond := [.code yX9_pullIt cX9_pullIt 12 (some .int), .fieldLink RX9 396 "BowWalkModel" "bMany" "I", .fieldLink RX9 119 "BowWalkModel" "bTight" "[I", .methodLink RX9 411 yX9_pullOf, .instanceMethod yX9_pullOf, .selects RX9 yX9_pullOf yX9_pullOf, .initialized RX9, .methodLink RX9 414 yX9_rub, .instanceMethod yX9_rub, .selects RX9 yX9_rub yX9_rub, .constantLong RX9 417 (9), .constantLong RX9 419 (10), .fieldLink RX9 122 "BowWalkModel" "bLong" "[I", .methodLink RX9 367 yX9_sideOf, .instanceMethod yX9_sideOf, .selects RX9 yX9_sideOf yX9_sideOf, .constantLong RX9 409 (4)]
def zw_r_pullIt : List Cond := zo_r_pullIt ++ (zw_r_pullOf ++ (zw_r_rub ++ (zw_r_sideOf ++ (wsX90 ++ []))))
theorem gz_r_pullIt : zw_r_pullIt.all goodWord = true := p1_ga (by decide +kernel) (p1_ga gz_r_pullOf (p1_ga gz_r_rub (p1_ga gz_r_sideOf (p1_ga gk_X9 p1_g0))))
theorem iz_r_pullIt : ∀ w ∈ zw_r_pullIt, w ∈ lw_tbl := p1_ia (p1_all [1475, 1089, 1086, 1477, 1479, 79, 116, 1496, 1498, 83, 1500, 1501, 1087, 1481, 1483, 80, 1476] (by decide +kernel)) (p1_ia iz_r_pullOf (p1_ia iz_r_rub (p1_ia iz_r_sideOf (p1_ia ik_X9 p1_i0))))
def zW_r_pullIt (p0 : Nat) (f_p0 : List Value) (p0_bLong : Nat) (c_p0_bLong : ClassId) (b_p0_bLong : Nat → Int32) (p0_bTight : Nat) (c_p0_bTight : ClassId) (b_p0_bTight : Nat → Int32) (p0_code : Nat) (c_p0_code : ClassId) (b_p0_code : Nat → Int32) (p0_codeNumber : Nat) (c_p0_codeNumber : ClassId) (b_p0_codeNumber : Nat → Int32) (p0_laws : Nat) (c_p0_laws : ClassId) (b_p0_laws : Nat → Int32) (p0_pile : Nat) (c_p0_pile : ClassId) (b_p0_pile : Nat → Int32) (p0_rFrom : Nat) (c_p0_rFrom : ClassId) (b_p0_rFrom : Nat → Int32) (p0_rTo : Nat) (c_p0_rTo : ClassId) (b_p0_rTo : Nat → Int32) : va_W := [(p0, .inr (8, f_p0)), (p0_bLong, .inl (c_p0_bLong, 2, .inl b_p0_bLong)), (p0_bTight, .inl (c_p0_bTight, 12, .inl b_p0_bTight)), (p0_code, .inl (c_p0_code, 1800, .inl b_p0_code)), (p0_codeNumber, .inl (c_p0_codeNumber, 1800, .inl b_p0_codeNumber)), (p0_laws, .inl (c_p0_laws, 2, .inl b_p0_laws)), (p0_pile, .inl (c_p0_pile, 90, .inl b_p0_pile)), (p0_rFrom, .inl (c_p0_rFrom, 12, .inl b_p0_rFrom)), (p0_rTo, .inl (c_p0_rTo, 12, .inl b_p0_rTo))]
def zT_r_pullIt (c_p0_bLong : ClassId) (c_p0_bTight : ClassId) (c_p0_code : ClassId) (c_p0_codeNumber : ClassId) (c_p0_laws : ClassId) (c_p0_pile : ClassId) (c_p0_rFrom : ClassId) (c_p0_rTo : ClassId) : List (ClassId × FieldType) := [(c_p0_bLong, .int), (c_p0_bTight, .int), (c_p0_code, .int), (c_p0_codeNumber, .int), (c_p0_laws, .int), (c_p0_pile, .int), (c_p0_rFrom, .int), (c_p0_rTo, .int)]
def zA_r_pullIt (p0 : Nat) (p0_bLong : Nat) (p0_bTight : Nat) (p0_code : Nat) (p0_codeNumber : Nat) (p0_laws : Nat) (p0_pile : Nat) (p0_rFrom : Nat) (p0_rTo : Nat) : List Nat := [p0, p0_bLong, p0_bTight, p0_code, p0_codeNumber, p0_laws, p0_pile, p0_rFrom, p0_rTo]
theorem za_r_pullIt {p0 : Nat} {f_p0 : List Value} {p0_bLong : Nat} {c_p0_bLong : ClassId} {b_p0_bLong : Nat → Int32} {p0_bTight : Nat} {c_p0_bTight : ClassId} {b_p0_bTight : Nat → Int32} {p0_code : Nat} {c_p0_code : ClassId} {b_p0_code : Nat → Int32} {p0_codeNumber : Nat} {c_p0_codeNumber : ClassId} {b_p0_codeNumber : Nat → Int32} {p0_laws : Nat} {c_p0_laws : ClassId} {b_p0_laws : Nat → Int32} {p0_pile : Nat} {c_p0_pile : ClassId} {b_p0_pile : Nat → Int32} {p0_rFrom : Nat} {c_p0_rFrom : ClassId} {b_p0_rFrom : Nat → Int32} {p0_rTo : Nat} {c_p0_rTo : ClassId} {b_p0_rTo : Nat → Int32} : (zW_r_pullIt p0 f_p0 p0_bLong c_p0_bLong b_p0_bLong p0_bTight c_p0_bTight b_p0_bTight p0_code c_p0_code b_p0_code p0_codeNumber c_p0_codeNumber b_p0_codeNumber p0_laws c_p0_laws b_p0_laws p0_pile c_p0_pile b_p0_pile p0_rFrom c_p0_rFrom b_p0_rFrom p0_rTo c_p0_rTo b_p0_rTo).map Prod.fst = (zA_r_pullIt p0 p0_bLong p0_bTight p0_code p0_codeNumber p0_laws p0_pile p0_rFrom p0_rTo) := rfl
def zG_r_pullIt (p0 : Nat) (f_p0 : List Value) (p0_bLong : Nat) (c_p0_bLong : ClassId) (b_p0_bLong : Nat → Int32) (p0_bTight : Nat) (c_p0_bTight : ClassId) (b_p0_bTight : Nat → Int32) (p0_code : Nat) (c_p0_code : ClassId) (b_p0_code : Nat → Int32) (p0_codeNumber : Nat) (c_p0_codeNumber : ClassId) (b_p0_codeNumber : Nat → Int32) (p0_laws : Nat) (c_p0_laws : ClassId) (b_p0_laws : Nat → Int32) (p0_pile : Nat) (c_p0_pile : ClassId) (b_p0_pile : Nat → Int32) (p0_rFrom : Nat) (c_p0_rFrom : ClassId) (b_p0_rFrom : Nat → Int32) (p0_rTo : Nat) (c_p0_rTo : ClassId) (b_p0_rTo : Nat → Int32) (a1 : Int32) (a2 : Int32) (bk : Int32) (r : Int32) (X : va_W → Prop) : Prop := ∃ (y_p0 : List Value) (y_p0_bLong : Nat → Int32) (y_p0_bTight : Nat → Int32) (y_p0_pile : Nat → Int32), OKX9 y_p0 ∧ q_fr [52] f_p0 y_p0 ∧ X (zW_r_pullIt p0 y_p0 p0_bLong c_p0_bLong y_p0_bLong p0_bTight c_p0_bTight y_p0_bTight p0_code c_p0_code b_p0_code p0_codeNumber c_p0_codeNumber b_p0_codeNumber p0_laws c_p0_laws b_p0_laws p0_pile c_p0_pile y_p0_pile p0_rFrom c_p0_rFrom b_p0_rFrom p0_rTo c_p0_rTo b_p0_rTo)
theorem zm_r_pullIt {p0 : Nat} {f_p0 : List Value} {p0_bLong : Nat} {c_p0_bLong : ClassId} {b_p0_bLong : Nat → Int32} {p0_bTight : Nat} {c_p0_bTight : ClassId} {b_p0_bTight : Nat → Int32} {p0_code : Nat} {c_p0_code : ClassId} {b_p0_code : Nat → Int32} {p0_codeNumber : Nat} {c_p0_codeNumber : ClassId} {b_p0_codeNumber : Nat → Int32} {p0_laws : Nat} {c_p0_laws : ClassId} {b_p0_laws : Nat → Int32} {p0_pile : Nat} {c_p0_pile : ClassId} {b_p0_pile : Nat → Int32} {p0_rFrom : Nat} {c_p0_rFrom : ClassId} {b_p0_rFrom : Nat → Int32} {p0_rTo : Nat} {c_p0_rTo : ClassId} {b_p0_rTo : Nat → Int32} {a1 : Int32} {a2 : Int32} {bk : Int32} : ∀ (r : Int32), ∀ X Y : va_W → Prop, (∀ w, X w → Y w) → zG_r_pullIt p0 f_p0 p0_bLong c_p0_bLong b_p0_bLong p0_bTight c_p0_bTight b_p0_bTight p0_code c_p0_code b_p0_code p0_codeNumber c_p0_codeNumber b_p0_codeNumber p0_laws c_p0_laws b_p0_laws p0_pile c_p0_pile b_p0_pile p0_rFrom c_p0_rFrom b_p0_rFrom p0_rTo c_p0_rTo b_p0_rTo a1 a2 bk r X → zG_r_pullIt p0 f_p0 p0_bLong c_p0_bLong b_p0_bLong p0_bTight c_p0_bTight b_p0_bTight p0_code c_p0_code b_p0_code p0_codeNumber c_p0_codeNumber b_p0_codeNumber p0_laws c_p0_laws b_p0_laws p0_pile c_p0_pile b_p0_pile p0_rFrom c_p0_rFrom b_p0_rFrom p0_rTo c_p0_rTo b_p0_rTo a1 a2 bk r Y := fun r X Y h h1 => by obtain ⟨x0, x1, x2, x3, x4, x5, hx⟩ := h1; exact ⟨x0, x1, x2, x3, x4, x5, h _ hx⟩
set_option maxHeartbeats 4000000 in
set_option maxRecDepth 100000 in
theorem r_pullIt (l : Launch) (dC : Nat → ClassId) (dI : Nat → Nat → Nat) (sz : Nat) (p0 : Nat) (f_p0 : List Value) (p0_bLong : Nat) (c_p0_bLong : ClassId) (b_p0_bLong : Nat → Int32) (p0_bTight : Nat) (c_p0_bTight : ClassId) (b_p0_bTight : Nat → Int32) (p0_code : Nat) (c_p0_code : ClassId) (b_p0_code : Nat → Int32) (p0_codeNumber : Nat) (c_p0_codeNumber : ClassId) (b_p0_codeNumber : Nat → Int32) (p0_laws : Nat) (c_p0_laws : ClassId) (b_p0_laws : Nat → Int32) (p0_pile : Nat) (c_p0_pile : ClassId) (b_p0_pile : Nat → Int32) (p0_rFrom : Nat) (c_p0_rFrom : ClassId) (b_p0_rFrom : Nat → Int32) (p0_rTo : Nat) (c_p0_rTo : ClassId) (b_p0_rTo : Nat → Int32) (a1 : Int32) (a2 : Int32) (bk : Int32) (ho_p0 : OKX9 f_p0) (fr_p0_14 : q_rf f_p0 14 p0_laws) (fr_p0_36 : q_rf f_p0 36 p0_rFrom) (fr_p0_37 : q_rf f_p0 37 p0_rTo) (fr_p0_38 : q_rf f_p0 38 p0_code) (fr_p0_39 : q_rf f_p0 39 p0_codeNumber) (fr_p0_42 : q_rf f_p0 42 p0_pile) (fr_p0_49 : q_rf f_p0 49 p0_bTight) (fr_p0_50 : q_rf f_p0 50 p0_bLong) (hr_p0_laws : q_rg 2 (0) 3 b_p0_laws) (hr_p0_rFrom : q_rg 12 (0) 1800 b_p0_rFrom) (hr_p0_rTo : q_rg 12 (0) 1800 b_p0_rTo) (pf_bk : q_if f_p0 43 bk) (hLB : q_LB bk b_p0_laws b_p0_rFrom b_p0_rTo b_p0_code) (hl : 0 ≤ a1.toInt ∧ ((b_p0_laws bk.toNatClampNeg).toInt = 0 ∨ a1.toInt < (b_p0_laws bk.toNatClampNeg).toInt)) : Met l yX9_pullIt zw_r_pullIt ({ frames := 4, cells := 0, slots := 0, locals := 91 }) (va_Pc [.ref p0, .int a1, .int a2] (q_pre (dC, dI) (zW_r_pullIt p0 f_p0 p0_bLong c_p0_bLong b_p0_bLong p0_bTight c_p0_bTight b_p0_bTight p0_code c_p0_code b_p0_code p0_codeNumber c_p0_codeNumber b_p0_codeNumber p0_laws c_p0_laws b_p0_laws p0_pile c_p0_pile b_p0_pile p0_rFrom c_p0_rFrom b_p0_rFrom p0_rTo c_p0_rTo b_p0_rTo) (zT_r_pullIt c_p0_bLong c_p0_bTight c_p0_code c_p0_codeNumber c_p0_laws c_p0_pile c_p0_rFrom c_p0_rTo) q_E0 sz)) (q_Qi (dC, dI) (zG_r_pullIt p0 f_p0 p0_bLong c_p0_bLong b_p0_bLong p0_bTight c_p0_bTight b_p0_bTight p0_code c_p0_code b_p0_code p0_codeNumber c_p0_codeNumber b_p0_codeNumber p0_laws c_p0_laws b_p0_laws p0_pile c_p0_pile b_p0_pile p0_rFrom c_p0_rFrom b_p0_rFrom p0_rTo c_p0_rTo b_p0_rTo a1 a2 bk) (zA_r_pullIt p0 p0_bLong p0_bTight p0_code p0_codeNumber p0_laws p0_pile p0_rFrom p0_rTo) (va_A (zW_r_pullIt p0 f_p0 p0_bLong c_p0_bLong b_p0_bLong p0_bTight c_p0_bTight b_p0_bTight p0_code c_p0_code b_p0_code p0_codeNumber c_p0_codeNumber b_p0_codeNumber p0_laws c_p0_laws b_p0_laws p0_pile c_p0_pile b_p0_pile p0_rFrom c_p0_rFrom b_p0_rFrom p0_rTo c_p0_rTo b_p0_rTo) sz)) 0 0 (va_A (zW_r_pullIt p0 f_p0 p0_bLong c_p0_bLong b_p0_bLong p0_bTight c_p0_bTight b_p0_bTight p0_code c_p0_code b_p0_code p0_codeNumber c_p0_codeNumber b_p0_codeNumber p0_laws c_p0_laws b_p0_laws p0_pile c_p0_pile b_p0_pile p0_rFrom c_p0_rFrom b_p0_rFrom p0_rTo c_p0_rTo b_p0_rTo) sz) := by
  refine Met.ofW (cc := cX9_pullIt) (maxL := 12) (ret := (some .int)) (by decide) rfl ?_
  intro p e s m args below meth c s₁ B hml hv
  obtain ⟨rfl, hsz, hP, hK, hD0, hE⟩ := hv
  have hx := B.exec
  have hb := B.bytes
  have hr := B.returns
  have hts := atoms_spec (ws := zw_r_pullIt) B.pre
  have hown : s.vm.findClass RX9 = some m.cls := findClass_of_methodNamed B.named
  have hlocks := B.notSynchronized
  subst hsz
  have hD := hD0.self (sz := s.heap.size)
  generalize hAe : va_A (zW_r_pullIt p0 f_p0 p0_bLong c_p0_bLong b_p0_bLong p0_bTight c_p0_bTight b_p0_bTight p0_code c_p0_code b_p0_code p0_codeNumber c_p0_codeNumber b_p0_codeNumber p0_laws c_p0_laws b_p0_laws p0_pile c_p0_pile b_p0_pile p0_rFrom c_p0_rFrom b_p0_rFrom p0_rTo c_p0_rTo b_p0_rTo) s.heap.size = A at hD hE ⊢
  have hA : ∀ q : Nat, s.heap.size ≤ q → A q := fun q h => by rw [← hAe]; exact Or.inr h
  have hDa : q_DA A (zA_r_pullIt p0 p0_bLong p0_bTight p0_code p0_codeNumber p0_laws p0_pile p0_rFrom p0_rTo) := q_DA.mk hD za_r_pullIt
  clear hAe hD0 hD
  have hS : va_S A s.heap s.heap [] := va_S.rf
  have m_0 : (.fieldLink RX9 396 "BowWalkModel" "bMany" "I" : Cond) ∈ zw_r_pullIt := List.mem_append_left _ (List.mem_of_getElem? (i := 1) rfl)
  have k_0 := hts _ m_0
  have m_1 : (.fieldLink RX9 119 "BowWalkModel" "bTight" "[I" : Cond) ∈ zw_r_pullIt := List.mem_append_left _ (List.mem_of_getElem? (i := 2) rfl)
  have k_1 := hts _ m_1
  have m_2 : (.methodLink RX9 411 yX9_pullOf : Cond) ∈ zw_r_pullIt := List.mem_append_left _ (List.mem_of_getElem? (i := 3) rfl)
  have k_2 := hts _ m_2
  have m_3 : (.instanceMethod yX9_pullOf : Cond) ∈ zw_r_pullIt := List.mem_append_left _ (List.mem_of_getElem? (i := 4) rfl)
  have k_3 := hts _ m_3
  have m_4 : (.selects RX9 yX9_pullOf yX9_pullOf : Cond) ∈ zw_r_pullIt := List.mem_append_left _ (List.mem_of_getElem? (i := 5) rfl)
  have k_4 := hts _ m_4
  have m_5 : (.initialized RX9 : Cond) ∈ zw_r_pullIt := List.mem_append_left _ (List.mem_of_getElem? (i := 6) rfl)
  have k_5 := hts _ m_5
  have m_6 : (.methodLink RX9 414 yX9_rub : Cond) ∈ zw_r_pullIt := List.mem_append_left _ (List.mem_of_getElem? (i := 7) rfl)
  have k_6 := hts _ m_6
  have m_7 : (.instanceMethod yX9_rub : Cond) ∈ zw_r_pullIt := List.mem_append_left _ (List.mem_of_getElem? (i := 8) rfl)
  have k_7 := hts _ m_7
  have m_8 : (.selects RX9 yX9_rub yX9_rub : Cond) ∈ zw_r_pullIt := List.mem_append_left _ (List.mem_of_getElem? (i := 9) rfl)
  have k_8 := hts _ m_8
  have m_9 : (.constantLong RX9 417 (9) : Cond) ∈ zw_r_pullIt := List.mem_append_left _ (List.mem_of_getElem? (i := 10) rfl)
  have k_9 := hts _ m_9
  have m_10 : (.constantLong RX9 419 (10) : Cond) ∈ zw_r_pullIt := List.mem_append_left _ (List.mem_of_getElem? (i := 11) rfl)
  have k_10 := hts _ m_10
  have m_11 : (.fieldLink RX9 122 "BowWalkModel" "bLong" "[I" : Cond) ∈ zw_r_pullIt := List.mem_append_left _ (List.mem_of_getElem? (i := 12) rfl)
  have k_11 := hts _ m_11
  have m_12 : (.methodLink RX9 367 yX9_sideOf : Cond) ∈ zw_r_pullIt := List.mem_append_left _ (List.mem_of_getElem? (i := 13) rfl)
  have k_12 := hts _ m_12
  have m_13 : (.instanceMethod yX9_sideOf : Cond) ∈ zw_r_pullIt := List.mem_append_left _ (List.mem_of_getElem? (i := 14) rfl)
  have k_13 := hts _ m_13
  have m_14 : (.selects RX9 yX9_sideOf yX9_sideOf : Cond) ∈ zw_r_pullIt := List.mem_append_left _ (List.mem_of_getElem? (i := 15) rfl)
  have k_14 := hts _ m_14
  have m_15 : (.constantLong RX9 409 (4) : Cond) ∈ zw_r_pullIt := List.mem_append_left _ (List.mem_of_getElem? (i := 16) rfl)
  have k_15 := hts _ m_15
  have g_r_pullOf : ∀ w ∈ zw_r_pullOf, w ∈ zw_r_pullIt := fun w h => List.mem_append_right _ (List.mem_append_left _ h)
  have g_r_rub : ∀ w ∈ zw_r_rub, w ∈ zw_r_pullIt := fun w h => List.mem_append_right _ (List.mem_append_right _ (List.mem_append_left _ h))
  have g_r_sideOf : ∀ w ∈ zw_r_sideOf, w ∈ zw_r_pullIt := fun w h => List.mem_append_right _ (List.mem_append_right _ (List.mem_append_right _ (List.mem_append_left _ h)))
  have i_X9 : ∀ w ∈ u_ws RX9 TX9 81, w ∈ zw_r_pullIt := fun w h => List.mem_append_right _ (List.mem_append_right _ (List.mem_append_right _ (List.mem_append_right _ (List.mem_append_left _ h))))
  have lt_m1 : ((-1) : Int32).toInt = -1 := by decide
  have lt_0 : (0 : Int32).toInt = 0 := by decide
  have lt_1 : (1 : Int32).toInt = 1 := by decide
  have hl := lv_entry ([.ref p0, .int a1, .int a2]) (n := 12) (Nat.le_of_ble_eq_true rfl)
  rw [lg_entry_eq]
  generalize (lg_sl ([.ref p0, .int a1, .int a2]) ++ List.replicate (12 - (lg_sl ([.ref p0, .int a1, .int a2])).length) Slot.unset).toArray = ls at hl ⊢
  have hl : lv_has ls 12 [(0, .ref p0), (1, .int a1), (2, .int a2)] := hl
  have tbk := (OKX9_g43 ho_p0).use pf_bk
  have hlb := hr_p0_laws bk.toNatClampNeg (q_cl (q_in (by omega) (by omega)))
  refine lv_iconst (v := 0) hx hb dX9_pullIt_0 (by decide) (lv_istore_n (lv' := [(3, .int 0), (0, .ref p0), (1, .int a1), (2, .int a2)]) hx hb dX9_pullIt_1 rfl hl (by decide) rfl (fun ls hl => ?_))
  refine lv_iconst (v := 0) hx hb dX9_pullIt_2 (by decide) (lv_istore (lv' := [(4, .int 0), (3, .int 0), (0, .ref p0), (1, .int a1), (2, .int a2)]) hx hb dX9_pullIt_3 hl (by decide) rfl (fun ls hl => ?_))
  refine lv_aload_n hx hb dX9_pullIt_5 rfl (lv_at hl 2 rfl) ?_
  obtain ⟨v_1, fv_1, tv_1⟩ := OKX9_g52 ho_p0
  refine qg_X9_52 hx hb hts i_X9 hown hK hP 0 rfl k_0 fv_1 dX9_pullIt_6 (lv_iconst (v := 1) hx hb dX9_pullIt_9 (by decide) (lv_isub hx hb dX9_pullIt_10 (lv_topi fun v_2 ev_2 => ?_)))
  have tv_2 := q_sub ev_2 (by omega) (by omega)
  refine lv_istore (lv' := [(5, .int v_2), (4, .int 0), (3, .int 0), (0, .ref p0), (1, .int a1), (2, .int a2)]) hx hb dX9_pullIt_11 hl (by decide) rfl (fun ls hl => ?_)
  have key13 : ∀ (fu13 : Nat) (su : Int32) (ou : Int32) (ii : Int32) (bz_p0_bLong : Nat → Int32) (bz_p0_bTight : Nat → Int32) (bz_p0_pile : Nat → Int32) (H : Heap) (locs : List Loc) (ls : Array Slot) (hfu13 : ii.toInt + 1 ≤ (fu13 : Int)) (tii : (-1) ≤ ii.toInt ∧ ii.toInt ≤ 11), va_P (dC, dI) vwCl (zW_r_pullIt p0 f_p0 p0_bLong c_p0_bLong bz_p0_bLong p0_bTight c_p0_bTight bz_p0_bTight p0_code c_p0_code b_p0_code p0_codeNumber c_p0_codeNumber b_p0_codeNumber p0_laws c_p0_laws b_p0_laws p0_pile c_p0_pile bz_p0_pile p0_rFrom c_p0_rFrom b_p0_rFrom p0_rTo c_p0_rTo b_p0_rTo) H → va_S A s.heap H locs → lv_has ls 12 [(5, .int ii), (4, .int ou), (3, .int su), (0, .ref p0), (1, .int a1), (2, .int a2)] → W p l e (headSpec zw_r_pullIt { frames := 4, cells := 0, slots := 0, locals := 91 }).room s m ([.ref p0, .int a1, .int a2] : List Value).toArray below meth c H locs 0 0 (MQ below (q_Qi (dC, dI) (zG_r_pullIt p0 f_p0 p0_bLong c_p0_bLong b_p0_bLong p0_bTight c_p0_bTight b_p0_bTight p0_code c_p0_code b_p0_code p0_codeNumber c_p0_codeNumber b_p0_codeNumber p0_laws c_p0_laws b_p0_laws p0_pile c_p0_pile b_p0_pile p0_rFrom c_p0_rFrom b_p0_rFrom p0_rTo c_p0_rTo b_p0_rTo a1 a2 bk) (zA_r_pullIt p0 p0_bLong p0_bTight p0_code p0_codeNumber p0_laws p0_pile p0_rFrom p0_rTo) A) ([.ref p0, .int a1, .int a2] : List Value).toArray s 0 0 A) (F0 m 13 ls []) := by
    intro fu13
    induction fu13 using Nat.strongRecOn with
    | ind fu13 ih13 =>
      intro su ou ii bz_p0_bLong bz_p0_bTight bz_p0_pile H3 lo3 ls hfu13 tii hP3 hS3 hl
      refine lv_iload hx hb dX9_pullIt_13 (lv_at hl 0 rfl) ?_
      refine lv_if_lt (tgt := 169) hx hb dX9_pullIt_15 (by decide) (fun c_4 => ?_) (fun c_4 => ?_)
      · have tc_4 := q_lt c_4
        have key169 : ∀ (fu169 : Nat) (fz_p0 : List Value) (bmv : Int32) (H : Heap) (locs : List Loc) (ls : Array Slot) (hfu169 : bmv.toInt ≤ (fu169 : Int)) (ho_fz_p0 : OKX9 fz_p0) (hf_fz_p0 : q_fr [52] f_p0 fz_p0) (fr_fz_p0_14 : q_rf fz_p0 14 p0_laws) (fr_fz_p0_36 : q_rf fz_p0 36 p0_rFrom) (fr_fz_p0_37 : q_rf fz_p0 37 p0_rTo) (fr_fz_p0_38 : q_rf fz_p0 38 p0_code) (fr_fz_p0_39 : q_rf fz_p0 39 p0_codeNumber) (fr_fz_p0_42 : q_rf fz_p0 42 p0_pile) (fh_fz_p0_43 : q_if fz_p0 43 bk) (fr_fz_p0_49 : q_rf fz_p0 49 p0_bTight) (fr_fz_p0_50 : q_rf fz_p0 50 p0_bLong) (fv_fz_p0_52 : q_if fz_p0 52 bmv) (tbmv : (0) ≤ bmv.toInt ∧ bmv.toInt ≤ 12), va_P (dC, dI) vwCl (zW_r_pullIt p0 fz_p0 p0_bLong c_p0_bLong bz_p0_bLong p0_bTight c_p0_bTight bz_p0_bTight p0_code c_p0_code b_p0_code p0_codeNumber c_p0_codeNumber b_p0_codeNumber p0_laws c_p0_laws b_p0_laws p0_pile c_p0_pile bz_p0_pile p0_rFrom c_p0_rFrom b_p0_rFrom p0_rTo c_p0_rTo b_p0_rTo) H → va_S A s.heap H locs → lv_has ls 12 [(5, .int ii), (4, .int ou), (3, .int su), (0, .ref p0), (1, .int a1), (2, .int a2)] → W p l e (headSpec zw_r_pullIt { frames := 4, cells := 0, slots := 0, locals := 91 }).room s m ([.ref p0, .int a1, .int a2] : List Value).toArray below meth c H locs 0 0 (MQ below (q_Qi (dC, dI) (zG_r_pullIt p0 f_p0 p0_bLong c_p0_bLong b_p0_bLong p0_bTight c_p0_bTight b_p0_bTight p0_code c_p0_code b_p0_code p0_codeNumber c_p0_codeNumber b_p0_codeNumber p0_laws c_p0_laws b_p0_laws p0_pile c_p0_pile b_p0_pile p0_rFrom c_p0_rFrom b_p0_rFrom p0_rTo c_p0_rTo b_p0_rTo a1 a2 bk) (zA_r_pullIt p0 p0_bLong p0_bTight p0_code p0_codeNumber p0_laws p0_pile p0_rFrom p0_rTo) A) ([.ref p0, .int a1, .int a2] : List Value).toArray s 0 0 A) (F0 m 169 ls []) := by
          intro fu169
          induction fu169 using Nat.strongRecOn with
          | ind fu169 ih169 =>
            intro fz_p0 bmv H5 lo5 ls hfu169 ho_fz_p0 hf_fz_p0 fr_fz_p0_14 fr_fz_p0_36 fr_fz_p0_37 fr_fz_p0_38 fr_fz_p0_39 fr_fz_p0_42 fh_fz_p0_43 fr_fz_p0_49 fr_fz_p0_50 fv_fz_p0_52 tbmv hP5 hS5 hl
            refine lv_aload_n hx hb dX9_pullIt_169 rfl (lv_at hl 3 rfl) (qg_X9_52 hx hb hts i_X9 hown hK hP5 0 rfl k_0 fv_fz_p0_52 dX9_pullIt_170 ?_)
            refine lv_if_le (tgt := 203) hx hb dX9_pullIt_173 (by decide) (fun c_6 => ?_) (fun c_6 => ?_)
            · have tc_6 := q_le c_6
              refine lv_iload_n hx hb dX9_pullIt_203 rfl (lv_at hl 2 rfl) ?_
              exact q_iret hx hb hr hlocks hS5 dX9_pullIt_204 ⟨fz_p0, bz_p0_bLong, bz_p0_bTight, bz_p0_pile, ho_fz_p0, hf_fz_p0, hP5, za_r_pullIt⟩
            · have tc_6 := q_gtN c_6
              refine lv_aload_n hx hb dX9_pullIt_176 rfl (lv_at hl 3 rfl) (qg_X9_49 hx hb hts i_X9 hown hK hP5 0 rfl k_1 fr_fz_p0_49 dX9_pullIt_177 (lv_aload_n hx hb dX9_pullIt_180 rfl (lv_at hl 3 rfl) (qg_X9_52 hx hb hts i_X9 hown hK hP5 0 rfl k_0 fv_fz_p0_52 dX9_pullIt_181 (lv_iconst (v := 1) hx hb dX9_pullIt_184 (by decide) (lv_isub hx hb dX9_pullIt_185 (lv_topi fun v_7 ev_7 => ?_))))))
              have tv_7 := q_sub ev_7 (by omega) (by omega)
              refine q_ild hx hb hK hP5 2 1 rfl rfl (q_in (by omega) (by omega)) dX9_pullIt_186 (fun v_8 ev_8 => ?_)
              refine lv_if_ne (tgt := 203) hx hb dX9_pullIt_187 (by decide) (fun c_9 => ?_) (fun c_9 => ?_)
              · have tc_9 := q_ne c_9
                refine lv_iload_n hx hb dX9_pullIt_203 rfl (lv_at hl 2 rfl) ?_
                exact q_iret hx hb hr hlocks hS5 dX9_pullIt_204 ⟨fz_p0, bz_p0_bLong, bz_p0_bTight, bz_p0_pile, ho_fz_p0, hf_fz_p0, hP5, za_r_pullIt⟩
              · have tc_9 := q_eqN c_9
                refine lv_aload_n hx hb dX9_pullIt_190 rfl (lv_at hl 3 rfl) (lv_dup hx hb dX9_pullIt_191 rfl (qg_X9_52 hx hb hts i_X9 hown hK hP5 0 rfl k_0 fv_fz_p0_52 dX9_pullIt_192 (lv_iconst (v := 1) hx hb dX9_pullIt_195 (by decide) (lv_isub hx hb dX9_pullIt_196 (lv_topi fun v_10 ev_10 => ?_)))))
                have tv_10 := q_sub ev_10 (by omega) (by omega)
                refine qp_X9_52 hx hb hts i_X9 hown hK hP5 hDa za_r_pullIt hS5 0 rfl k_0 (OKX9_l ho_fz_p0) dX9_pullIt_197 (fun H11 lo11 fs11 efs11 (hP11 : va_P (dC, dI) vwCl (zW_r_pullIt p0 fs11 p0_bLong c_p0_bLong bz_p0_bLong p0_bTight c_p0_bTight bz_p0_bTight p0_code c_p0_code b_p0_code p0_codeNumber c_p0_codeNumber b_p0_codeNumber p0_laws c_p0_laws b_p0_laws p0_pile c_p0_pile bz_p0_pile p0_rFrom c_p0_rFrom b_p0_rFrom p0_rTo c_p0_rTo b_p0_rTo) H11) hS11 => ?_)
                have ho11 := OKX9_p52 ho_fz_p0 efs11 ⟨by omega, by omega⟩
                clear hP5 hS5
                refine lv_goto (tgt := 169) hx hb dX9_pullIt_200 (by decide) ?_
                exact ih169 (fu169 - 1) (by omega) fs11 v_10 _ _ _ (by omega) ho11 (hf_fz_p0.st efs11 (by decide)) (q_sn efs11 (by decide) fr_fz_p0_14) (q_sn efs11 (by decide) fr_fz_p0_36) (q_sn efs11 (by decide) fr_fz_p0_37) (q_sn efs11 (by decide) fr_fz_p0_38) (q_sn efs11 (by decide) fr_fz_p0_39) (q_sn efs11 (by decide) fr_fz_p0_42) (q_sn efs11 (by decide) fh_fz_p0_43) (q_sn efs11 (by decide) fr_fz_p0_49) (q_sn efs11 (by decide) fr_fz_p0_50) (q_sa efs11 (OKX9_l ho_fz_p0) (by decide)) (by omega) hP11 hS11 (lv_sub hl [0, 1, 2, 3, 4, 5] rfl)
        exact key169 12 f_p0 v_1 _ _ _ (by omega) ho_p0 q_fr.rf fr_p0_14 fr_p0_36 fr_p0_37 fr_p0_38 fr_p0_39 fr_p0_42 pf_bk fr_p0_49 fr_p0_50 fv_1 (by omega) hP3 hS3 (lv_sub hl [0, 1, 2, 3, 4, 5] rfl)
      · have tc_4 := q_geN c_4
        refine lv_iload hx hb dX9_pullIt_18 (lv_at hl 0 rfl) (lv_aload_n hx hb dX9_pullIt_20 rfl (lv_at hl 3 rfl) (qg_X9_52 hx hb hts i_X9 hown hK hP3 0 rfl k_0 fv_1 dX9_pullIt_21 (lv_iconst (v := 1) hx hb dX9_pullIt_24 (by decide) (lv_isub hx hb dX9_pullIt_25 (lv_topi fun v_12 ev_12 => ?_)))))
        have tv_12 := q_sub ev_12 (by omega) (by omega)
        refine lv_icmp_ge (tgt := 39) hx hb dX9_pullIt_26 (by decide) (fun c_13 => ?_) (fun c_13 => ?_)
        · have tc_13 := q_ge c_13
          refine lv_iload_n hx hb dX9_pullIt_39 rfl (lv_at hl 5 rfl) ?_
          refine lv_if_lt (tgt := 48) hx hb dX9_pullIt_40 (by decide) (fun c_14 => ?_) (fun c_14 => ?_)
          · have tc_14 := q_lt c_14
            refine lv_aload_n hx hb dX9_pullIt_48 rfl (lv_at hl 3 rfl) (lv_iload_n hx hb dX9_pullIt_49 rfl (lv_at hl 4 rfl) (lv_iload hx hb dX9_pullIt_50 (lv_at hl 0 rfl) ?_))
            refine q_cVi (As := [.int a1, .int ii]) (rest := []) q_w0 trivial hK hP3 hDa za_r_pullIt hS3 hA [0, 1, 2, 3, 4, 5, 6, 7, 8] [0, 1, 2, 3, 4, 5, 6, 7] (by decide +kernel) ⟨hx, hb, hml, hown, hts⟩ (r_pullOf l dC dI H3.size p0 f_p0 p0_bLong c_p0_bLong bz_p0_bLong p0_bTight c_p0_bTight bz_p0_bTight p0_code c_p0_code b_p0_code p0_codeNumber c_p0_codeNumber b_p0_codeNumber p0_laws c_p0_laws b_p0_laws p0_pile c_p0_pile bz_p0_pile p0_rFrom c_p0_rFrom b_p0_rFrom p0_rTo c_p0_rTo b_p0_rTo a1 ii bk ho_p0 fr_p0_14 fr_p0_36 fr_p0_37 fr_p0_38 fr_p0_39 fr_p0_42 fr_p0_49 fr_p0_50 hr_p0_laws hr_p0_rFrom hr_p0_rTo pf_bk ((by omega)) hLB ((by omega))) rfl rfl (cwV 2 hts (p1_gV m_2 m_3 m_4 m_5 g_r_pullOf gz_r_pullOf) rfl rfl rfl (by decide +kernel) ⟨by decide, by decide⟩) (va_recv hK hP3 (ci := 8) (q0 := 0) rfl rfl) zm_r_pullOf rfl hl.1 rfl (Nat.le_of_ble_eq_true rfl) dX9_pullIt_52 ⟨by decide, by decide⟩ (fun r_15 H16 lo16 hG16 hS16 => ?_)
            obtain ⟨o_17, hQ16⟩ := hG16
            have hP16 : va_P (dC, dI) vwCl (zW_r_pullIt p0 f_p0 p0_bLong c_p0_bLong bz_p0_bLong p0_bTight c_p0_bTight bz_p0_bTight p0_code c_p0_code b_p0_code p0_codeNumber c_p0_codeNumber b_p0_codeNumber p0_laws c_p0_laws b_p0_laws p0_pile c_p0_pile o_17 p0_rFrom c_p0_rFrom b_p0_rFrom p0_rTo c_p0_rTo b_p0_rTo) H16 := hQ16
            clear hQ16 hP3 hS3
            refine lv_i2l hx hb dX9_pullIt_55 rfl (lv_topl fun w_18 ew_18 => lv_lstore (lv' := [(6, .long w_18), (5, .int ii), (4, .int ou), (3, .int su), (0, .ref p0), (1, .int a1), (2, .int a2)]) hx hb dX9_pullIt_56 hl (by decide) rfl (fun ls hl => ?_))
            refine lv_lload hx hb dX9_pullIt_58 (lv_at hl 0 rfl) (lv_aload_n hx hb dX9_pullIt_60 rfl (lv_at hl 4 rfl) (lv_iload_n hx hb dX9_pullIt_61 rfl (lv_at hl 5 rfl) (lv_iload hx hb dX9_pullIt_62 (lv_at hl 1 rfl) ?_)))
            refine q_cVi (As := [.int a1, .int ii]) (rest := [.long w_18]) q_w0 trivial hK hP16 hDa za_r_pullIt hS16 hA [0, 1, 2, 3, 4, 5, 6, 7, 8] [0, 1, 2, 3, 4, 5, 6, 7] (by decide +kernel) ⟨hx, hb, hml, hown, hts⟩ (r_rub l dC dI H16.size p0 f_p0 p0_bLong c_p0_bLong bz_p0_bLong p0_bTight c_p0_bTight bz_p0_bTight p0_code c_p0_code b_p0_code p0_codeNumber c_p0_codeNumber b_p0_codeNumber p0_laws c_p0_laws b_p0_laws p0_pile c_p0_pile o_17 p0_rFrom c_p0_rFrom b_p0_rFrom p0_rTo c_p0_rTo b_p0_rTo a1 ii bk ho_p0 fr_p0_14 fr_p0_36 fr_p0_37 fr_p0_38 fr_p0_39 fr_p0_42 fr_p0_49 fr_p0_50 hr_p0_laws hr_p0_rFrom hr_p0_rTo pf_bk ((by omega)) hLB ((by omega))) rfl rfl (cwV 2 hts (p1_gV m_6 m_7 m_8 m_5 g_r_rub gz_r_rub) rfl rfl rfl (by decide +kernel) ⟨by decide, by decide⟩) (va_recv hK hP16 (ci := 8) (q0 := 0) rfl rfl) zm_r_rub rfl hl.1 rfl (Nat.le_of_ble_eq_true rfl) dX9_pullIt_64 ⟨by decide, by decide⟩ (fun r_19 H20 lo20 hG20 hS20 => ?_)
            obtain ⟨o_21, hQ20⟩ := hG20
            have hP20 : va_P (dC, dI) vwCl (zW_r_pullIt p0 f_p0 p0_bLong c_p0_bLong bz_p0_bLong p0_bTight c_p0_bTight bz_p0_bTight p0_code c_p0_code b_p0_code p0_codeNumber c_p0_codeNumber b_p0_codeNumber p0_laws c_p0_laws b_p0_laws p0_pile c_p0_pile o_21 p0_rFrom c_p0_rFrom b_p0_rFrom p0_rTo c_p0_rTo b_p0_rTo) H20 := hQ20
            clear hQ20 hP16 hS16
            refine lv_i2l hx hb dX9_pullIt_67 rfl (lv_topl fun w_22 ew_22 => lv_lsub hx hb dX9_pullIt_68 (lv_topl fun w_23 ew_23 => lv_lstore (lv' := [(8, .long w_23), (6, .long w_18), (5, .int ii), (4, .int ou), (3, .int su), (0, .ref p0), (1, .int a1), (2, .int a2)]) hx hb dX9_pullIt_69 hl (by decide) rfl (fun ls hl => ?_)))
            refine lv_lload hx hb dX9_pullIt_71 (lv_at hl 0 rfl) (lv_lconst (v := 0) hx hb dX9_pullIt_73 (by decide) (W.lcmp hx hb dX9_pullIt_74 (lv_topi fun v_24 ev_24 => ?_)))
            refine lv_if_gt (tgt := 81) hx hb dX9_pullIt_75 (by decide) (fun c_25 => ?_) (fun c_25 => ?_)
            · have tc_25 := q_gt c_25
              refine lv_lload hx hb dX9_pullIt_81 (lv_at hl 0 rfl) (lv_ldc2 (v := 9) hx hb hown k_9 dX9_pullIt_83 (lv_ladd hx hb dX9_pullIt_86 (lv_topl fun w_26 ew_26 => lv_ldc2 (v := 10) hx hb hown k_10 dX9_pullIt_87 (lv_ldiv hx hb dX9_pullIt_90 (by decide) (lv_topl fun w_27 ew_27 => lv_lstore (lv' := [(10, .long w_27), (8, .long w_23), (6, .long w_18), (5, .int ii), (4, .int ou), (3, .int su), (0, .ref p0), (1, .int a1), (2, .int a2)]) hx hb dX9_pullIt_91 hl (by decide) rfl (fun ls hl => ?_))))))
              refine lv_lload hx hb dX9_pullIt_93 (lv_at hl 0 rfl) (lv_aload_n hx hb dX9_pullIt_95 rfl (lv_at hl 6 rfl) (qg_X9_49 hx hb hts i_X9 hown hK hP20 0 rfl k_1 fr_p0_49 dX9_pullIt_96 (lv_iload hx hb dX9_pullIt_99 (lv_at hl 3 rfl) (q_ild hx hb hK hP20 2 1 rfl rfl (q_in (by omega) (by omega)) dX9_pullIt_101 (fun v_28 ev_28 => ?_)))))
              refine lv_i2l hx hb dX9_pullIt_102 rfl (lv_topl fun w_29 ew_29 => W.lcmp hx hb dX9_pullIt_103 (lv_topi fun v_30 ev_30 => ?_))
              refine lv_if_le (tgt := 117) hx hb dX9_pullIt_104 (by decide) (fun c_31 => ?_) (fun c_31 => ?_)
              · have tc_31 := q_le c_31
                refine lv_lload hx hb dX9_pullIt_117 (lv_at hl 0 rfl) (lv_l2i hx hb dX9_pullIt_119 rfl (lv_topi fun v_32 ev_32 => lv_istore (lv' := [(4, .int v_32), (10, .long w_27), (8, .long w_23), (6, .long w_18), (5, .int ii), (3, .int su), (0, .ref p0), (1, .int a1), (2, .int a2)]) hx hb dX9_pullIt_120 hl (by decide) rfl (fun ls hl => ?_)))
                refine lv_iload hx hb dX9_pullIt_122 (lv_at hl 0 rfl) ?_
                refine lv_if_ne (tgt := 130) hx hb dX9_pullIt_124 (by decide) (fun c_33 => ?_) (fun c_33 => ?_)
                · have tc_33 := q_ne c_33
                  refine lv_aload_n hx hb dX9_pullIt_130 rfl (lv_at hl 6 rfl) (qg_X9_49 hx hb hts i_X9 hown hK hP20 0 rfl k_1 fr_p0_49 dX9_pullIt_131 (lv_iload hx hb dX9_pullIt_134 (lv_at hl 4 rfl) (lv_dup2_11 hx hb dX9_pullIt_136 rfl rfl (q_ild hx hb hK hP20 2 1 rfl rfl (q_in (by omega) (by omega)) dX9_pullIt_137 (fun v_34 ev_34 => ?_)))))
                  refine lv_iload hx hb dX9_pullIt_138 (lv_at hl 0 rfl) (lv_isub hx hb dX9_pullIt_140 (lv_topi fun v_35 ev_35 => q_ist hx hb hK hP20 hDa za_r_pullIt hS20 2 1 rfl rfl (q_in (by omega) (by omega)) dX9_pullIt_141 (fun H36 lo36 g36 eg36 (hP36 : va_P (dC, dI) vwCl (zW_r_pullIt p0 f_p0 p0_bLong c_p0_bLong bz_p0_bLong p0_bTight c_p0_bTight g36 p0_code c_p0_code b_p0_code p0_codeNumber c_p0_codeNumber b_p0_codeNumber p0_laws c_p0_laws b_p0_laws p0_pile c_p0_pile o_21 p0_rFrom c_p0_rFrom b_p0_rFrom p0_rTo c_p0_rTo b_p0_rTo) H36) hS36 => ?_)))
                  clear hP20 hS20
                  refine lv_aload_n hx hb dX9_pullIt_142 rfl (lv_at hl 6 rfl) (qg_X9_50 hx hb hts i_X9 hown hK hP36 0 rfl k_11 fr_p0_50 dX9_pullIt_143 (lv_aload_n hx hb dX9_pullIt_146 rfl (lv_at hl 6 rfl) (lv_iload hx hb dX9_pullIt_147 (lv_at hl 4 rfl) ?_)))
                  refine q_cVi (As := [.int ii]) (rest := [.ref p0_bLong]) q_w0 trivial hK hP36 hDa za_r_pullIt hS36 hA [0] [] (by decide +kernel) ⟨hx, hb, hml, hown, hts⟩ (r_sideOf l dC dI H36.size p0 f_p0 ii ho_p0) rfl rfl (cwV 1 hts (p1_gV m_12 m_13 m_14 m_5 g_r_sideOf gz_r_sideOf) rfl rfl rfl (by decide +kernel) ⟨by decide, by decide⟩) (va_recv hK hP36 (ci := 8) (q0 := 0) rfl rfl) zm_r_sideOf rfl hl.1 rfl (Nat.le_of_ble_eq_true rfl) dX9_pullIt_149 ⟨by decide, by decide⟩ (fun r_37 H38 lo38 hG38 hS38 => ?_)
                  obtain ⟨z_39, hQ38⟩ := hG38
                  have hP38 : va_P (dC, dI) vwCl (zW_r_pullIt p0 f_p0 p0_bLong c_p0_bLong bz_p0_bLong p0_bTight c_p0_bTight g36 p0_code c_p0_code b_p0_code p0_codeNumber c_p0_codeNumber b_p0_codeNumber p0_laws c_p0_laws b_p0_laws p0_pile c_p0_pile o_21 p0_rFrom c_p0_rFrom b_p0_rFrom p0_rTo c_p0_rTo b_p0_rTo) H38 := hQ38
                  clear hQ38 hP36 hS36
                  refine lv_dup2_11 hx hb dX9_pullIt_152 rfl rfl (q_ild hx hb hK hP38 1 0 rfl rfl (q_in (by omega) (by omega)) dX9_pullIt_153 (fun v_40 ev_40 => ?_))
                  refine lv_iload hx hb dX9_pullIt_154 (lv_at hl 0 rfl) (lv_iadd hx hb dX9_pullIt_156 (lv_topi fun v_41 ev_41 => q_ist hx hb hK hP38 hDa za_r_pullIt hS38 1 0 rfl rfl (q_in (by omega) (by omega)) dX9_pullIt_157 (fun H42 lo42 g42 eg42 (hP42 : va_P (dC, dI) vwCl (zW_r_pullIt p0 f_p0 p0_bLong c_p0_bLong g42 p0_bTight c_p0_bTight g36 p0_code c_p0_code b_p0_code p0_codeNumber c_p0_codeNumber b_p0_codeNumber p0_laws c_p0_laws b_p0_laws p0_pile c_p0_pile o_21 p0_rFrom c_p0_rFrom b_p0_rFrom p0_rTo c_p0_rTo b_p0_rTo) H42) hS42 => ?_)))
                  clear hP38 hS38
                  refine lv_iload_n hx hb dX9_pullIt_158 rfl (lv_at hl 5 rfl) (lv_iload hx hb dX9_pullIt_159 (lv_at hl 0 rfl) (lv_iadd hx hb dX9_pullIt_161 (lv_topi fun v_43 ev_43 => lv_istore_n (lv' := [(3, .int v_43), (4, .int v_32), (10, .long w_27), (8, .long w_23), (6, .long w_18), (5, .int ii), (0, .ref p0), (1, .int a1), (2, .int a2)]) hx hb dX9_pullIt_162 rfl hl (by decide) rfl (fun ls hl => ?_))))
                  obtain ⟨v_44, ev_44⟩ : ∃ y : Int32, y = ii + (-1) := ⟨_, rfl⟩
                  have tv_44 := q_add ev_44 (by omega) (by omega)
                  refine lv_iinc (v := v_44) (lv' := [(5, .int v_44), (3, .int v_43), (4, .int v_32), (10, .long w_27), (8, .long w_23), (6, .long w_18), (0, .ref p0), (1, .int a1), (2, .int a2)]) hx hb dX9_pullIt_163 hl (k := 5) rfl (by rw [ev_44]; rfl) (by decide) rfl (fun ls hl => ?_)
                  refine lv_goto (tgt := 13) hx hb dX9_pullIt_166 (by decide) ?_
                  exact ih13 (fu13 - 1) (by omega) v_43 v_32 v_44 g42 g36 o_21 _ _ _ (by omega) (by omega) hP42 hS42 (lv_sub hl [0, 2, 1, 6, 7, 8] rfl)
                · have tc_33 := q_eqN c_33
                  refine lv_goto (tgt := 169) hx hb dX9_pullIt_127 (by decide) ?_
                  have key169 : ∀ (fu169 : Nat) (fz_p0 : List Value) (bmv : Int32) (H : Heap) (locs : List Loc) (ls : Array Slot) (hfu169 : bmv.toInt ≤ (fu169 : Int)) (ho_fz_p0 : OKX9 fz_p0) (hf_fz_p0 : q_fr [52] f_p0 fz_p0) (fr_fz_p0_14 : q_rf fz_p0 14 p0_laws) (fr_fz_p0_36 : q_rf fz_p0 36 p0_rFrom) (fr_fz_p0_37 : q_rf fz_p0 37 p0_rTo) (fr_fz_p0_38 : q_rf fz_p0 38 p0_code) (fr_fz_p0_39 : q_rf fz_p0 39 p0_codeNumber) (fr_fz_p0_42 : q_rf fz_p0 42 p0_pile) (fh_fz_p0_43 : q_if fz_p0 43 bk) (fr_fz_p0_49 : q_rf fz_p0 49 p0_bTight) (fr_fz_p0_50 : q_rf fz_p0 50 p0_bLong) (fv_fz_p0_52 : q_if fz_p0 52 bmv) (tbmv : (0) ≤ bmv.toInt ∧ bmv.toInt ≤ 12), va_P (dC, dI) vwCl (zW_r_pullIt p0 fz_p0 p0_bLong c_p0_bLong bz_p0_bLong p0_bTight c_p0_bTight bz_p0_bTight p0_code c_p0_code b_p0_code p0_codeNumber c_p0_codeNumber b_p0_codeNumber p0_laws c_p0_laws b_p0_laws p0_pile c_p0_pile o_21 p0_rFrom c_p0_rFrom b_p0_rFrom p0_rTo c_p0_rTo b_p0_rTo) H → va_S A s.heap H locs → lv_has ls 12 [(4, .int v_32), (10, .long w_27), (8, .long w_23), (6, .long w_18), (5, .int ii), (3, .int su), (0, .ref p0), (1, .int a1), (2, .int a2)] → W p l e (headSpec zw_r_pullIt { frames := 4, cells := 0, slots := 0, locals := 91 }).room s m ([.ref p0, .int a1, .int a2] : List Value).toArray below meth c H locs 0 0 (MQ below (q_Qi (dC, dI) (zG_r_pullIt p0 f_p0 p0_bLong c_p0_bLong b_p0_bLong p0_bTight c_p0_bTight b_p0_bTight p0_code c_p0_code b_p0_code p0_codeNumber c_p0_codeNumber b_p0_codeNumber p0_laws c_p0_laws b_p0_laws p0_pile c_p0_pile b_p0_pile p0_rFrom c_p0_rFrom b_p0_rFrom p0_rTo c_p0_rTo b_p0_rTo a1 a2 bk) (zA_r_pullIt p0 p0_bLong p0_bTight p0_code p0_codeNumber p0_laws p0_pile p0_rFrom p0_rTo) A) ([.ref p0, .int a1, .int a2] : List Value).toArray s 0 0 A) (F0 m 169 ls []) := by
                    intro fu169
                    induction fu169 using Nat.strongRecOn with
                    | ind fu169 ih169 =>
                      intro fz_p0 bmv H45 lo45 ls hfu169 ho_fz_p0 hf_fz_p0 fr_fz_p0_14 fr_fz_p0_36 fr_fz_p0_37 fr_fz_p0_38 fr_fz_p0_39 fr_fz_p0_42 fh_fz_p0_43 fr_fz_p0_49 fr_fz_p0_50 fv_fz_p0_52 tbmv hP45 hS45 hl
                      refine lv_aload_n hx hb dX9_pullIt_169 rfl (lv_at hl 6 rfl) (qg_X9_52 hx hb hts i_X9 hown hK hP45 0 rfl k_0 fv_fz_p0_52 dX9_pullIt_170 ?_)
                      refine lv_if_le (tgt := 203) hx hb dX9_pullIt_173 (by decide) (fun c_46 => ?_) (fun c_46 => ?_)
                      · have tc_46 := q_le c_46
                        refine lv_iload_n hx hb dX9_pullIt_203 rfl (lv_at hl 5 rfl) ?_
                        exact q_iret hx hb hr hlocks hS45 dX9_pullIt_204 ⟨fz_p0, bz_p0_bLong, bz_p0_bTight, o_21, ho_fz_p0, hf_fz_p0, hP45, za_r_pullIt⟩
                      · have tc_46 := q_gtN c_46
                        refine lv_aload_n hx hb dX9_pullIt_176 rfl (lv_at hl 6 rfl) (qg_X9_49 hx hb hts i_X9 hown hK hP45 0 rfl k_1 fr_fz_p0_49 dX9_pullIt_177 (lv_aload_n hx hb dX9_pullIt_180 rfl (lv_at hl 6 rfl) (qg_X9_52 hx hb hts i_X9 hown hK hP45 0 rfl k_0 fv_fz_p0_52 dX9_pullIt_181 (lv_iconst (v := 1) hx hb dX9_pullIt_184 (by decide) (lv_isub hx hb dX9_pullIt_185 (lv_topi fun v_47 ev_47 => ?_))))))
                        have tv_47 := q_sub ev_47 (by omega) (by omega)
                        refine q_ild hx hb hK hP45 2 1 rfl rfl (q_in (by omega) (by omega)) dX9_pullIt_186 (fun v_48 ev_48 => ?_)
                        refine lv_if_ne (tgt := 203) hx hb dX9_pullIt_187 (by decide) (fun c_49 => ?_) (fun c_49 => ?_)
                        · have tc_49 := q_ne c_49
                          refine lv_iload_n hx hb dX9_pullIt_203 rfl (lv_at hl 5 rfl) ?_
                          exact q_iret hx hb hr hlocks hS45 dX9_pullIt_204 ⟨fz_p0, bz_p0_bLong, bz_p0_bTight, o_21, ho_fz_p0, hf_fz_p0, hP45, za_r_pullIt⟩
                        · have tc_49 := q_eqN c_49
                          refine lv_aload_n hx hb dX9_pullIt_190 rfl (lv_at hl 6 rfl) (lv_dup hx hb dX9_pullIt_191 rfl (qg_X9_52 hx hb hts i_X9 hown hK hP45 0 rfl k_0 fv_fz_p0_52 dX9_pullIt_192 (lv_iconst (v := 1) hx hb dX9_pullIt_195 (by decide) (lv_isub hx hb dX9_pullIt_196 (lv_topi fun v_50 ev_50 => ?_)))))
                          have tv_50 := q_sub ev_50 (by omega) (by omega)
                          refine qp_X9_52 hx hb hts i_X9 hown hK hP45 hDa za_r_pullIt hS45 0 rfl k_0 (OKX9_l ho_fz_p0) dX9_pullIt_197 (fun H51 lo51 fs51 efs51 (hP51 : va_P (dC, dI) vwCl (zW_r_pullIt p0 fs51 p0_bLong c_p0_bLong bz_p0_bLong p0_bTight c_p0_bTight bz_p0_bTight p0_code c_p0_code b_p0_code p0_codeNumber c_p0_codeNumber b_p0_codeNumber p0_laws c_p0_laws b_p0_laws p0_pile c_p0_pile o_21 p0_rFrom c_p0_rFrom b_p0_rFrom p0_rTo c_p0_rTo b_p0_rTo) H51) hS51 => ?_)
                          have ho51 := OKX9_p52 ho_fz_p0 efs51 ⟨by omega, by omega⟩
                          clear hP45 hS45
                          refine lv_goto (tgt := 169) hx hb dX9_pullIt_200 (by decide) ?_
                          exact ih169 (fu169 - 1) (by omega) fs51 v_50 _ _ _ (by omega) ho51 (hf_fz_p0.st efs51 (by decide)) (q_sn efs51 (by decide) fr_fz_p0_14) (q_sn efs51 (by decide) fr_fz_p0_36) (q_sn efs51 (by decide) fr_fz_p0_37) (q_sn efs51 (by decide) fr_fz_p0_38) (q_sn efs51 (by decide) fr_fz_p0_39) (q_sn efs51 (by decide) fr_fz_p0_42) (q_sn efs51 (by decide) fh_fz_p0_43) (q_sn efs51 (by decide) fr_fz_p0_49) (q_sn efs51 (by decide) fr_fz_p0_50) (q_sa efs51 (OKX9_l ho_fz_p0) (by decide)) (by omega) hP51 hS51 (lv_sub hl [0, 1, 2, 3, 4, 5, 6, 7, 8] rfl)
                  exact key169 12 f_p0 v_1 _ _ _ (by omega) ho_p0 q_fr.rf fr_p0_14 fr_p0_36 fr_p0_37 fr_p0_38 fr_p0_39 fr_p0_42 pf_bk fr_p0_49 fr_p0_50 fv_1 (by omega) hP20 hS20 (lv_sub hl [0, 1, 2, 3, 4, 5, 6, 7, 8] rfl)
              · have tc_31 := q_gtN c_31
                refine lv_aload_n hx hb dX9_pullIt_107 rfl (lv_at hl 6 rfl) (qg_X9_49 hx hb hts i_X9 hown hK hP20 0 rfl k_1 fr_p0_49 dX9_pullIt_108 (lv_iload hx hb dX9_pullIt_111 (lv_at hl 3 rfl) (q_ild hx hb hK hP20 2 1 rfl rfl (q_in (by omega) (by omega)) dX9_pullIt_113 (fun v_52 ev_52 => ?_))))
                refine lv_goto (tgt := 120) hx hb dX9_pullIt_114 (by decide) (lv_istore (lv' := [(4, .int v_52), (10, .long w_27), (8, .long w_23), (6, .long w_18), (5, .int ii), (3, .int su), (0, .ref p0), (1, .int a1), (2, .int a2)]) hx hb dX9_pullIt_120 hl (by decide) rfl (fun ls hl => ?_))
                refine lv_iload hx hb dX9_pullIt_122 (lv_at hl 0 rfl) ?_
                refine lv_if_ne (tgt := 130) hx hb dX9_pullIt_124 (by decide) (fun c_53 => ?_) (fun c_53 => ?_)
                · have tc_53 := q_ne c_53
                  refine lv_aload_n hx hb dX9_pullIt_130 rfl (lv_at hl 6 rfl) (qg_X9_49 hx hb hts i_X9 hown hK hP20 0 rfl k_1 fr_p0_49 dX9_pullIt_131 (lv_iload hx hb dX9_pullIt_134 (lv_at hl 4 rfl) (lv_dup2_11 hx hb dX9_pullIt_136 rfl rfl (q_ild hx hb hK hP20 2 1 rfl rfl (q_in (by omega) (by omega)) dX9_pullIt_137 (fun v_54 ev_54 => ?_)))))
                  refine lv_iload hx hb dX9_pullIt_138 (lv_at hl 0 rfl) (lv_isub hx hb dX9_pullIt_140 (lv_topi fun v_55 ev_55 => q_ist hx hb hK hP20 hDa za_r_pullIt hS20 2 1 rfl rfl (q_in (by omega) (by omega)) dX9_pullIt_141 (fun H56 lo56 g56 eg56 (hP56 : va_P (dC, dI) vwCl (zW_r_pullIt p0 f_p0 p0_bLong c_p0_bLong bz_p0_bLong p0_bTight c_p0_bTight g56 p0_code c_p0_code b_p0_code p0_codeNumber c_p0_codeNumber b_p0_codeNumber p0_laws c_p0_laws b_p0_laws p0_pile c_p0_pile o_21 p0_rFrom c_p0_rFrom b_p0_rFrom p0_rTo c_p0_rTo b_p0_rTo) H56) hS56 => ?_)))
                  clear hP20 hS20
                  refine lv_aload_n hx hb dX9_pullIt_142 rfl (lv_at hl 6 rfl) (qg_X9_50 hx hb hts i_X9 hown hK hP56 0 rfl k_11 fr_p0_50 dX9_pullIt_143 (lv_aload_n hx hb dX9_pullIt_146 rfl (lv_at hl 6 rfl) (lv_iload hx hb dX9_pullIt_147 (lv_at hl 4 rfl) ?_)))
                  refine q_cVi (As := [.int ii]) (rest := [.ref p0_bLong]) q_w0 trivial hK hP56 hDa za_r_pullIt hS56 hA [0] [] (by decide +kernel) ⟨hx, hb, hml, hown, hts⟩ (r_sideOf l dC dI H56.size p0 f_p0 ii ho_p0) rfl rfl (cwV 1 hts (p1_gV m_12 m_13 m_14 m_5 g_r_sideOf gz_r_sideOf) rfl rfl rfl (by decide +kernel) ⟨by decide, by decide⟩) (va_recv hK hP56 (ci := 8) (q0 := 0) rfl rfl) zm_r_sideOf rfl hl.1 rfl (Nat.le_of_ble_eq_true rfl) dX9_pullIt_149 ⟨by decide, by decide⟩ (fun r_57 H58 lo58 hG58 hS58 => ?_)
                  obtain ⟨z_59, hQ58⟩ := hG58
                  have hP58 : va_P (dC, dI) vwCl (zW_r_pullIt p0 f_p0 p0_bLong c_p0_bLong bz_p0_bLong p0_bTight c_p0_bTight g56 p0_code c_p0_code b_p0_code p0_codeNumber c_p0_codeNumber b_p0_codeNumber p0_laws c_p0_laws b_p0_laws p0_pile c_p0_pile o_21 p0_rFrom c_p0_rFrom b_p0_rFrom p0_rTo c_p0_rTo b_p0_rTo) H58 := hQ58
                  clear hQ58 hP56 hS56
                  refine lv_dup2_11 hx hb dX9_pullIt_152 rfl rfl (q_ild hx hb hK hP58 1 0 rfl rfl (q_in (by omega) (by omega)) dX9_pullIt_153 (fun v_60 ev_60 => ?_))
                  refine lv_iload hx hb dX9_pullIt_154 (lv_at hl 0 rfl) (lv_iadd hx hb dX9_pullIt_156 (lv_topi fun v_61 ev_61 => q_ist hx hb hK hP58 hDa za_r_pullIt hS58 1 0 rfl rfl (q_in (by omega) (by omega)) dX9_pullIt_157 (fun H62 lo62 g62 eg62 (hP62 : va_P (dC, dI) vwCl (zW_r_pullIt p0 f_p0 p0_bLong c_p0_bLong g62 p0_bTight c_p0_bTight g56 p0_code c_p0_code b_p0_code p0_codeNumber c_p0_codeNumber b_p0_codeNumber p0_laws c_p0_laws b_p0_laws p0_pile c_p0_pile o_21 p0_rFrom c_p0_rFrom b_p0_rFrom p0_rTo c_p0_rTo b_p0_rTo) H62) hS62 => ?_)))
                  clear hP58 hS58
                  refine lv_iload_n hx hb dX9_pullIt_158 rfl (lv_at hl 5 rfl) (lv_iload hx hb dX9_pullIt_159 (lv_at hl 0 rfl) (lv_iadd hx hb dX9_pullIt_161 (lv_topi fun v_63 ev_63 => lv_istore_n (lv' := [(3, .int v_63), (4, .int v_52), (10, .long w_27), (8, .long w_23), (6, .long w_18), (5, .int ii), (0, .ref p0), (1, .int a1), (2, .int a2)]) hx hb dX9_pullIt_162 rfl hl (by decide) rfl (fun ls hl => ?_))))
                  obtain ⟨v_64, ev_64⟩ : ∃ y : Int32, y = ii + (-1) := ⟨_, rfl⟩
                  have tv_64 := q_add ev_64 (by omega) (by omega)
                  refine lv_iinc (v := v_64) (lv' := [(5, .int v_64), (3, .int v_63), (4, .int v_52), (10, .long w_27), (8, .long w_23), (6, .long w_18), (0, .ref p0), (1, .int a1), (2, .int a2)]) hx hb dX9_pullIt_163 hl (k := 5) rfl (by rw [ev_64]; rfl) (by decide) rfl (fun ls hl => ?_)
                  refine lv_goto (tgt := 13) hx hb dX9_pullIt_166 (by decide) ?_
                  exact ih13 (fu13 - 1) (by omega) v_63 v_52 v_64 g62 g56 o_21 _ _ _ (by omega) (by omega) hP62 hS62 (lv_sub hl [0, 2, 1, 6, 7, 8] rfl)
                · have tc_53 := q_eqN c_53
                  refine lv_goto (tgt := 169) hx hb dX9_pullIt_127 (by decide) ?_
                  have key169 : ∀ (fu169 : Nat) (fz_p0 : List Value) (bmv : Int32) (H : Heap) (locs : List Loc) (ls : Array Slot) (hfu169 : bmv.toInt ≤ (fu169 : Int)) (ho_fz_p0 : OKX9 fz_p0) (hf_fz_p0 : q_fr [52] f_p0 fz_p0) (fr_fz_p0_14 : q_rf fz_p0 14 p0_laws) (fr_fz_p0_36 : q_rf fz_p0 36 p0_rFrom) (fr_fz_p0_37 : q_rf fz_p0 37 p0_rTo) (fr_fz_p0_38 : q_rf fz_p0 38 p0_code) (fr_fz_p0_39 : q_rf fz_p0 39 p0_codeNumber) (fr_fz_p0_42 : q_rf fz_p0 42 p0_pile) (fh_fz_p0_43 : q_if fz_p0 43 bk) (fr_fz_p0_49 : q_rf fz_p0 49 p0_bTight) (fr_fz_p0_50 : q_rf fz_p0 50 p0_bLong) (fv_fz_p0_52 : q_if fz_p0 52 bmv) (tbmv : (0) ≤ bmv.toInt ∧ bmv.toInt ≤ 12), va_P (dC, dI) vwCl (zW_r_pullIt p0 fz_p0 p0_bLong c_p0_bLong bz_p0_bLong p0_bTight c_p0_bTight bz_p0_bTight p0_code c_p0_code b_p0_code p0_codeNumber c_p0_codeNumber b_p0_codeNumber p0_laws c_p0_laws b_p0_laws p0_pile c_p0_pile o_21 p0_rFrom c_p0_rFrom b_p0_rFrom p0_rTo c_p0_rTo b_p0_rTo) H → va_S A s.heap H locs → lv_has ls 12 [(4, .int v_52), (10, .long w_27), (8, .long w_23), (6, .long w_18), (5, .int ii), (3, .int su), (0, .ref p0), (1, .int a1), (2, .int a2)] → W p l e (headSpec zw_r_pullIt { frames := 4, cells := 0, slots := 0, locals := 91 }).room s m ([.ref p0, .int a1, .int a2] : List Value).toArray below meth c H locs 0 0 (MQ below (q_Qi (dC, dI) (zG_r_pullIt p0 f_p0 p0_bLong c_p0_bLong b_p0_bLong p0_bTight c_p0_bTight b_p0_bTight p0_code c_p0_code b_p0_code p0_codeNumber c_p0_codeNumber b_p0_codeNumber p0_laws c_p0_laws b_p0_laws p0_pile c_p0_pile b_p0_pile p0_rFrom c_p0_rFrom b_p0_rFrom p0_rTo c_p0_rTo b_p0_rTo a1 a2 bk) (zA_r_pullIt p0 p0_bLong p0_bTight p0_code p0_codeNumber p0_laws p0_pile p0_rFrom p0_rTo) A) ([.ref p0, .int a1, .int a2] : List Value).toArray s 0 0 A) (F0 m 169 ls []) := by
                    intro fu169
                    induction fu169 using Nat.strongRecOn with
                    | ind fu169 ih169 =>
                      intro fz_p0 bmv H65 lo65 ls hfu169 ho_fz_p0 hf_fz_p0 fr_fz_p0_14 fr_fz_p0_36 fr_fz_p0_37 fr_fz_p0_38 fr_fz_p0_39 fr_fz_p0_42 fh_fz_p0_43 fr_fz_p0_49 fr_fz_p0_50 fv_fz_p0_52 tbmv hP65 hS65 hl
                      refine lv_aload_n hx hb dX9_pullIt_169 rfl (lv_at hl 6 rfl) (qg_X9_52 hx hb hts i_X9 hown hK hP65 0 rfl k_0 fv_fz_p0_52 dX9_pullIt_170 ?_)
                      refine lv_if_le (tgt := 203) hx hb dX9_pullIt_173 (by decide) (fun c_66 => ?_) (fun c_66 => ?_)
                      · have tc_66 := q_le c_66
                        refine lv_iload_n hx hb dX9_pullIt_203 rfl (lv_at hl 5 rfl) ?_
                        exact q_iret hx hb hr hlocks hS65 dX9_pullIt_204 ⟨fz_p0, bz_p0_bLong, bz_p0_bTight, o_21, ho_fz_p0, hf_fz_p0, hP65, za_r_pullIt⟩
                      · have tc_66 := q_gtN c_66
                        refine lv_aload_n hx hb dX9_pullIt_176 rfl (lv_at hl 6 rfl) (qg_X9_49 hx hb hts i_X9 hown hK hP65 0 rfl k_1 fr_fz_p0_49 dX9_pullIt_177 (lv_aload_n hx hb dX9_pullIt_180 rfl (lv_at hl 6 rfl) (qg_X9_52 hx hb hts i_X9 hown hK hP65 0 rfl k_0 fv_fz_p0_52 dX9_pullIt_181 (lv_iconst (v := 1) hx hb dX9_pullIt_184 (by decide) (lv_isub hx hb dX9_pullIt_185 (lv_topi fun v_67 ev_67 => ?_))))))
                        have tv_67 := q_sub ev_67 (by omega) (by omega)
                        refine q_ild hx hb hK hP65 2 1 rfl rfl (q_in (by omega) (by omega)) dX9_pullIt_186 (fun v_68 ev_68 => ?_)
                        refine lv_if_ne (tgt := 203) hx hb dX9_pullIt_187 (by decide) (fun c_69 => ?_) (fun c_69 => ?_)
                        · have tc_69 := q_ne c_69
                          refine lv_iload_n hx hb dX9_pullIt_203 rfl (lv_at hl 5 rfl) ?_
                          exact q_iret hx hb hr hlocks hS65 dX9_pullIt_204 ⟨fz_p0, bz_p0_bLong, bz_p0_bTight, o_21, ho_fz_p0, hf_fz_p0, hP65, za_r_pullIt⟩
                        · have tc_69 := q_eqN c_69
                          refine lv_aload_n hx hb dX9_pullIt_190 rfl (lv_at hl 6 rfl) (lv_dup hx hb dX9_pullIt_191 rfl (qg_X9_52 hx hb hts i_X9 hown hK hP65 0 rfl k_0 fv_fz_p0_52 dX9_pullIt_192 (lv_iconst (v := 1) hx hb dX9_pullIt_195 (by decide) (lv_isub hx hb dX9_pullIt_196 (lv_topi fun v_70 ev_70 => ?_)))))
                          have tv_70 := q_sub ev_70 (by omega) (by omega)
                          refine qp_X9_52 hx hb hts i_X9 hown hK hP65 hDa za_r_pullIt hS65 0 rfl k_0 (OKX9_l ho_fz_p0) dX9_pullIt_197 (fun H71 lo71 fs71 efs71 (hP71 : va_P (dC, dI) vwCl (zW_r_pullIt p0 fs71 p0_bLong c_p0_bLong bz_p0_bLong p0_bTight c_p0_bTight bz_p0_bTight p0_code c_p0_code b_p0_code p0_codeNumber c_p0_codeNumber b_p0_codeNumber p0_laws c_p0_laws b_p0_laws p0_pile c_p0_pile o_21 p0_rFrom c_p0_rFrom b_p0_rFrom p0_rTo c_p0_rTo b_p0_rTo) H71) hS71 => ?_)
                          have ho71 := OKX9_p52 ho_fz_p0 efs71 ⟨by omega, by omega⟩
                          clear hP65 hS65
                          refine lv_goto (tgt := 169) hx hb dX9_pullIt_200 (by decide) ?_
                          exact ih169 (fu169 - 1) (by omega) fs71 v_70 _ _ _ (by omega) ho71 (hf_fz_p0.st efs71 (by decide)) (q_sn efs71 (by decide) fr_fz_p0_14) (q_sn efs71 (by decide) fr_fz_p0_36) (q_sn efs71 (by decide) fr_fz_p0_37) (q_sn efs71 (by decide) fr_fz_p0_38) (q_sn efs71 (by decide) fr_fz_p0_39) (q_sn efs71 (by decide) fr_fz_p0_42) (q_sn efs71 (by decide) fh_fz_p0_43) (q_sn efs71 (by decide) fr_fz_p0_49) (q_sn efs71 (by decide) fr_fz_p0_50) (q_sa efs71 (OKX9_l ho_fz_p0) (by decide)) (by omega) hP71 hS71 (lv_sub hl [0, 1, 2, 3, 4, 5, 6, 7, 8] rfl)
                  exact key169 12 f_p0 v_1 _ _ _ (by omega) ho_p0 q_fr.rf fr_p0_14 fr_p0_36 fr_p0_37 fr_p0_38 fr_p0_39 fr_p0_42 pf_bk fr_p0_49 fr_p0_50 fv_1 (by omega) hP20 hS20 (lv_sub hl [0, 1, 2, 3, 4, 5, 6, 7, 8] rfl)
            · have tc_25 := q_leN c_25
              refine lv_goto (tgt := 169) hx hb dX9_pullIt_78 (by decide) ?_
              have key169 : ∀ (fu169 : Nat) (fz_p0 : List Value) (bmv : Int32) (H : Heap) (locs : List Loc) (ls : Array Slot) (hfu169 : bmv.toInt ≤ (fu169 : Int)) (ho_fz_p0 : OKX9 fz_p0) (hf_fz_p0 : q_fr [52] f_p0 fz_p0) (fr_fz_p0_14 : q_rf fz_p0 14 p0_laws) (fr_fz_p0_36 : q_rf fz_p0 36 p0_rFrom) (fr_fz_p0_37 : q_rf fz_p0 37 p0_rTo) (fr_fz_p0_38 : q_rf fz_p0 38 p0_code) (fr_fz_p0_39 : q_rf fz_p0 39 p0_codeNumber) (fr_fz_p0_42 : q_rf fz_p0 42 p0_pile) (fh_fz_p0_43 : q_if fz_p0 43 bk) (fr_fz_p0_49 : q_rf fz_p0 49 p0_bTight) (fr_fz_p0_50 : q_rf fz_p0 50 p0_bLong) (fv_fz_p0_52 : q_if fz_p0 52 bmv) (tbmv : (0) ≤ bmv.toInt ∧ bmv.toInt ≤ 12), va_P (dC, dI) vwCl (zW_r_pullIt p0 fz_p0 p0_bLong c_p0_bLong bz_p0_bLong p0_bTight c_p0_bTight bz_p0_bTight p0_code c_p0_code b_p0_code p0_codeNumber c_p0_codeNumber b_p0_codeNumber p0_laws c_p0_laws b_p0_laws p0_pile c_p0_pile o_21 p0_rFrom c_p0_rFrom b_p0_rFrom p0_rTo c_p0_rTo b_p0_rTo) H → va_S A s.heap H locs → lv_has ls 12 [(8, .long w_23), (6, .long w_18), (5, .int ii), (4, .int ou), (3, .int su), (0, .ref p0), (1, .int a1), (2, .int a2)] → W p l e (headSpec zw_r_pullIt { frames := 4, cells := 0, slots := 0, locals := 91 }).room s m ([.ref p0, .int a1, .int a2] : List Value).toArray below meth c H locs 0 0 (MQ below (q_Qi (dC, dI) (zG_r_pullIt p0 f_p0 p0_bLong c_p0_bLong b_p0_bLong p0_bTight c_p0_bTight b_p0_bTight p0_code c_p0_code b_p0_code p0_codeNumber c_p0_codeNumber b_p0_codeNumber p0_laws c_p0_laws b_p0_laws p0_pile c_p0_pile b_p0_pile p0_rFrom c_p0_rFrom b_p0_rFrom p0_rTo c_p0_rTo b_p0_rTo a1 a2 bk) (zA_r_pullIt p0 p0_bLong p0_bTight p0_code p0_codeNumber p0_laws p0_pile p0_rFrom p0_rTo) A) ([.ref p0, .int a1, .int a2] : List Value).toArray s 0 0 A) (F0 m 169 ls []) := by
                intro fu169
                induction fu169 using Nat.strongRecOn with
                | ind fu169 ih169 =>
                  intro fz_p0 bmv H72 lo72 ls hfu169 ho_fz_p0 hf_fz_p0 fr_fz_p0_14 fr_fz_p0_36 fr_fz_p0_37 fr_fz_p0_38 fr_fz_p0_39 fr_fz_p0_42 fh_fz_p0_43 fr_fz_p0_49 fr_fz_p0_50 fv_fz_p0_52 tbmv hP72 hS72 hl
                  refine lv_aload_n hx hb dX9_pullIt_169 rfl (lv_at hl 5 rfl) (qg_X9_52 hx hb hts i_X9 hown hK hP72 0 rfl k_0 fv_fz_p0_52 dX9_pullIt_170 ?_)
                  refine lv_if_le (tgt := 203) hx hb dX9_pullIt_173 (by decide) (fun c_73 => ?_) (fun c_73 => ?_)
                  · have tc_73 := q_le c_73
                    refine lv_iload_n hx hb dX9_pullIt_203 rfl (lv_at hl 4 rfl) ?_
                    exact q_iret hx hb hr hlocks hS72 dX9_pullIt_204 ⟨fz_p0, bz_p0_bLong, bz_p0_bTight, o_21, ho_fz_p0, hf_fz_p0, hP72, za_r_pullIt⟩
                  · have tc_73 := q_gtN c_73
                    refine lv_aload_n hx hb dX9_pullIt_176 rfl (lv_at hl 5 rfl) (qg_X9_49 hx hb hts i_X9 hown hK hP72 0 rfl k_1 fr_fz_p0_49 dX9_pullIt_177 (lv_aload_n hx hb dX9_pullIt_180 rfl (lv_at hl 5 rfl) (qg_X9_52 hx hb hts i_X9 hown hK hP72 0 rfl k_0 fv_fz_p0_52 dX9_pullIt_181 (lv_iconst (v := 1) hx hb dX9_pullIt_184 (by decide) (lv_isub hx hb dX9_pullIt_185 (lv_topi fun v_74 ev_74 => ?_))))))
                    have tv_74 := q_sub ev_74 (by omega) (by omega)
                    refine q_ild hx hb hK hP72 2 1 rfl rfl (q_in (by omega) (by omega)) dX9_pullIt_186 (fun v_75 ev_75 => ?_)
                    refine lv_if_ne (tgt := 203) hx hb dX9_pullIt_187 (by decide) (fun c_76 => ?_) (fun c_76 => ?_)
                    · have tc_76 := q_ne c_76
                      refine lv_iload_n hx hb dX9_pullIt_203 rfl (lv_at hl 4 rfl) ?_
                      exact q_iret hx hb hr hlocks hS72 dX9_pullIt_204 ⟨fz_p0, bz_p0_bLong, bz_p0_bTight, o_21, ho_fz_p0, hf_fz_p0, hP72, za_r_pullIt⟩
                    · have tc_76 := q_eqN c_76
                      refine lv_aload_n hx hb dX9_pullIt_190 rfl (lv_at hl 5 rfl) (lv_dup hx hb dX9_pullIt_191 rfl (qg_X9_52 hx hb hts i_X9 hown hK hP72 0 rfl k_0 fv_fz_p0_52 dX9_pullIt_192 (lv_iconst (v := 1) hx hb dX9_pullIt_195 (by decide) (lv_isub hx hb dX9_pullIt_196 (lv_topi fun v_77 ev_77 => ?_)))))
                      have tv_77 := q_sub ev_77 (by omega) (by omega)
                      refine qp_X9_52 hx hb hts i_X9 hown hK hP72 hDa za_r_pullIt hS72 0 rfl k_0 (OKX9_l ho_fz_p0) dX9_pullIt_197 (fun H78 lo78 fs78 efs78 (hP78 : va_P (dC, dI) vwCl (zW_r_pullIt p0 fs78 p0_bLong c_p0_bLong bz_p0_bLong p0_bTight c_p0_bTight bz_p0_bTight p0_code c_p0_code b_p0_code p0_codeNumber c_p0_codeNumber b_p0_codeNumber p0_laws c_p0_laws b_p0_laws p0_pile c_p0_pile o_21 p0_rFrom c_p0_rFrom b_p0_rFrom p0_rTo c_p0_rTo b_p0_rTo) H78) hS78 => ?_)
                      have ho78 := OKX9_p52 ho_fz_p0 efs78 ⟨by omega, by omega⟩
                      clear hP72 hS72
                      refine lv_goto (tgt := 169) hx hb dX9_pullIt_200 (by decide) ?_
                      exact ih169 (fu169 - 1) (by omega) fs78 v_77 _ _ _ (by omega) ho78 (hf_fz_p0.st efs78 (by decide)) (q_sn efs78 (by decide) fr_fz_p0_14) (q_sn efs78 (by decide) fr_fz_p0_36) (q_sn efs78 (by decide) fr_fz_p0_37) (q_sn efs78 (by decide) fr_fz_p0_38) (q_sn efs78 (by decide) fr_fz_p0_39) (q_sn efs78 (by decide) fr_fz_p0_42) (q_sn efs78 (by decide) fh_fz_p0_43) (q_sn efs78 (by decide) fr_fz_p0_49) (q_sn efs78 (by decide) fr_fz_p0_50) (q_sa efs78 (OKX9_l ho_fz_p0) (by decide)) (by omega) hP78 hS78 (lv_sub hl [0, 1, 2, 3, 4, 5, 6, 7] rfl)
              exact key169 12 f_p0 v_1 _ _ _ (by omega) ho_p0 q_fr.rf fr_p0_14 fr_p0_36 fr_p0_37 fr_p0_38 fr_p0_39 fr_p0_42 pf_bk fr_p0_49 fr_p0_50 fv_1 (by omega) hP20 hS20 (lv_sub hl [0, 1, 2, 3, 4, 5, 6, 7] rfl)
          · have tc_14 := q_geN c_14
            refine lv_iload_n hx hb dX9_pullIt_43 rfl (lv_at hl 5 rfl) (lv_i2l hx hb dX9_pullIt_44 rfl (lv_topl fun w_79 ew_79 => lv_goto (tgt := 56) hx hb dX9_pullIt_45 (by decide) (lv_lstore (lv' := [(6, .long w_79), (5, .int ii), (4, .int ou), (3, .int su), (0, .ref p0), (1, .int a1), (2, .int a2)]) hx hb dX9_pullIt_56 hl (by decide) rfl (fun ls hl => ?_))))
            refine lv_lload hx hb dX9_pullIt_58 (lv_at hl 0 rfl) (lv_aload_n hx hb dX9_pullIt_60 rfl (lv_at hl 4 rfl) (lv_iload_n hx hb dX9_pullIt_61 rfl (lv_at hl 5 rfl) (lv_iload hx hb dX9_pullIt_62 (lv_at hl 1 rfl) ?_)))
            refine q_cVi (As := [.int a1, .int ii]) (rest := [.long w_79]) q_w0 trivial hK hP3 hDa za_r_pullIt hS3 hA [0, 1, 2, 3, 4, 5, 6, 7, 8] [0, 1, 2, 3, 4, 5, 6, 7] (by decide +kernel) ⟨hx, hb, hml, hown, hts⟩ (r_rub l dC dI H3.size p0 f_p0 p0_bLong c_p0_bLong bz_p0_bLong p0_bTight c_p0_bTight bz_p0_bTight p0_code c_p0_code b_p0_code p0_codeNumber c_p0_codeNumber b_p0_codeNumber p0_laws c_p0_laws b_p0_laws p0_pile c_p0_pile bz_p0_pile p0_rFrom c_p0_rFrom b_p0_rFrom p0_rTo c_p0_rTo b_p0_rTo a1 ii bk ho_p0 fr_p0_14 fr_p0_36 fr_p0_37 fr_p0_38 fr_p0_39 fr_p0_42 fr_p0_49 fr_p0_50 hr_p0_laws hr_p0_rFrom hr_p0_rTo pf_bk ((by omega)) hLB ((by omega))) rfl rfl (cwV 2 hts (p1_gV m_6 m_7 m_8 m_5 g_r_rub gz_r_rub) rfl rfl rfl (by decide +kernel) ⟨by decide, by decide⟩) (va_recv hK hP3 (ci := 8) (q0 := 0) rfl rfl) zm_r_rub rfl hl.1 rfl (Nat.le_of_ble_eq_true rfl) dX9_pullIt_64 ⟨by decide, by decide⟩ (fun r_80 H81 lo81 hG81 hS81 => ?_)
            obtain ⟨o_82, hQ81⟩ := hG81
            have hP81 : va_P (dC, dI) vwCl (zW_r_pullIt p0 f_p0 p0_bLong c_p0_bLong bz_p0_bLong p0_bTight c_p0_bTight bz_p0_bTight p0_code c_p0_code b_p0_code p0_codeNumber c_p0_codeNumber b_p0_codeNumber p0_laws c_p0_laws b_p0_laws p0_pile c_p0_pile o_82 p0_rFrom c_p0_rFrom b_p0_rFrom p0_rTo c_p0_rTo b_p0_rTo) H81 := hQ81
            clear hQ81 hP3 hS3
            refine lv_i2l hx hb dX9_pullIt_67 rfl (lv_topl fun w_83 ew_83 => lv_lsub hx hb dX9_pullIt_68 (lv_topl fun w_84 ew_84 => lv_lstore (lv' := [(8, .long w_84), (6, .long w_79), (5, .int ii), (4, .int ou), (3, .int su), (0, .ref p0), (1, .int a1), (2, .int a2)]) hx hb dX9_pullIt_69 hl (by decide) rfl (fun ls hl => ?_)))
            refine lv_lload hx hb dX9_pullIt_71 (lv_at hl 0 rfl) (lv_lconst (v := 0) hx hb dX9_pullIt_73 (by decide) (W.lcmp hx hb dX9_pullIt_74 (lv_topi fun v_85 ev_85 => ?_)))
            refine lv_if_gt (tgt := 81) hx hb dX9_pullIt_75 (by decide) (fun c_86 => ?_) (fun c_86 => ?_)
            · have tc_86 := q_gt c_86
              refine lv_lload hx hb dX9_pullIt_81 (lv_at hl 0 rfl) (lv_ldc2 (v := 9) hx hb hown k_9 dX9_pullIt_83 (lv_ladd hx hb dX9_pullIt_86 (lv_topl fun w_87 ew_87 => lv_ldc2 (v := 10) hx hb hown k_10 dX9_pullIt_87 (lv_ldiv hx hb dX9_pullIt_90 (by decide) (lv_topl fun w_88 ew_88 => lv_lstore (lv' := [(10, .long w_88), (8, .long w_84), (6, .long w_79), (5, .int ii), (4, .int ou), (3, .int su), (0, .ref p0), (1, .int a1), (2, .int a2)]) hx hb dX9_pullIt_91 hl (by decide) rfl (fun ls hl => ?_))))))
              refine lv_lload hx hb dX9_pullIt_93 (lv_at hl 0 rfl) (lv_aload_n hx hb dX9_pullIt_95 rfl (lv_at hl 6 rfl) (qg_X9_49 hx hb hts i_X9 hown hK hP81 0 rfl k_1 fr_p0_49 dX9_pullIt_96 (lv_iload hx hb dX9_pullIt_99 (lv_at hl 3 rfl) (q_ild hx hb hK hP81 2 1 rfl rfl (q_in (by omega) (by omega)) dX9_pullIt_101 (fun v_89 ev_89 => ?_)))))
              refine lv_i2l hx hb dX9_pullIt_102 rfl (lv_topl fun w_90 ew_90 => W.lcmp hx hb dX9_pullIt_103 (lv_topi fun v_91 ev_91 => ?_))
              refine lv_if_le (tgt := 117) hx hb dX9_pullIt_104 (by decide) (fun c_92 => ?_) (fun c_92 => ?_)
              · have tc_92 := q_le c_92
                refine lv_lload hx hb dX9_pullIt_117 (lv_at hl 0 rfl) (lv_l2i hx hb dX9_pullIt_119 rfl (lv_topi fun v_93 ev_93 => lv_istore (lv' := [(4, .int v_93), (10, .long w_88), (8, .long w_84), (6, .long w_79), (5, .int ii), (3, .int su), (0, .ref p0), (1, .int a1), (2, .int a2)]) hx hb dX9_pullIt_120 hl (by decide) rfl (fun ls hl => ?_)))
                refine lv_iload hx hb dX9_pullIt_122 (lv_at hl 0 rfl) ?_
                refine lv_if_ne (tgt := 130) hx hb dX9_pullIt_124 (by decide) (fun c_94 => ?_) (fun c_94 => ?_)
                · have tc_94 := q_ne c_94
                  refine lv_aload_n hx hb dX9_pullIt_130 rfl (lv_at hl 6 rfl) (qg_X9_49 hx hb hts i_X9 hown hK hP81 0 rfl k_1 fr_p0_49 dX9_pullIt_131 (lv_iload hx hb dX9_pullIt_134 (lv_at hl 4 rfl) (lv_dup2_11 hx hb dX9_pullIt_136 rfl rfl (q_ild hx hb hK hP81 2 1 rfl rfl (q_in (by omega) (by omega)) dX9_pullIt_137 (fun v_95 ev_95 => ?_)))))
                  refine lv_iload hx hb dX9_pullIt_138 (lv_at hl 0 rfl) (lv_isub hx hb dX9_pullIt_140 (lv_topi fun v_96 ev_96 => q_ist hx hb hK hP81 hDa za_r_pullIt hS81 2 1 rfl rfl (q_in (by omega) (by omega)) dX9_pullIt_141 (fun H97 lo97 g97 eg97 (hP97 : va_P (dC, dI) vwCl (zW_r_pullIt p0 f_p0 p0_bLong c_p0_bLong bz_p0_bLong p0_bTight c_p0_bTight g97 p0_code c_p0_code b_p0_code p0_codeNumber c_p0_codeNumber b_p0_codeNumber p0_laws c_p0_laws b_p0_laws p0_pile c_p0_pile o_82 p0_rFrom c_p0_rFrom b_p0_rFrom p0_rTo c_p0_rTo b_p0_rTo) H97) hS97 => ?_)))
                  clear hP81 hS81
                  refine lv_aload_n hx hb dX9_pullIt_142 rfl (lv_at hl 6 rfl) (qg_X9_50 hx hb hts i_X9 hown hK hP97 0 rfl k_11 fr_p0_50 dX9_pullIt_143 (lv_aload_n hx hb dX9_pullIt_146 rfl (lv_at hl 6 rfl) (lv_iload hx hb dX9_pullIt_147 (lv_at hl 4 rfl) ?_)))
                  refine q_cVi (As := [.int ii]) (rest := [.ref p0_bLong]) q_w0 trivial hK hP97 hDa za_r_pullIt hS97 hA [0] [] (by decide +kernel) ⟨hx, hb, hml, hown, hts⟩ (r_sideOf l dC dI H97.size p0 f_p0 ii ho_p0) rfl rfl (cwV 1 hts (p1_gV m_12 m_13 m_14 m_5 g_r_sideOf gz_r_sideOf) rfl rfl rfl (by decide +kernel) ⟨by decide, by decide⟩) (va_recv hK hP97 (ci := 8) (q0 := 0) rfl rfl) zm_r_sideOf rfl hl.1 rfl (Nat.le_of_ble_eq_true rfl) dX9_pullIt_149 ⟨by decide, by decide⟩ (fun r_98 H99 lo99 hG99 hS99 => ?_)
                  obtain ⟨z_100, hQ99⟩ := hG99
                  have hP99 : va_P (dC, dI) vwCl (zW_r_pullIt p0 f_p0 p0_bLong c_p0_bLong bz_p0_bLong p0_bTight c_p0_bTight g97 p0_code c_p0_code b_p0_code p0_codeNumber c_p0_codeNumber b_p0_codeNumber p0_laws c_p0_laws b_p0_laws p0_pile c_p0_pile o_82 p0_rFrom c_p0_rFrom b_p0_rFrom p0_rTo c_p0_rTo b_p0_rTo) H99 := hQ99
                  clear hQ99 hP97 hS97
                  refine lv_dup2_11 hx hb dX9_pullIt_152 rfl rfl (q_ild hx hb hK hP99 1 0 rfl rfl (q_in (by omega) (by omega)) dX9_pullIt_153 (fun v_101 ev_101 => ?_))
                  refine lv_iload hx hb dX9_pullIt_154 (lv_at hl 0 rfl) (lv_iadd hx hb dX9_pullIt_156 (lv_topi fun v_102 ev_102 => q_ist hx hb hK hP99 hDa za_r_pullIt hS99 1 0 rfl rfl (q_in (by omega) (by omega)) dX9_pullIt_157 (fun H103 lo103 g103 eg103 (hP103 : va_P (dC, dI) vwCl (zW_r_pullIt p0 f_p0 p0_bLong c_p0_bLong g103 p0_bTight c_p0_bTight g97 p0_code c_p0_code b_p0_code p0_codeNumber c_p0_codeNumber b_p0_codeNumber p0_laws c_p0_laws b_p0_laws p0_pile c_p0_pile o_82 p0_rFrom c_p0_rFrom b_p0_rFrom p0_rTo c_p0_rTo b_p0_rTo) H103) hS103 => ?_)))
                  clear hP99 hS99
                  refine lv_iload_n hx hb dX9_pullIt_158 rfl (lv_at hl 5 rfl) (lv_iload hx hb dX9_pullIt_159 (lv_at hl 0 rfl) (lv_iadd hx hb dX9_pullIt_161 (lv_topi fun v_104 ev_104 => lv_istore_n (lv' := [(3, .int v_104), (4, .int v_93), (10, .long w_88), (8, .long w_84), (6, .long w_79), (5, .int ii), (0, .ref p0), (1, .int a1), (2, .int a2)]) hx hb dX9_pullIt_162 rfl hl (by decide) rfl (fun ls hl => ?_))))
                  obtain ⟨v_105, ev_105⟩ : ∃ y : Int32, y = ii + (-1) := ⟨_, rfl⟩
                  have tv_105 := q_add ev_105 (by omega) (by omega)
                  refine lv_iinc (v := v_105) (lv' := [(5, .int v_105), (3, .int v_104), (4, .int v_93), (10, .long w_88), (8, .long w_84), (6, .long w_79), (0, .ref p0), (1, .int a1), (2, .int a2)]) hx hb dX9_pullIt_163 hl (k := 5) rfl (by rw [ev_105]; rfl) (by decide) rfl (fun ls hl => ?_)
                  refine lv_goto (tgt := 13) hx hb dX9_pullIt_166 (by decide) ?_
                  exact ih13 (fu13 - 1) (by omega) v_104 v_93 v_105 g103 g97 o_82 _ _ _ (by omega) (by omega) hP103 hS103 (lv_sub hl [0, 2, 1, 6, 7, 8] rfl)
                · have tc_94 := q_eqN c_94
                  refine lv_goto (tgt := 169) hx hb dX9_pullIt_127 (by decide) ?_
                  have key169 : ∀ (fu169 : Nat) (fz_p0 : List Value) (bmv : Int32) (H : Heap) (locs : List Loc) (ls : Array Slot) (hfu169 : bmv.toInt ≤ (fu169 : Int)) (ho_fz_p0 : OKX9 fz_p0) (hf_fz_p0 : q_fr [52] f_p0 fz_p0) (fr_fz_p0_14 : q_rf fz_p0 14 p0_laws) (fr_fz_p0_36 : q_rf fz_p0 36 p0_rFrom) (fr_fz_p0_37 : q_rf fz_p0 37 p0_rTo) (fr_fz_p0_38 : q_rf fz_p0 38 p0_code) (fr_fz_p0_39 : q_rf fz_p0 39 p0_codeNumber) (fr_fz_p0_42 : q_rf fz_p0 42 p0_pile) (fh_fz_p0_43 : q_if fz_p0 43 bk) (fr_fz_p0_49 : q_rf fz_p0 49 p0_bTight) (fr_fz_p0_50 : q_rf fz_p0 50 p0_bLong) (fv_fz_p0_52 : q_if fz_p0 52 bmv) (tbmv : (0) ≤ bmv.toInt ∧ bmv.toInt ≤ 12), va_P (dC, dI) vwCl (zW_r_pullIt p0 fz_p0 p0_bLong c_p0_bLong bz_p0_bLong p0_bTight c_p0_bTight bz_p0_bTight p0_code c_p0_code b_p0_code p0_codeNumber c_p0_codeNumber b_p0_codeNumber p0_laws c_p0_laws b_p0_laws p0_pile c_p0_pile o_82 p0_rFrom c_p0_rFrom b_p0_rFrom p0_rTo c_p0_rTo b_p0_rTo) H → va_S A s.heap H locs → lv_has ls 12 [(4, .int v_93), (10, .long w_88), (8, .long w_84), (6, .long w_79), (5, .int ii), (3, .int su), (0, .ref p0), (1, .int a1), (2, .int a2)] → W p l e (headSpec zw_r_pullIt { frames := 4, cells := 0, slots := 0, locals := 91 }).room s m ([.ref p0, .int a1, .int a2] : List Value).toArray below meth c H locs 0 0 (MQ below (q_Qi (dC, dI) (zG_r_pullIt p0 f_p0 p0_bLong c_p0_bLong b_p0_bLong p0_bTight c_p0_bTight b_p0_bTight p0_code c_p0_code b_p0_code p0_codeNumber c_p0_codeNumber b_p0_codeNumber p0_laws c_p0_laws b_p0_laws p0_pile c_p0_pile b_p0_pile p0_rFrom c_p0_rFrom b_p0_rFrom p0_rTo c_p0_rTo b_p0_rTo a1 a2 bk) (zA_r_pullIt p0 p0_bLong p0_bTight p0_code p0_codeNumber p0_laws p0_pile p0_rFrom p0_rTo) A) ([.ref p0, .int a1, .int a2] : List Value).toArray s 0 0 A) (F0 m 169 ls []) := by
                    intro fu169
                    induction fu169 using Nat.strongRecOn with
                    | ind fu169 ih169 =>
                      intro fz_p0 bmv H106 lo106 ls hfu169 ho_fz_p0 hf_fz_p0 fr_fz_p0_14 fr_fz_p0_36 fr_fz_p0_37 fr_fz_p0_38 fr_fz_p0_39 fr_fz_p0_42 fh_fz_p0_43 fr_fz_p0_49 fr_fz_p0_50 fv_fz_p0_52 tbmv hP106 hS106 hl
                      refine lv_aload_n hx hb dX9_pullIt_169 rfl (lv_at hl 6 rfl) (qg_X9_52 hx hb hts i_X9 hown hK hP106 0 rfl k_0 fv_fz_p0_52 dX9_pullIt_170 ?_)
                      refine lv_if_le (tgt := 203) hx hb dX9_pullIt_173 (by decide) (fun c_107 => ?_) (fun c_107 => ?_)
                      · have tc_107 := q_le c_107
                        refine lv_iload_n hx hb dX9_pullIt_203 rfl (lv_at hl 5 rfl) ?_
                        exact q_iret hx hb hr hlocks hS106 dX9_pullIt_204 ⟨fz_p0, bz_p0_bLong, bz_p0_bTight, o_82, ho_fz_p0, hf_fz_p0, hP106, za_r_pullIt⟩
                      · have tc_107 := q_gtN c_107
                        refine lv_aload_n hx hb dX9_pullIt_176 rfl (lv_at hl 6 rfl) (qg_X9_49 hx hb hts i_X9 hown hK hP106 0 rfl k_1 fr_fz_p0_49 dX9_pullIt_177 (lv_aload_n hx hb dX9_pullIt_180 rfl (lv_at hl 6 rfl) (qg_X9_52 hx hb hts i_X9 hown hK hP106 0 rfl k_0 fv_fz_p0_52 dX9_pullIt_181 (lv_iconst (v := 1) hx hb dX9_pullIt_184 (by decide) (lv_isub hx hb dX9_pullIt_185 (lv_topi fun v_108 ev_108 => ?_))))))
                        have tv_108 := q_sub ev_108 (by omega) (by omega)
                        refine q_ild hx hb hK hP106 2 1 rfl rfl (q_in (by omega) (by omega)) dX9_pullIt_186 (fun v_109 ev_109 => ?_)
                        refine lv_if_ne (tgt := 203) hx hb dX9_pullIt_187 (by decide) (fun c_110 => ?_) (fun c_110 => ?_)
                        · have tc_110 := q_ne c_110
                          refine lv_iload_n hx hb dX9_pullIt_203 rfl (lv_at hl 5 rfl) ?_
                          exact q_iret hx hb hr hlocks hS106 dX9_pullIt_204 ⟨fz_p0, bz_p0_bLong, bz_p0_bTight, o_82, ho_fz_p0, hf_fz_p0, hP106, za_r_pullIt⟩
                        · have tc_110 := q_eqN c_110
                          refine lv_aload_n hx hb dX9_pullIt_190 rfl (lv_at hl 6 rfl) (lv_dup hx hb dX9_pullIt_191 rfl (qg_X9_52 hx hb hts i_X9 hown hK hP106 0 rfl k_0 fv_fz_p0_52 dX9_pullIt_192 (lv_iconst (v := 1) hx hb dX9_pullIt_195 (by decide) (lv_isub hx hb dX9_pullIt_196 (lv_topi fun v_111 ev_111 => ?_)))))
                          have tv_111 := q_sub ev_111 (by omega) (by omega)
                          refine qp_X9_52 hx hb hts i_X9 hown hK hP106 hDa za_r_pullIt hS106 0 rfl k_0 (OKX9_l ho_fz_p0) dX9_pullIt_197 (fun H112 lo112 fs112 efs112 (hP112 : va_P (dC, dI) vwCl (zW_r_pullIt p0 fs112 p0_bLong c_p0_bLong bz_p0_bLong p0_bTight c_p0_bTight bz_p0_bTight p0_code c_p0_code b_p0_code p0_codeNumber c_p0_codeNumber b_p0_codeNumber p0_laws c_p0_laws b_p0_laws p0_pile c_p0_pile o_82 p0_rFrom c_p0_rFrom b_p0_rFrom p0_rTo c_p0_rTo b_p0_rTo) H112) hS112 => ?_)
                          have ho112 := OKX9_p52 ho_fz_p0 efs112 ⟨by omega, by omega⟩
                          clear hP106 hS106
                          refine lv_goto (tgt := 169) hx hb dX9_pullIt_200 (by decide) ?_
                          exact ih169 (fu169 - 1) (by omega) fs112 v_111 _ _ _ (by omega) ho112 (hf_fz_p0.st efs112 (by decide)) (q_sn efs112 (by decide) fr_fz_p0_14) (q_sn efs112 (by decide) fr_fz_p0_36) (q_sn efs112 (by decide) fr_fz_p0_37) (q_sn efs112 (by decide) fr_fz_p0_38) (q_sn efs112 (by decide) fr_fz_p0_39) (q_sn efs112 (by decide) fr_fz_p0_42) (q_sn efs112 (by decide) fh_fz_p0_43) (q_sn efs112 (by decide) fr_fz_p0_49) (q_sn efs112 (by decide) fr_fz_p0_50) (q_sa efs112 (OKX9_l ho_fz_p0) (by decide)) (by omega) hP112 hS112 (lv_sub hl [0, 1, 2, 3, 4, 5, 6, 7, 8] rfl)
                  exact key169 12 f_p0 v_1 _ _ _ (by omega) ho_p0 q_fr.rf fr_p0_14 fr_p0_36 fr_p0_37 fr_p0_38 fr_p0_39 fr_p0_42 pf_bk fr_p0_49 fr_p0_50 fv_1 (by omega) hP81 hS81 (lv_sub hl [0, 1, 2, 3, 4, 5, 6, 7, 8] rfl)
              · have tc_92 := q_gtN c_92
                refine lv_aload_n hx hb dX9_pullIt_107 rfl (lv_at hl 6 rfl) (qg_X9_49 hx hb hts i_X9 hown hK hP81 0 rfl k_1 fr_p0_49 dX9_pullIt_108 (lv_iload hx hb dX9_pullIt_111 (lv_at hl 3 rfl) (q_ild hx hb hK hP81 2 1 rfl rfl (q_in (by omega) (by omega)) dX9_pullIt_113 (fun v_113 ev_113 => ?_))))
                refine lv_goto (tgt := 120) hx hb dX9_pullIt_114 (by decide) (lv_istore (lv' := [(4, .int v_113), (10, .long w_88), (8, .long w_84), (6, .long w_79), (5, .int ii), (3, .int su), (0, .ref p0), (1, .int a1), (2, .int a2)]) hx hb dX9_pullIt_120 hl (by decide) rfl (fun ls hl => ?_))
                refine lv_iload hx hb dX9_pullIt_122 (lv_at hl 0 rfl) ?_
                refine lv_if_ne (tgt := 130) hx hb dX9_pullIt_124 (by decide) (fun c_114 => ?_) (fun c_114 => ?_)
                · have tc_114 := q_ne c_114
                  refine lv_aload_n hx hb dX9_pullIt_130 rfl (lv_at hl 6 rfl) (qg_X9_49 hx hb hts i_X9 hown hK hP81 0 rfl k_1 fr_p0_49 dX9_pullIt_131 (lv_iload hx hb dX9_pullIt_134 (lv_at hl 4 rfl) (lv_dup2_11 hx hb dX9_pullIt_136 rfl rfl (q_ild hx hb hK hP81 2 1 rfl rfl (q_in (by omega) (by omega)) dX9_pullIt_137 (fun v_115 ev_115 => ?_)))))
                  refine lv_iload hx hb dX9_pullIt_138 (lv_at hl 0 rfl) (lv_isub hx hb dX9_pullIt_140 (lv_topi fun v_116 ev_116 => q_ist hx hb hK hP81 hDa za_r_pullIt hS81 2 1 rfl rfl (q_in (by omega) (by omega)) dX9_pullIt_141 (fun H117 lo117 g117 eg117 (hP117 : va_P (dC, dI) vwCl (zW_r_pullIt p0 f_p0 p0_bLong c_p0_bLong bz_p0_bLong p0_bTight c_p0_bTight g117 p0_code c_p0_code b_p0_code p0_codeNumber c_p0_codeNumber b_p0_codeNumber p0_laws c_p0_laws b_p0_laws p0_pile c_p0_pile o_82 p0_rFrom c_p0_rFrom b_p0_rFrom p0_rTo c_p0_rTo b_p0_rTo) H117) hS117 => ?_)))
                  clear hP81 hS81
                  refine lv_aload_n hx hb dX9_pullIt_142 rfl (lv_at hl 6 rfl) (qg_X9_50 hx hb hts i_X9 hown hK hP117 0 rfl k_11 fr_p0_50 dX9_pullIt_143 (lv_aload_n hx hb dX9_pullIt_146 rfl (lv_at hl 6 rfl) (lv_iload hx hb dX9_pullIt_147 (lv_at hl 4 rfl) ?_)))
                  refine q_cVi (As := [.int ii]) (rest := [.ref p0_bLong]) q_w0 trivial hK hP117 hDa za_r_pullIt hS117 hA [0] [] (by decide +kernel) ⟨hx, hb, hml, hown, hts⟩ (r_sideOf l dC dI H117.size p0 f_p0 ii ho_p0) rfl rfl (cwV 1 hts (p1_gV m_12 m_13 m_14 m_5 g_r_sideOf gz_r_sideOf) rfl rfl rfl (by decide +kernel) ⟨by decide, by decide⟩) (va_recv hK hP117 (ci := 8) (q0 := 0) rfl rfl) zm_r_sideOf rfl hl.1 rfl (Nat.le_of_ble_eq_true rfl) dX9_pullIt_149 ⟨by decide, by decide⟩ (fun r_118 H119 lo119 hG119 hS119 => ?_)
                  obtain ⟨z_120, hQ119⟩ := hG119
                  have hP119 : va_P (dC, dI) vwCl (zW_r_pullIt p0 f_p0 p0_bLong c_p0_bLong bz_p0_bLong p0_bTight c_p0_bTight g117 p0_code c_p0_code b_p0_code p0_codeNumber c_p0_codeNumber b_p0_codeNumber p0_laws c_p0_laws b_p0_laws p0_pile c_p0_pile o_82 p0_rFrom c_p0_rFrom b_p0_rFrom p0_rTo c_p0_rTo b_p0_rTo) H119 := hQ119
                  clear hQ119 hP117 hS117
                  refine lv_dup2_11 hx hb dX9_pullIt_152 rfl rfl (q_ild hx hb hK hP119 1 0 rfl rfl (q_in (by omega) (by omega)) dX9_pullIt_153 (fun v_121 ev_121 => ?_))
                  refine lv_iload hx hb dX9_pullIt_154 (lv_at hl 0 rfl) (lv_iadd hx hb dX9_pullIt_156 (lv_topi fun v_122 ev_122 => q_ist hx hb hK hP119 hDa za_r_pullIt hS119 1 0 rfl rfl (q_in (by omega) (by omega)) dX9_pullIt_157 (fun H123 lo123 g123 eg123 (hP123 : va_P (dC, dI) vwCl (zW_r_pullIt p0 f_p0 p0_bLong c_p0_bLong g123 p0_bTight c_p0_bTight g117 p0_code c_p0_code b_p0_code p0_codeNumber c_p0_codeNumber b_p0_codeNumber p0_laws c_p0_laws b_p0_laws p0_pile c_p0_pile o_82 p0_rFrom c_p0_rFrom b_p0_rFrom p0_rTo c_p0_rTo b_p0_rTo) H123) hS123 => ?_)))
                  clear hP119 hS119
                  refine lv_iload_n hx hb dX9_pullIt_158 rfl (lv_at hl 5 rfl) (lv_iload hx hb dX9_pullIt_159 (lv_at hl 0 rfl) (lv_iadd hx hb dX9_pullIt_161 (lv_topi fun v_124 ev_124 => lv_istore_n (lv' := [(3, .int v_124), (4, .int v_113), (10, .long w_88), (8, .long w_84), (6, .long w_79), (5, .int ii), (0, .ref p0), (1, .int a1), (2, .int a2)]) hx hb dX9_pullIt_162 rfl hl (by decide) rfl (fun ls hl => ?_))))
                  obtain ⟨v_125, ev_125⟩ : ∃ y : Int32, y = ii + (-1) := ⟨_, rfl⟩
                  have tv_125 := q_add ev_125 (by omega) (by omega)
                  refine lv_iinc (v := v_125) (lv' := [(5, .int v_125), (3, .int v_124), (4, .int v_113), (10, .long w_88), (8, .long w_84), (6, .long w_79), (0, .ref p0), (1, .int a1), (2, .int a2)]) hx hb dX9_pullIt_163 hl (k := 5) rfl (by rw [ev_125]; rfl) (by decide) rfl (fun ls hl => ?_)
                  refine lv_goto (tgt := 13) hx hb dX9_pullIt_166 (by decide) ?_
                  exact ih13 (fu13 - 1) (by omega) v_124 v_113 v_125 g123 g117 o_82 _ _ _ (by omega) (by omega) hP123 hS123 (lv_sub hl [0, 2, 1, 6, 7, 8] rfl)
                · have tc_114 := q_eqN c_114
                  refine lv_goto (tgt := 169) hx hb dX9_pullIt_127 (by decide) ?_
                  have key169 : ∀ (fu169 : Nat) (fz_p0 : List Value) (bmv : Int32) (H : Heap) (locs : List Loc) (ls : Array Slot) (hfu169 : bmv.toInt ≤ (fu169 : Int)) (ho_fz_p0 : OKX9 fz_p0) (hf_fz_p0 : q_fr [52] f_p0 fz_p0) (fr_fz_p0_14 : q_rf fz_p0 14 p0_laws) (fr_fz_p0_36 : q_rf fz_p0 36 p0_rFrom) (fr_fz_p0_37 : q_rf fz_p0 37 p0_rTo) (fr_fz_p0_38 : q_rf fz_p0 38 p0_code) (fr_fz_p0_39 : q_rf fz_p0 39 p0_codeNumber) (fr_fz_p0_42 : q_rf fz_p0 42 p0_pile) (fh_fz_p0_43 : q_if fz_p0 43 bk) (fr_fz_p0_49 : q_rf fz_p0 49 p0_bTight) (fr_fz_p0_50 : q_rf fz_p0 50 p0_bLong) (fv_fz_p0_52 : q_if fz_p0 52 bmv) (tbmv : (0) ≤ bmv.toInt ∧ bmv.toInt ≤ 12), va_P (dC, dI) vwCl (zW_r_pullIt p0 fz_p0 p0_bLong c_p0_bLong bz_p0_bLong p0_bTight c_p0_bTight bz_p0_bTight p0_code c_p0_code b_p0_code p0_codeNumber c_p0_codeNumber b_p0_codeNumber p0_laws c_p0_laws b_p0_laws p0_pile c_p0_pile o_82 p0_rFrom c_p0_rFrom b_p0_rFrom p0_rTo c_p0_rTo b_p0_rTo) H → va_S A s.heap H locs → lv_has ls 12 [(4, .int v_113), (10, .long w_88), (8, .long w_84), (6, .long w_79), (5, .int ii), (3, .int su), (0, .ref p0), (1, .int a1), (2, .int a2)] → W p l e (headSpec zw_r_pullIt { frames := 4, cells := 0, slots := 0, locals := 91 }).room s m ([.ref p0, .int a1, .int a2] : List Value).toArray below meth c H locs 0 0 (MQ below (q_Qi (dC, dI) (zG_r_pullIt p0 f_p0 p0_bLong c_p0_bLong b_p0_bLong p0_bTight c_p0_bTight b_p0_bTight p0_code c_p0_code b_p0_code p0_codeNumber c_p0_codeNumber b_p0_codeNumber p0_laws c_p0_laws b_p0_laws p0_pile c_p0_pile b_p0_pile p0_rFrom c_p0_rFrom b_p0_rFrom p0_rTo c_p0_rTo b_p0_rTo a1 a2 bk) (zA_r_pullIt p0 p0_bLong p0_bTight p0_code p0_codeNumber p0_laws p0_pile p0_rFrom p0_rTo) A) ([.ref p0, .int a1, .int a2] : List Value).toArray s 0 0 A) (F0 m 169 ls []) := by
                    intro fu169
                    induction fu169 using Nat.strongRecOn with
                    | ind fu169 ih169 =>
                      intro fz_p0 bmv H126 lo126 ls hfu169 ho_fz_p0 hf_fz_p0 fr_fz_p0_14 fr_fz_p0_36 fr_fz_p0_37 fr_fz_p0_38 fr_fz_p0_39 fr_fz_p0_42 fh_fz_p0_43 fr_fz_p0_49 fr_fz_p0_50 fv_fz_p0_52 tbmv hP126 hS126 hl
                      refine lv_aload_n hx hb dX9_pullIt_169 rfl (lv_at hl 6 rfl) (qg_X9_52 hx hb hts i_X9 hown hK hP126 0 rfl k_0 fv_fz_p0_52 dX9_pullIt_170 ?_)
                      refine lv_if_le (tgt := 203) hx hb dX9_pullIt_173 (by decide) (fun c_127 => ?_) (fun c_127 => ?_)
                      · have tc_127 := q_le c_127
                        refine lv_iload_n hx hb dX9_pullIt_203 rfl (lv_at hl 5 rfl) ?_
                        exact q_iret hx hb hr hlocks hS126 dX9_pullIt_204 ⟨fz_p0, bz_p0_bLong, bz_p0_bTight, o_82, ho_fz_p0, hf_fz_p0, hP126, za_r_pullIt⟩
                      · have tc_127 := q_gtN c_127
                        refine lv_aload_n hx hb dX9_pullIt_176 rfl (lv_at hl 6 rfl) (qg_X9_49 hx hb hts i_X9 hown hK hP126 0 rfl k_1 fr_fz_p0_49 dX9_pullIt_177 (lv_aload_n hx hb dX9_pullIt_180 rfl (lv_at hl 6 rfl) (qg_X9_52 hx hb hts i_X9 hown hK hP126 0 rfl k_0 fv_fz_p0_52 dX9_pullIt_181 (lv_iconst (v := 1) hx hb dX9_pullIt_184 (by decide) (lv_isub hx hb dX9_pullIt_185 (lv_topi fun v_128 ev_128 => ?_))))))
                        have tv_128 := q_sub ev_128 (by omega) (by omega)
                        refine q_ild hx hb hK hP126 2 1 rfl rfl (q_in (by omega) (by omega)) dX9_pullIt_186 (fun v_129 ev_129 => ?_)
                        refine lv_if_ne (tgt := 203) hx hb dX9_pullIt_187 (by decide) (fun c_130 => ?_) (fun c_130 => ?_)
                        · have tc_130 := q_ne c_130
                          refine lv_iload_n hx hb dX9_pullIt_203 rfl (lv_at hl 5 rfl) ?_
                          exact q_iret hx hb hr hlocks hS126 dX9_pullIt_204 ⟨fz_p0, bz_p0_bLong, bz_p0_bTight, o_82, ho_fz_p0, hf_fz_p0, hP126, za_r_pullIt⟩
                        · have tc_130 := q_eqN c_130
                          refine lv_aload_n hx hb dX9_pullIt_190 rfl (lv_at hl 6 rfl) (lv_dup hx hb dX9_pullIt_191 rfl (qg_X9_52 hx hb hts i_X9 hown hK hP126 0 rfl k_0 fv_fz_p0_52 dX9_pullIt_192 (lv_iconst (v := 1) hx hb dX9_pullIt_195 (by decide) (lv_isub hx hb dX9_pullIt_196 (lv_topi fun v_131 ev_131 => ?_)))))
                          have tv_131 := q_sub ev_131 (by omega) (by omega)
                          refine qp_X9_52 hx hb hts i_X9 hown hK hP126 hDa za_r_pullIt hS126 0 rfl k_0 (OKX9_l ho_fz_p0) dX9_pullIt_197 (fun H132 lo132 fs132 efs132 (hP132 : va_P (dC, dI) vwCl (zW_r_pullIt p0 fs132 p0_bLong c_p0_bLong bz_p0_bLong p0_bTight c_p0_bTight bz_p0_bTight p0_code c_p0_code b_p0_code p0_codeNumber c_p0_codeNumber b_p0_codeNumber p0_laws c_p0_laws b_p0_laws p0_pile c_p0_pile o_82 p0_rFrom c_p0_rFrom b_p0_rFrom p0_rTo c_p0_rTo b_p0_rTo) H132) hS132 => ?_)
                          have ho132 := OKX9_p52 ho_fz_p0 efs132 ⟨by omega, by omega⟩
                          clear hP126 hS126
                          refine lv_goto (tgt := 169) hx hb dX9_pullIt_200 (by decide) ?_
                          exact ih169 (fu169 - 1) (by omega) fs132 v_131 _ _ _ (by omega) ho132 (hf_fz_p0.st efs132 (by decide)) (q_sn efs132 (by decide) fr_fz_p0_14) (q_sn efs132 (by decide) fr_fz_p0_36) (q_sn efs132 (by decide) fr_fz_p0_37) (q_sn efs132 (by decide) fr_fz_p0_38) (q_sn efs132 (by decide) fr_fz_p0_39) (q_sn efs132 (by decide) fr_fz_p0_42) (q_sn efs132 (by decide) fh_fz_p0_43) (q_sn efs132 (by decide) fr_fz_p0_49) (q_sn efs132 (by decide) fr_fz_p0_50) (q_sa efs132 (OKX9_l ho_fz_p0) (by decide)) (by omega) hP132 hS132 (lv_sub hl [0, 1, 2, 3, 4, 5, 6, 7, 8] rfl)
                  exact key169 12 f_p0 v_1 _ _ _ (by omega) ho_p0 q_fr.rf fr_p0_14 fr_p0_36 fr_p0_37 fr_p0_38 fr_p0_39 fr_p0_42 pf_bk fr_p0_49 fr_p0_50 fv_1 (by omega) hP81 hS81 (lv_sub hl [0, 1, 2, 3, 4, 5, 6, 7, 8] rfl)
            · have tc_86 := q_leN c_86
              refine lv_goto (tgt := 169) hx hb dX9_pullIt_78 (by decide) ?_
              have key169 : ∀ (fu169 : Nat) (fz_p0 : List Value) (bmv : Int32) (H : Heap) (locs : List Loc) (ls : Array Slot) (hfu169 : bmv.toInt ≤ (fu169 : Int)) (ho_fz_p0 : OKX9 fz_p0) (hf_fz_p0 : q_fr [52] f_p0 fz_p0) (fr_fz_p0_14 : q_rf fz_p0 14 p0_laws) (fr_fz_p0_36 : q_rf fz_p0 36 p0_rFrom) (fr_fz_p0_37 : q_rf fz_p0 37 p0_rTo) (fr_fz_p0_38 : q_rf fz_p0 38 p0_code) (fr_fz_p0_39 : q_rf fz_p0 39 p0_codeNumber) (fr_fz_p0_42 : q_rf fz_p0 42 p0_pile) (fh_fz_p0_43 : q_if fz_p0 43 bk) (fr_fz_p0_49 : q_rf fz_p0 49 p0_bTight) (fr_fz_p0_50 : q_rf fz_p0 50 p0_bLong) (fv_fz_p0_52 : q_if fz_p0 52 bmv) (tbmv : (0) ≤ bmv.toInt ∧ bmv.toInt ≤ 12), va_P (dC, dI) vwCl (zW_r_pullIt p0 fz_p0 p0_bLong c_p0_bLong bz_p0_bLong p0_bTight c_p0_bTight bz_p0_bTight p0_code c_p0_code b_p0_code p0_codeNumber c_p0_codeNumber b_p0_codeNumber p0_laws c_p0_laws b_p0_laws p0_pile c_p0_pile o_82 p0_rFrom c_p0_rFrom b_p0_rFrom p0_rTo c_p0_rTo b_p0_rTo) H → va_S A s.heap H locs → lv_has ls 12 [(8, .long w_84), (6, .long w_79), (5, .int ii), (4, .int ou), (3, .int su), (0, .ref p0), (1, .int a1), (2, .int a2)] → W p l e (headSpec zw_r_pullIt { frames := 4, cells := 0, slots := 0, locals := 91 }).room s m ([.ref p0, .int a1, .int a2] : List Value).toArray below meth c H locs 0 0 (MQ below (q_Qi (dC, dI) (zG_r_pullIt p0 f_p0 p0_bLong c_p0_bLong b_p0_bLong p0_bTight c_p0_bTight b_p0_bTight p0_code c_p0_code b_p0_code p0_codeNumber c_p0_codeNumber b_p0_codeNumber p0_laws c_p0_laws b_p0_laws p0_pile c_p0_pile b_p0_pile p0_rFrom c_p0_rFrom b_p0_rFrom p0_rTo c_p0_rTo b_p0_rTo a1 a2 bk) (zA_r_pullIt p0 p0_bLong p0_bTight p0_code p0_codeNumber p0_laws p0_pile p0_rFrom p0_rTo) A) ([.ref p0, .int a1, .int a2] : List Value).toArray s 0 0 A) (F0 m 169 ls []) := by
                intro fu169
                induction fu169 using Nat.strongRecOn with
                | ind fu169 ih169 =>
                  intro fz_p0 bmv H133 lo133 ls hfu169 ho_fz_p0 hf_fz_p0 fr_fz_p0_14 fr_fz_p0_36 fr_fz_p0_37 fr_fz_p0_38 fr_fz_p0_39 fr_fz_p0_42 fh_fz_p0_43 fr_fz_p0_49 fr_fz_p0_50 fv_fz_p0_52 tbmv hP133 hS133 hl
                  refine lv_aload_n hx hb dX9_pullIt_169 rfl (lv_at hl 5 rfl) (qg_X9_52 hx hb hts i_X9 hown hK hP133 0 rfl k_0 fv_fz_p0_52 dX9_pullIt_170 ?_)
                  refine lv_if_le (tgt := 203) hx hb dX9_pullIt_173 (by decide) (fun c_134 => ?_) (fun c_134 => ?_)
                  · have tc_134 := q_le c_134
                    refine lv_iload_n hx hb dX9_pullIt_203 rfl (lv_at hl 4 rfl) ?_
                    exact q_iret hx hb hr hlocks hS133 dX9_pullIt_204 ⟨fz_p0, bz_p0_bLong, bz_p0_bTight, o_82, ho_fz_p0, hf_fz_p0, hP133, za_r_pullIt⟩
                  · have tc_134 := q_gtN c_134
                    refine lv_aload_n hx hb dX9_pullIt_176 rfl (lv_at hl 5 rfl) (qg_X9_49 hx hb hts i_X9 hown hK hP133 0 rfl k_1 fr_fz_p0_49 dX9_pullIt_177 (lv_aload_n hx hb dX9_pullIt_180 rfl (lv_at hl 5 rfl) (qg_X9_52 hx hb hts i_X9 hown hK hP133 0 rfl k_0 fv_fz_p0_52 dX9_pullIt_181 (lv_iconst (v := 1) hx hb dX9_pullIt_184 (by decide) (lv_isub hx hb dX9_pullIt_185 (lv_topi fun v_135 ev_135 => ?_))))))
                    have tv_135 := q_sub ev_135 (by omega) (by omega)
                    refine q_ild hx hb hK hP133 2 1 rfl rfl (q_in (by omega) (by omega)) dX9_pullIt_186 (fun v_136 ev_136 => ?_)
                    refine lv_if_ne (tgt := 203) hx hb dX9_pullIt_187 (by decide) (fun c_137 => ?_) (fun c_137 => ?_)
                    · have tc_137 := q_ne c_137
                      refine lv_iload_n hx hb dX9_pullIt_203 rfl (lv_at hl 4 rfl) ?_
                      exact q_iret hx hb hr hlocks hS133 dX9_pullIt_204 ⟨fz_p0, bz_p0_bLong, bz_p0_bTight, o_82, ho_fz_p0, hf_fz_p0, hP133, za_r_pullIt⟩
                    · have tc_137 := q_eqN c_137
                      refine lv_aload_n hx hb dX9_pullIt_190 rfl (lv_at hl 5 rfl) (lv_dup hx hb dX9_pullIt_191 rfl (qg_X9_52 hx hb hts i_X9 hown hK hP133 0 rfl k_0 fv_fz_p0_52 dX9_pullIt_192 (lv_iconst (v := 1) hx hb dX9_pullIt_195 (by decide) (lv_isub hx hb dX9_pullIt_196 (lv_topi fun v_138 ev_138 => ?_)))))
                      have tv_138 := q_sub ev_138 (by omega) (by omega)
                      refine qp_X9_52 hx hb hts i_X9 hown hK hP133 hDa za_r_pullIt hS133 0 rfl k_0 (OKX9_l ho_fz_p0) dX9_pullIt_197 (fun H139 lo139 fs139 efs139 (hP139 : va_P (dC, dI) vwCl (zW_r_pullIt p0 fs139 p0_bLong c_p0_bLong bz_p0_bLong p0_bTight c_p0_bTight bz_p0_bTight p0_code c_p0_code b_p0_code p0_codeNumber c_p0_codeNumber b_p0_codeNumber p0_laws c_p0_laws b_p0_laws p0_pile c_p0_pile o_82 p0_rFrom c_p0_rFrom b_p0_rFrom p0_rTo c_p0_rTo b_p0_rTo) H139) hS139 => ?_)
                      have ho139 := OKX9_p52 ho_fz_p0 efs139 ⟨by omega, by omega⟩
                      clear hP133 hS133
                      refine lv_goto (tgt := 169) hx hb dX9_pullIt_200 (by decide) ?_
                      exact ih169 (fu169 - 1) (by omega) fs139 v_138 _ _ _ (by omega) ho139 (hf_fz_p0.st efs139 (by decide)) (q_sn efs139 (by decide) fr_fz_p0_14) (q_sn efs139 (by decide) fr_fz_p0_36) (q_sn efs139 (by decide) fr_fz_p0_37) (q_sn efs139 (by decide) fr_fz_p0_38) (q_sn efs139 (by decide) fr_fz_p0_39) (q_sn efs139 (by decide) fr_fz_p0_42) (q_sn efs139 (by decide) fh_fz_p0_43) (q_sn efs139 (by decide) fr_fz_p0_49) (q_sn efs139 (by decide) fr_fz_p0_50) (q_sa efs139 (OKX9_l ho_fz_p0) (by decide)) (by omega) hP139 hS139 (lv_sub hl [0, 1, 2, 3, 4, 5, 6, 7] rfl)
              exact key169 12 f_p0 v_1 _ _ _ (by omega) ho_p0 q_fr.rf fr_p0_14 fr_p0_36 fr_p0_37 fr_p0_38 fr_p0_39 fr_p0_42 pf_bk fr_p0_49 fr_p0_50 fv_1 (by omega) hP81 hS81 (lv_sub hl [0, 1, 2, 3, 4, 5, 6, 7] rfl)
        · have tc_13 := q_ltN c_13
          refine lv_ldc2 (v := 4) hx hb hown k_15 dX9_pullIt_29 (lv_iload hx hb dX9_pullIt_32 (lv_at hl 1 rfl) (lv_i2l hx hb dX9_pullIt_34 rfl (lv_topl fun w_140 ew_140 => lv_lmul hx hb dX9_pullIt_35 (lv_topl fun w_141 ew_141 => lv_goto (tgt := 56) hx hb dX9_pullIt_36 (by decide) (lv_lstore (lv' := [(6, .long w_141), (5, .int ii), (4, .int ou), (3, .int su), (0, .ref p0), (1, .int a1), (2, .int a2)]) hx hb dX9_pullIt_56 hl (by decide) rfl (fun ls hl => ?_))))))
          refine lv_lload hx hb dX9_pullIt_58 (lv_at hl 0 rfl) (lv_aload_n hx hb dX9_pullIt_60 rfl (lv_at hl 4 rfl) (lv_iload_n hx hb dX9_pullIt_61 rfl (lv_at hl 5 rfl) (lv_iload hx hb dX9_pullIt_62 (lv_at hl 1 rfl) ?_)))
          refine q_cVi (As := [.int a1, .int ii]) (rest := [.long w_141]) q_w0 trivial hK hP3 hDa za_r_pullIt hS3 hA [0, 1, 2, 3, 4, 5, 6, 7, 8] [0, 1, 2, 3, 4, 5, 6, 7] (by decide +kernel) ⟨hx, hb, hml, hown, hts⟩ (r_rub l dC dI H3.size p0 f_p0 p0_bLong c_p0_bLong bz_p0_bLong p0_bTight c_p0_bTight bz_p0_bTight p0_code c_p0_code b_p0_code p0_codeNumber c_p0_codeNumber b_p0_codeNumber p0_laws c_p0_laws b_p0_laws p0_pile c_p0_pile bz_p0_pile p0_rFrom c_p0_rFrom b_p0_rFrom p0_rTo c_p0_rTo b_p0_rTo a1 ii bk ho_p0 fr_p0_14 fr_p0_36 fr_p0_37 fr_p0_38 fr_p0_39 fr_p0_42 fr_p0_49 fr_p0_50 hr_p0_laws hr_p0_rFrom hr_p0_rTo pf_bk ((by omega)) hLB ((by omega))) rfl rfl (cwV 2 hts (p1_gV m_6 m_7 m_8 m_5 g_r_rub gz_r_rub) rfl rfl rfl (by decide +kernel) ⟨by decide, by decide⟩) (va_recv hK hP3 (ci := 8) (q0 := 0) rfl rfl) zm_r_rub rfl hl.1 rfl (Nat.le_of_ble_eq_true rfl) dX9_pullIt_64 ⟨by decide, by decide⟩ (fun r_142 H143 lo143 hG143 hS143 => ?_)
          obtain ⟨o_144, hQ143⟩ := hG143
          have hP143 : va_P (dC, dI) vwCl (zW_r_pullIt p0 f_p0 p0_bLong c_p0_bLong bz_p0_bLong p0_bTight c_p0_bTight bz_p0_bTight p0_code c_p0_code b_p0_code p0_codeNumber c_p0_codeNumber b_p0_codeNumber p0_laws c_p0_laws b_p0_laws p0_pile c_p0_pile o_144 p0_rFrom c_p0_rFrom b_p0_rFrom p0_rTo c_p0_rTo b_p0_rTo) H143 := hQ143
          clear hQ143 hP3 hS3
          refine lv_i2l hx hb dX9_pullIt_67 rfl (lv_topl fun w_145 ew_145 => lv_lsub hx hb dX9_pullIt_68 (lv_topl fun w_146 ew_146 => lv_lstore (lv' := [(8, .long w_146), (6, .long w_141), (5, .int ii), (4, .int ou), (3, .int su), (0, .ref p0), (1, .int a1), (2, .int a2)]) hx hb dX9_pullIt_69 hl (by decide) rfl (fun ls hl => ?_)))
          refine lv_lload hx hb dX9_pullIt_71 (lv_at hl 0 rfl) (lv_lconst (v := 0) hx hb dX9_pullIt_73 (by decide) (W.lcmp hx hb dX9_pullIt_74 (lv_topi fun v_147 ev_147 => ?_)))
          refine lv_if_gt (tgt := 81) hx hb dX9_pullIt_75 (by decide) (fun c_148 => ?_) (fun c_148 => ?_)
          · have tc_148 := q_gt c_148
            refine lv_lload hx hb dX9_pullIt_81 (lv_at hl 0 rfl) (lv_ldc2 (v := 9) hx hb hown k_9 dX9_pullIt_83 (lv_ladd hx hb dX9_pullIt_86 (lv_topl fun w_149 ew_149 => lv_ldc2 (v := 10) hx hb hown k_10 dX9_pullIt_87 (lv_ldiv hx hb dX9_pullIt_90 (by decide) (lv_topl fun w_150 ew_150 => lv_lstore (lv' := [(10, .long w_150), (8, .long w_146), (6, .long w_141), (5, .int ii), (4, .int ou), (3, .int su), (0, .ref p0), (1, .int a1), (2, .int a2)]) hx hb dX9_pullIt_91 hl (by decide) rfl (fun ls hl => ?_))))))
            refine lv_lload hx hb dX9_pullIt_93 (lv_at hl 0 rfl) (lv_aload_n hx hb dX9_pullIt_95 rfl (lv_at hl 6 rfl) (qg_X9_49 hx hb hts i_X9 hown hK hP143 0 rfl k_1 fr_p0_49 dX9_pullIt_96 (lv_iload hx hb dX9_pullIt_99 (lv_at hl 3 rfl) (q_ild hx hb hK hP143 2 1 rfl rfl (q_in (by omega) (by omega)) dX9_pullIt_101 (fun v_151 ev_151 => ?_)))))
            refine lv_i2l hx hb dX9_pullIt_102 rfl (lv_topl fun w_152 ew_152 => W.lcmp hx hb dX9_pullIt_103 (lv_topi fun v_153 ev_153 => ?_))
            refine lv_if_le (tgt := 117) hx hb dX9_pullIt_104 (by decide) (fun c_154 => ?_) (fun c_154 => ?_)
            · have tc_154 := q_le c_154
              refine lv_lload hx hb dX9_pullIt_117 (lv_at hl 0 rfl) (lv_l2i hx hb dX9_pullIt_119 rfl (lv_topi fun v_155 ev_155 => lv_istore (lv' := [(4, .int v_155), (10, .long w_150), (8, .long w_146), (6, .long w_141), (5, .int ii), (3, .int su), (0, .ref p0), (1, .int a1), (2, .int a2)]) hx hb dX9_pullIt_120 hl (by decide) rfl (fun ls hl => ?_)))
              refine lv_iload hx hb dX9_pullIt_122 (lv_at hl 0 rfl) ?_
              refine lv_if_ne (tgt := 130) hx hb dX9_pullIt_124 (by decide) (fun c_156 => ?_) (fun c_156 => ?_)
              · have tc_156 := q_ne c_156
                refine lv_aload_n hx hb dX9_pullIt_130 rfl (lv_at hl 6 rfl) (qg_X9_49 hx hb hts i_X9 hown hK hP143 0 rfl k_1 fr_p0_49 dX9_pullIt_131 (lv_iload hx hb dX9_pullIt_134 (lv_at hl 4 rfl) (lv_dup2_11 hx hb dX9_pullIt_136 rfl rfl (q_ild hx hb hK hP143 2 1 rfl rfl (q_in (by omega) (by omega)) dX9_pullIt_137 (fun v_157 ev_157 => ?_)))))
                refine lv_iload hx hb dX9_pullIt_138 (lv_at hl 0 rfl) (lv_isub hx hb dX9_pullIt_140 (lv_topi fun v_158 ev_158 => q_ist hx hb hK hP143 hDa za_r_pullIt hS143 2 1 rfl rfl (q_in (by omega) (by omega)) dX9_pullIt_141 (fun H159 lo159 g159 eg159 (hP159 : va_P (dC, dI) vwCl (zW_r_pullIt p0 f_p0 p0_bLong c_p0_bLong bz_p0_bLong p0_bTight c_p0_bTight g159 p0_code c_p0_code b_p0_code p0_codeNumber c_p0_codeNumber b_p0_codeNumber p0_laws c_p0_laws b_p0_laws p0_pile c_p0_pile o_144 p0_rFrom c_p0_rFrom b_p0_rFrom p0_rTo c_p0_rTo b_p0_rTo) H159) hS159 => ?_)))
                clear hP143 hS143
                refine lv_aload_n hx hb dX9_pullIt_142 rfl (lv_at hl 6 rfl) (qg_X9_50 hx hb hts i_X9 hown hK hP159 0 rfl k_11 fr_p0_50 dX9_pullIt_143 (lv_aload_n hx hb dX9_pullIt_146 rfl (lv_at hl 6 rfl) (lv_iload hx hb dX9_pullIt_147 (lv_at hl 4 rfl) ?_)))
                refine q_cVi (As := [.int ii]) (rest := [.ref p0_bLong]) q_w0 trivial hK hP159 hDa za_r_pullIt hS159 hA [0] [] (by decide +kernel) ⟨hx, hb, hml, hown, hts⟩ (r_sideOf l dC dI H159.size p0 f_p0 ii ho_p0) rfl rfl (cwV 1 hts (p1_gV m_12 m_13 m_14 m_5 g_r_sideOf gz_r_sideOf) rfl rfl rfl (by decide +kernel) ⟨by decide, by decide⟩) (va_recv hK hP159 (ci := 8) (q0 := 0) rfl rfl) zm_r_sideOf rfl hl.1 rfl (Nat.le_of_ble_eq_true rfl) dX9_pullIt_149 ⟨by decide, by decide⟩ (fun r_160 H161 lo161 hG161 hS161 => ?_)
                obtain ⟨z_162, hQ161⟩ := hG161
                have hP161 : va_P (dC, dI) vwCl (zW_r_pullIt p0 f_p0 p0_bLong c_p0_bLong bz_p0_bLong p0_bTight c_p0_bTight g159 p0_code c_p0_code b_p0_code p0_codeNumber c_p0_codeNumber b_p0_codeNumber p0_laws c_p0_laws b_p0_laws p0_pile c_p0_pile o_144 p0_rFrom c_p0_rFrom b_p0_rFrom p0_rTo c_p0_rTo b_p0_rTo) H161 := hQ161
                clear hQ161 hP159 hS159
                refine lv_dup2_11 hx hb dX9_pullIt_152 rfl rfl (q_ild hx hb hK hP161 1 0 rfl rfl (q_in (by omega) (by omega)) dX9_pullIt_153 (fun v_163 ev_163 => ?_))
                refine lv_iload hx hb dX9_pullIt_154 (lv_at hl 0 rfl) (lv_iadd hx hb dX9_pullIt_156 (lv_topi fun v_164 ev_164 => q_ist hx hb hK hP161 hDa za_r_pullIt hS161 1 0 rfl rfl (q_in (by omega) (by omega)) dX9_pullIt_157 (fun H165 lo165 g165 eg165 (hP165 : va_P (dC, dI) vwCl (zW_r_pullIt p0 f_p0 p0_bLong c_p0_bLong g165 p0_bTight c_p0_bTight g159 p0_code c_p0_code b_p0_code p0_codeNumber c_p0_codeNumber b_p0_codeNumber p0_laws c_p0_laws b_p0_laws p0_pile c_p0_pile o_144 p0_rFrom c_p0_rFrom b_p0_rFrom p0_rTo c_p0_rTo b_p0_rTo) H165) hS165 => ?_)))
                clear hP161 hS161
                refine lv_iload_n hx hb dX9_pullIt_158 rfl (lv_at hl 5 rfl) (lv_iload hx hb dX9_pullIt_159 (lv_at hl 0 rfl) (lv_iadd hx hb dX9_pullIt_161 (lv_topi fun v_166 ev_166 => lv_istore_n (lv' := [(3, .int v_166), (4, .int v_155), (10, .long w_150), (8, .long w_146), (6, .long w_141), (5, .int ii), (0, .ref p0), (1, .int a1), (2, .int a2)]) hx hb dX9_pullIt_162 rfl hl (by decide) rfl (fun ls hl => ?_))))
                obtain ⟨v_167, ev_167⟩ : ∃ y : Int32, y = ii + (-1) := ⟨_, rfl⟩
                have tv_167 := q_add ev_167 (by omega) (by omega)
                refine lv_iinc (v := v_167) (lv' := [(5, .int v_167), (3, .int v_166), (4, .int v_155), (10, .long w_150), (8, .long w_146), (6, .long w_141), (0, .ref p0), (1, .int a1), (2, .int a2)]) hx hb dX9_pullIt_163 hl (k := 5) rfl (by rw [ev_167]; rfl) (by decide) rfl (fun ls hl => ?_)
                refine lv_goto (tgt := 13) hx hb dX9_pullIt_166 (by decide) ?_
                exact ih13 (fu13 - 1) (by omega) v_166 v_155 v_167 g165 g159 o_144 _ _ _ (by omega) (by omega) hP165 hS165 (lv_sub hl [0, 2, 1, 6, 7, 8] rfl)
              · have tc_156 := q_eqN c_156
                refine lv_goto (tgt := 169) hx hb dX9_pullIt_127 (by decide) ?_
                have key169 : ∀ (fu169 : Nat) (fz_p0 : List Value) (bmv : Int32) (H : Heap) (locs : List Loc) (ls : Array Slot) (hfu169 : bmv.toInt ≤ (fu169 : Int)) (ho_fz_p0 : OKX9 fz_p0) (hf_fz_p0 : q_fr [52] f_p0 fz_p0) (fr_fz_p0_14 : q_rf fz_p0 14 p0_laws) (fr_fz_p0_36 : q_rf fz_p0 36 p0_rFrom) (fr_fz_p0_37 : q_rf fz_p0 37 p0_rTo) (fr_fz_p0_38 : q_rf fz_p0 38 p0_code) (fr_fz_p0_39 : q_rf fz_p0 39 p0_codeNumber) (fr_fz_p0_42 : q_rf fz_p0 42 p0_pile) (fh_fz_p0_43 : q_if fz_p0 43 bk) (fr_fz_p0_49 : q_rf fz_p0 49 p0_bTight) (fr_fz_p0_50 : q_rf fz_p0 50 p0_bLong) (fv_fz_p0_52 : q_if fz_p0 52 bmv) (tbmv : (0) ≤ bmv.toInt ∧ bmv.toInt ≤ 12), va_P (dC, dI) vwCl (zW_r_pullIt p0 fz_p0 p0_bLong c_p0_bLong bz_p0_bLong p0_bTight c_p0_bTight bz_p0_bTight p0_code c_p0_code b_p0_code p0_codeNumber c_p0_codeNumber b_p0_codeNumber p0_laws c_p0_laws b_p0_laws p0_pile c_p0_pile o_144 p0_rFrom c_p0_rFrom b_p0_rFrom p0_rTo c_p0_rTo b_p0_rTo) H → va_S A s.heap H locs → lv_has ls 12 [(4, .int v_155), (10, .long w_150), (8, .long w_146), (6, .long w_141), (5, .int ii), (3, .int su), (0, .ref p0), (1, .int a1), (2, .int a2)] → W p l e (headSpec zw_r_pullIt { frames := 4, cells := 0, slots := 0, locals := 91 }).room s m ([.ref p0, .int a1, .int a2] : List Value).toArray below meth c H locs 0 0 (MQ below (q_Qi (dC, dI) (zG_r_pullIt p0 f_p0 p0_bLong c_p0_bLong b_p0_bLong p0_bTight c_p0_bTight b_p0_bTight p0_code c_p0_code b_p0_code p0_codeNumber c_p0_codeNumber b_p0_codeNumber p0_laws c_p0_laws b_p0_laws p0_pile c_p0_pile b_p0_pile p0_rFrom c_p0_rFrom b_p0_rFrom p0_rTo c_p0_rTo b_p0_rTo a1 a2 bk) (zA_r_pullIt p0 p0_bLong p0_bTight p0_code p0_codeNumber p0_laws p0_pile p0_rFrom p0_rTo) A) ([.ref p0, .int a1, .int a2] : List Value).toArray s 0 0 A) (F0 m 169 ls []) := by
                  intro fu169
                  induction fu169 using Nat.strongRecOn with
                  | ind fu169 ih169 =>
                    intro fz_p0 bmv H168 lo168 ls hfu169 ho_fz_p0 hf_fz_p0 fr_fz_p0_14 fr_fz_p0_36 fr_fz_p0_37 fr_fz_p0_38 fr_fz_p0_39 fr_fz_p0_42 fh_fz_p0_43 fr_fz_p0_49 fr_fz_p0_50 fv_fz_p0_52 tbmv hP168 hS168 hl
                    refine lv_aload_n hx hb dX9_pullIt_169 rfl (lv_at hl 6 rfl) (qg_X9_52 hx hb hts i_X9 hown hK hP168 0 rfl k_0 fv_fz_p0_52 dX9_pullIt_170 ?_)
                    refine lv_if_le (tgt := 203) hx hb dX9_pullIt_173 (by decide) (fun c_169 => ?_) (fun c_169 => ?_)
                    · have tc_169 := q_le c_169
                      refine lv_iload_n hx hb dX9_pullIt_203 rfl (lv_at hl 5 rfl) ?_
                      exact q_iret hx hb hr hlocks hS168 dX9_pullIt_204 ⟨fz_p0, bz_p0_bLong, bz_p0_bTight, o_144, ho_fz_p0, hf_fz_p0, hP168, za_r_pullIt⟩
                    · have tc_169 := q_gtN c_169
                      refine lv_aload_n hx hb dX9_pullIt_176 rfl (lv_at hl 6 rfl) (qg_X9_49 hx hb hts i_X9 hown hK hP168 0 rfl k_1 fr_fz_p0_49 dX9_pullIt_177 (lv_aload_n hx hb dX9_pullIt_180 rfl (lv_at hl 6 rfl) (qg_X9_52 hx hb hts i_X9 hown hK hP168 0 rfl k_0 fv_fz_p0_52 dX9_pullIt_181 (lv_iconst (v := 1) hx hb dX9_pullIt_184 (by decide) (lv_isub hx hb dX9_pullIt_185 (lv_topi fun v_170 ev_170 => ?_))))))
                      have tv_170 := q_sub ev_170 (by omega) (by omega)
                      refine q_ild hx hb hK hP168 2 1 rfl rfl (q_in (by omega) (by omega)) dX9_pullIt_186 (fun v_171 ev_171 => ?_)
                      refine lv_if_ne (tgt := 203) hx hb dX9_pullIt_187 (by decide) (fun c_172 => ?_) (fun c_172 => ?_)
                      · have tc_172 := q_ne c_172
                        refine lv_iload_n hx hb dX9_pullIt_203 rfl (lv_at hl 5 rfl) ?_
                        exact q_iret hx hb hr hlocks hS168 dX9_pullIt_204 ⟨fz_p0, bz_p0_bLong, bz_p0_bTight, o_144, ho_fz_p0, hf_fz_p0, hP168, za_r_pullIt⟩
                      · have tc_172 := q_eqN c_172
                        refine lv_aload_n hx hb dX9_pullIt_190 rfl (lv_at hl 6 rfl) (lv_dup hx hb dX9_pullIt_191 rfl (qg_X9_52 hx hb hts i_X9 hown hK hP168 0 rfl k_0 fv_fz_p0_52 dX9_pullIt_192 (lv_iconst (v := 1) hx hb dX9_pullIt_195 (by decide) (lv_isub hx hb dX9_pullIt_196 (lv_topi fun v_173 ev_173 => ?_)))))
                        have tv_173 := q_sub ev_173 (by omega) (by omega)
                        refine qp_X9_52 hx hb hts i_X9 hown hK hP168 hDa za_r_pullIt hS168 0 rfl k_0 (OKX9_l ho_fz_p0) dX9_pullIt_197 (fun H174 lo174 fs174 efs174 (hP174 : va_P (dC, dI) vwCl (zW_r_pullIt p0 fs174 p0_bLong c_p0_bLong bz_p0_bLong p0_bTight c_p0_bTight bz_p0_bTight p0_code c_p0_code b_p0_code p0_codeNumber c_p0_codeNumber b_p0_codeNumber p0_laws c_p0_laws b_p0_laws p0_pile c_p0_pile o_144 p0_rFrom c_p0_rFrom b_p0_rFrom p0_rTo c_p0_rTo b_p0_rTo) H174) hS174 => ?_)
                        have ho174 := OKX9_p52 ho_fz_p0 efs174 ⟨by omega, by omega⟩
                        clear hP168 hS168
                        refine lv_goto (tgt := 169) hx hb dX9_pullIt_200 (by decide) ?_
                        exact ih169 (fu169 - 1) (by omega) fs174 v_173 _ _ _ (by omega) ho174 (hf_fz_p0.st efs174 (by decide)) (q_sn efs174 (by decide) fr_fz_p0_14) (q_sn efs174 (by decide) fr_fz_p0_36) (q_sn efs174 (by decide) fr_fz_p0_37) (q_sn efs174 (by decide) fr_fz_p0_38) (q_sn efs174 (by decide) fr_fz_p0_39) (q_sn efs174 (by decide) fr_fz_p0_42) (q_sn efs174 (by decide) fh_fz_p0_43) (q_sn efs174 (by decide) fr_fz_p0_49) (q_sn efs174 (by decide) fr_fz_p0_50) (q_sa efs174 (OKX9_l ho_fz_p0) (by decide)) (by omega) hP174 hS174 (lv_sub hl [0, 1, 2, 3, 4, 5, 6, 7, 8] rfl)
                exact key169 12 f_p0 v_1 _ _ _ (by omega) ho_p0 q_fr.rf fr_p0_14 fr_p0_36 fr_p0_37 fr_p0_38 fr_p0_39 fr_p0_42 pf_bk fr_p0_49 fr_p0_50 fv_1 (by omega) hP143 hS143 (lv_sub hl [0, 1, 2, 3, 4, 5, 6, 7, 8] rfl)
            · have tc_154 := q_gtN c_154
              refine lv_aload_n hx hb dX9_pullIt_107 rfl (lv_at hl 6 rfl) (qg_X9_49 hx hb hts i_X9 hown hK hP143 0 rfl k_1 fr_p0_49 dX9_pullIt_108 (lv_iload hx hb dX9_pullIt_111 (lv_at hl 3 rfl) (q_ild hx hb hK hP143 2 1 rfl rfl (q_in (by omega) (by omega)) dX9_pullIt_113 (fun v_175 ev_175 => ?_))))
              refine lv_goto (tgt := 120) hx hb dX9_pullIt_114 (by decide) (lv_istore (lv' := [(4, .int v_175), (10, .long w_150), (8, .long w_146), (6, .long w_141), (5, .int ii), (3, .int su), (0, .ref p0), (1, .int a1), (2, .int a2)]) hx hb dX9_pullIt_120 hl (by decide) rfl (fun ls hl => ?_))
              refine lv_iload hx hb dX9_pullIt_122 (lv_at hl 0 rfl) ?_
              refine lv_if_ne (tgt := 130) hx hb dX9_pullIt_124 (by decide) (fun c_176 => ?_) (fun c_176 => ?_)
              · have tc_176 := q_ne c_176
                refine lv_aload_n hx hb dX9_pullIt_130 rfl (lv_at hl 6 rfl) (qg_X9_49 hx hb hts i_X9 hown hK hP143 0 rfl k_1 fr_p0_49 dX9_pullIt_131 (lv_iload hx hb dX9_pullIt_134 (lv_at hl 4 rfl) (lv_dup2_11 hx hb dX9_pullIt_136 rfl rfl (q_ild hx hb hK hP143 2 1 rfl rfl (q_in (by omega) (by omega)) dX9_pullIt_137 (fun v_177 ev_177 => ?_)))))
                refine lv_iload hx hb dX9_pullIt_138 (lv_at hl 0 rfl) (lv_isub hx hb dX9_pullIt_140 (lv_topi fun v_178 ev_178 => q_ist hx hb hK hP143 hDa za_r_pullIt hS143 2 1 rfl rfl (q_in (by omega) (by omega)) dX9_pullIt_141 (fun H179 lo179 g179 eg179 (hP179 : va_P (dC, dI) vwCl (zW_r_pullIt p0 f_p0 p0_bLong c_p0_bLong bz_p0_bLong p0_bTight c_p0_bTight g179 p0_code c_p0_code b_p0_code p0_codeNumber c_p0_codeNumber b_p0_codeNumber p0_laws c_p0_laws b_p0_laws p0_pile c_p0_pile o_144 p0_rFrom c_p0_rFrom b_p0_rFrom p0_rTo c_p0_rTo b_p0_rTo) H179) hS179 => ?_)))
                clear hP143 hS143
                refine lv_aload_n hx hb dX9_pullIt_142 rfl (lv_at hl 6 rfl) (qg_X9_50 hx hb hts i_X9 hown hK hP179 0 rfl k_11 fr_p0_50 dX9_pullIt_143 (lv_aload_n hx hb dX9_pullIt_146 rfl (lv_at hl 6 rfl) (lv_iload hx hb dX9_pullIt_147 (lv_at hl 4 rfl) ?_)))
                refine q_cVi (As := [.int ii]) (rest := [.ref p0_bLong]) q_w0 trivial hK hP179 hDa za_r_pullIt hS179 hA [0] [] (by decide +kernel) ⟨hx, hb, hml, hown, hts⟩ (r_sideOf l dC dI H179.size p0 f_p0 ii ho_p0) rfl rfl (cwV 1 hts (p1_gV m_12 m_13 m_14 m_5 g_r_sideOf gz_r_sideOf) rfl rfl rfl (by decide +kernel) ⟨by decide, by decide⟩) (va_recv hK hP179 (ci := 8) (q0 := 0) rfl rfl) zm_r_sideOf rfl hl.1 rfl (Nat.le_of_ble_eq_true rfl) dX9_pullIt_149 ⟨by decide, by decide⟩ (fun r_180 H181 lo181 hG181 hS181 => ?_)
                obtain ⟨z_182, hQ181⟩ := hG181
                have hP181 : va_P (dC, dI) vwCl (zW_r_pullIt p0 f_p0 p0_bLong c_p0_bLong bz_p0_bLong p0_bTight c_p0_bTight g179 p0_code c_p0_code b_p0_code p0_codeNumber c_p0_codeNumber b_p0_codeNumber p0_laws c_p0_laws b_p0_laws p0_pile c_p0_pile o_144 p0_rFrom c_p0_rFrom b_p0_rFrom p0_rTo c_p0_rTo b_p0_rTo) H181 := hQ181
                clear hQ181 hP179 hS179
                refine lv_dup2_11 hx hb dX9_pullIt_152 rfl rfl (q_ild hx hb hK hP181 1 0 rfl rfl (q_in (by omega) (by omega)) dX9_pullIt_153 (fun v_183 ev_183 => ?_))
                refine lv_iload hx hb dX9_pullIt_154 (lv_at hl 0 rfl) (lv_iadd hx hb dX9_pullIt_156 (lv_topi fun v_184 ev_184 => q_ist hx hb hK hP181 hDa za_r_pullIt hS181 1 0 rfl rfl (q_in (by omega) (by omega)) dX9_pullIt_157 (fun H185 lo185 g185 eg185 (hP185 : va_P (dC, dI) vwCl (zW_r_pullIt p0 f_p0 p0_bLong c_p0_bLong g185 p0_bTight c_p0_bTight g179 p0_code c_p0_code b_p0_code p0_codeNumber c_p0_codeNumber b_p0_codeNumber p0_laws c_p0_laws b_p0_laws p0_pile c_p0_pile o_144 p0_rFrom c_p0_rFrom b_p0_rFrom p0_rTo c_p0_rTo b_p0_rTo) H185) hS185 => ?_)))
                clear hP181 hS181
                refine lv_iload_n hx hb dX9_pullIt_158 rfl (lv_at hl 5 rfl) (lv_iload hx hb dX9_pullIt_159 (lv_at hl 0 rfl) (lv_iadd hx hb dX9_pullIt_161 (lv_topi fun v_186 ev_186 => lv_istore_n (lv' := [(3, .int v_186), (4, .int v_175), (10, .long w_150), (8, .long w_146), (6, .long w_141), (5, .int ii), (0, .ref p0), (1, .int a1), (2, .int a2)]) hx hb dX9_pullIt_162 rfl hl (by decide) rfl (fun ls hl => ?_))))
                obtain ⟨v_187, ev_187⟩ : ∃ y : Int32, y = ii + (-1) := ⟨_, rfl⟩
                have tv_187 := q_add ev_187 (by omega) (by omega)
                refine lv_iinc (v := v_187) (lv' := [(5, .int v_187), (3, .int v_186), (4, .int v_175), (10, .long w_150), (8, .long w_146), (6, .long w_141), (0, .ref p0), (1, .int a1), (2, .int a2)]) hx hb dX9_pullIt_163 hl (k := 5) rfl (by rw [ev_187]; rfl) (by decide) rfl (fun ls hl => ?_)
                refine lv_goto (tgt := 13) hx hb dX9_pullIt_166 (by decide) ?_
                exact ih13 (fu13 - 1) (by omega) v_186 v_175 v_187 g185 g179 o_144 _ _ _ (by omega) (by omega) hP185 hS185 (lv_sub hl [0, 2, 1, 6, 7, 8] rfl)
              · have tc_176 := q_eqN c_176
                refine lv_goto (tgt := 169) hx hb dX9_pullIt_127 (by decide) ?_
                have key169 : ∀ (fu169 : Nat) (fz_p0 : List Value) (bmv : Int32) (H : Heap) (locs : List Loc) (ls : Array Slot) (hfu169 : bmv.toInt ≤ (fu169 : Int)) (ho_fz_p0 : OKX9 fz_p0) (hf_fz_p0 : q_fr [52] f_p0 fz_p0) (fr_fz_p0_14 : q_rf fz_p0 14 p0_laws) (fr_fz_p0_36 : q_rf fz_p0 36 p0_rFrom) (fr_fz_p0_37 : q_rf fz_p0 37 p0_rTo) (fr_fz_p0_38 : q_rf fz_p0 38 p0_code) (fr_fz_p0_39 : q_rf fz_p0 39 p0_codeNumber) (fr_fz_p0_42 : q_rf fz_p0 42 p0_pile) (fh_fz_p0_43 : q_if fz_p0 43 bk) (fr_fz_p0_49 : q_rf fz_p0 49 p0_bTight) (fr_fz_p0_50 : q_rf fz_p0 50 p0_bLong) (fv_fz_p0_52 : q_if fz_p0 52 bmv) (tbmv : (0) ≤ bmv.toInt ∧ bmv.toInt ≤ 12), va_P (dC, dI) vwCl (zW_r_pullIt p0 fz_p0 p0_bLong c_p0_bLong bz_p0_bLong p0_bTight c_p0_bTight bz_p0_bTight p0_code c_p0_code b_p0_code p0_codeNumber c_p0_codeNumber b_p0_codeNumber p0_laws c_p0_laws b_p0_laws p0_pile c_p0_pile o_144 p0_rFrom c_p0_rFrom b_p0_rFrom p0_rTo c_p0_rTo b_p0_rTo) H → va_S A s.heap H locs → lv_has ls 12 [(4, .int v_175), (10, .long w_150), (8, .long w_146), (6, .long w_141), (5, .int ii), (3, .int su), (0, .ref p0), (1, .int a1), (2, .int a2)] → W p l e (headSpec zw_r_pullIt { frames := 4, cells := 0, slots := 0, locals := 91 }).room s m ([.ref p0, .int a1, .int a2] : List Value).toArray below meth c H locs 0 0 (MQ below (q_Qi (dC, dI) (zG_r_pullIt p0 f_p0 p0_bLong c_p0_bLong b_p0_bLong p0_bTight c_p0_bTight b_p0_bTight p0_code c_p0_code b_p0_code p0_codeNumber c_p0_codeNumber b_p0_codeNumber p0_laws c_p0_laws b_p0_laws p0_pile c_p0_pile b_p0_pile p0_rFrom c_p0_rFrom b_p0_rFrom p0_rTo c_p0_rTo b_p0_rTo a1 a2 bk) (zA_r_pullIt p0 p0_bLong p0_bTight p0_code p0_codeNumber p0_laws p0_pile p0_rFrom p0_rTo) A) ([.ref p0, .int a1, .int a2] : List Value).toArray s 0 0 A) (F0 m 169 ls []) := by
                  intro fu169
                  induction fu169 using Nat.strongRecOn with
                  | ind fu169 ih169 =>
                    intro fz_p0 bmv H188 lo188 ls hfu169 ho_fz_p0 hf_fz_p0 fr_fz_p0_14 fr_fz_p0_36 fr_fz_p0_37 fr_fz_p0_38 fr_fz_p0_39 fr_fz_p0_42 fh_fz_p0_43 fr_fz_p0_49 fr_fz_p0_50 fv_fz_p0_52 tbmv hP188 hS188 hl
                    refine lv_aload_n hx hb dX9_pullIt_169 rfl (lv_at hl 6 rfl) (qg_X9_52 hx hb hts i_X9 hown hK hP188 0 rfl k_0 fv_fz_p0_52 dX9_pullIt_170 ?_)
                    refine lv_if_le (tgt := 203) hx hb dX9_pullIt_173 (by decide) (fun c_189 => ?_) (fun c_189 => ?_)
                    · have tc_189 := q_le c_189
                      refine lv_iload_n hx hb dX9_pullIt_203 rfl (lv_at hl 5 rfl) ?_
                      exact q_iret hx hb hr hlocks hS188 dX9_pullIt_204 ⟨fz_p0, bz_p0_bLong, bz_p0_bTight, o_144, ho_fz_p0, hf_fz_p0, hP188, za_r_pullIt⟩
                    · have tc_189 := q_gtN c_189
                      refine lv_aload_n hx hb dX9_pullIt_176 rfl (lv_at hl 6 rfl) (qg_X9_49 hx hb hts i_X9 hown hK hP188 0 rfl k_1 fr_fz_p0_49 dX9_pullIt_177 (lv_aload_n hx hb dX9_pullIt_180 rfl (lv_at hl 6 rfl) (qg_X9_52 hx hb hts i_X9 hown hK hP188 0 rfl k_0 fv_fz_p0_52 dX9_pullIt_181 (lv_iconst (v := 1) hx hb dX9_pullIt_184 (by decide) (lv_isub hx hb dX9_pullIt_185 (lv_topi fun v_190 ev_190 => ?_))))))
                      have tv_190 := q_sub ev_190 (by omega) (by omega)
                      refine q_ild hx hb hK hP188 2 1 rfl rfl (q_in (by omega) (by omega)) dX9_pullIt_186 (fun v_191 ev_191 => ?_)
                      refine lv_if_ne (tgt := 203) hx hb dX9_pullIt_187 (by decide) (fun c_192 => ?_) (fun c_192 => ?_)
                      · have tc_192 := q_ne c_192
                        refine lv_iload_n hx hb dX9_pullIt_203 rfl (lv_at hl 5 rfl) ?_
                        exact q_iret hx hb hr hlocks hS188 dX9_pullIt_204 ⟨fz_p0, bz_p0_bLong, bz_p0_bTight, o_144, ho_fz_p0, hf_fz_p0, hP188, za_r_pullIt⟩
                      · have tc_192 := q_eqN c_192
                        refine lv_aload_n hx hb dX9_pullIt_190 rfl (lv_at hl 6 rfl) (lv_dup hx hb dX9_pullIt_191 rfl (qg_X9_52 hx hb hts i_X9 hown hK hP188 0 rfl k_0 fv_fz_p0_52 dX9_pullIt_192 (lv_iconst (v := 1) hx hb dX9_pullIt_195 (by decide) (lv_isub hx hb dX9_pullIt_196 (lv_topi fun v_193 ev_193 => ?_)))))
                        have tv_193 := q_sub ev_193 (by omega) (by omega)
                        refine qp_X9_52 hx hb hts i_X9 hown hK hP188 hDa za_r_pullIt hS188 0 rfl k_0 (OKX9_l ho_fz_p0) dX9_pullIt_197 (fun H194 lo194 fs194 efs194 (hP194 : va_P (dC, dI) vwCl (zW_r_pullIt p0 fs194 p0_bLong c_p0_bLong bz_p0_bLong p0_bTight c_p0_bTight bz_p0_bTight p0_code c_p0_code b_p0_code p0_codeNumber c_p0_codeNumber b_p0_codeNumber p0_laws c_p0_laws b_p0_laws p0_pile c_p0_pile o_144 p0_rFrom c_p0_rFrom b_p0_rFrom p0_rTo c_p0_rTo b_p0_rTo) H194) hS194 => ?_)
                        have ho194 := OKX9_p52 ho_fz_p0 efs194 ⟨by omega, by omega⟩
                        clear hP188 hS188
                        refine lv_goto (tgt := 169) hx hb dX9_pullIt_200 (by decide) ?_
                        exact ih169 (fu169 - 1) (by omega) fs194 v_193 _ _ _ (by omega) ho194 (hf_fz_p0.st efs194 (by decide)) (q_sn efs194 (by decide) fr_fz_p0_14) (q_sn efs194 (by decide) fr_fz_p0_36) (q_sn efs194 (by decide) fr_fz_p0_37) (q_sn efs194 (by decide) fr_fz_p0_38) (q_sn efs194 (by decide) fr_fz_p0_39) (q_sn efs194 (by decide) fr_fz_p0_42) (q_sn efs194 (by decide) fh_fz_p0_43) (q_sn efs194 (by decide) fr_fz_p0_49) (q_sn efs194 (by decide) fr_fz_p0_50) (q_sa efs194 (OKX9_l ho_fz_p0) (by decide)) (by omega) hP194 hS194 (lv_sub hl [0, 1, 2, 3, 4, 5, 6, 7, 8] rfl)
                exact key169 12 f_p0 v_1 _ _ _ (by omega) ho_p0 q_fr.rf fr_p0_14 fr_p0_36 fr_p0_37 fr_p0_38 fr_p0_39 fr_p0_42 pf_bk fr_p0_49 fr_p0_50 fv_1 (by omega) hP143 hS143 (lv_sub hl [0, 1, 2, 3, 4, 5, 6, 7, 8] rfl)
          · have tc_148 := q_leN c_148
            refine lv_goto (tgt := 169) hx hb dX9_pullIt_78 (by decide) ?_
            have key169 : ∀ (fu169 : Nat) (fz_p0 : List Value) (bmv : Int32) (H : Heap) (locs : List Loc) (ls : Array Slot) (hfu169 : bmv.toInt ≤ (fu169 : Int)) (ho_fz_p0 : OKX9 fz_p0) (hf_fz_p0 : q_fr [52] f_p0 fz_p0) (fr_fz_p0_14 : q_rf fz_p0 14 p0_laws) (fr_fz_p0_36 : q_rf fz_p0 36 p0_rFrom) (fr_fz_p0_37 : q_rf fz_p0 37 p0_rTo) (fr_fz_p0_38 : q_rf fz_p0 38 p0_code) (fr_fz_p0_39 : q_rf fz_p0 39 p0_codeNumber) (fr_fz_p0_42 : q_rf fz_p0 42 p0_pile) (fh_fz_p0_43 : q_if fz_p0 43 bk) (fr_fz_p0_49 : q_rf fz_p0 49 p0_bTight) (fr_fz_p0_50 : q_rf fz_p0 50 p0_bLong) (fv_fz_p0_52 : q_if fz_p0 52 bmv) (tbmv : (0) ≤ bmv.toInt ∧ bmv.toInt ≤ 12), va_P (dC, dI) vwCl (zW_r_pullIt p0 fz_p0 p0_bLong c_p0_bLong bz_p0_bLong p0_bTight c_p0_bTight bz_p0_bTight p0_code c_p0_code b_p0_code p0_codeNumber c_p0_codeNumber b_p0_codeNumber p0_laws c_p0_laws b_p0_laws p0_pile c_p0_pile o_144 p0_rFrom c_p0_rFrom b_p0_rFrom p0_rTo c_p0_rTo b_p0_rTo) H → va_S A s.heap H locs → lv_has ls 12 [(8, .long w_146), (6, .long w_141), (5, .int ii), (4, .int ou), (3, .int su), (0, .ref p0), (1, .int a1), (2, .int a2)] → W p l e (headSpec zw_r_pullIt { frames := 4, cells := 0, slots := 0, locals := 91 }).room s m ([.ref p0, .int a1, .int a2] : List Value).toArray below meth c H locs 0 0 (MQ below (q_Qi (dC, dI) (zG_r_pullIt p0 f_p0 p0_bLong c_p0_bLong b_p0_bLong p0_bTight c_p0_bTight b_p0_bTight p0_code c_p0_code b_p0_code p0_codeNumber c_p0_codeNumber b_p0_codeNumber p0_laws c_p0_laws b_p0_laws p0_pile c_p0_pile b_p0_pile p0_rFrom c_p0_rFrom b_p0_rFrom p0_rTo c_p0_rTo b_p0_rTo a1 a2 bk) (zA_r_pullIt p0 p0_bLong p0_bTight p0_code p0_codeNumber p0_laws p0_pile p0_rFrom p0_rTo) A) ([.ref p0, .int a1, .int a2] : List Value).toArray s 0 0 A) (F0 m 169 ls []) := by
              intro fu169
              induction fu169 using Nat.strongRecOn with
              | ind fu169 ih169 =>
                intro fz_p0 bmv H195 lo195 ls hfu169 ho_fz_p0 hf_fz_p0 fr_fz_p0_14 fr_fz_p0_36 fr_fz_p0_37 fr_fz_p0_38 fr_fz_p0_39 fr_fz_p0_42 fh_fz_p0_43 fr_fz_p0_49 fr_fz_p0_50 fv_fz_p0_52 tbmv hP195 hS195 hl
                refine lv_aload_n hx hb dX9_pullIt_169 rfl (lv_at hl 5 rfl) (qg_X9_52 hx hb hts i_X9 hown hK hP195 0 rfl k_0 fv_fz_p0_52 dX9_pullIt_170 ?_)
                refine lv_if_le (tgt := 203) hx hb dX9_pullIt_173 (by decide) (fun c_196 => ?_) (fun c_196 => ?_)
                · have tc_196 := q_le c_196
                  refine lv_iload_n hx hb dX9_pullIt_203 rfl (lv_at hl 4 rfl) ?_
                  exact q_iret hx hb hr hlocks hS195 dX9_pullIt_204 ⟨fz_p0, bz_p0_bLong, bz_p0_bTight, o_144, ho_fz_p0, hf_fz_p0, hP195, za_r_pullIt⟩
                · have tc_196 := q_gtN c_196
                  refine lv_aload_n hx hb dX9_pullIt_176 rfl (lv_at hl 5 rfl) (qg_X9_49 hx hb hts i_X9 hown hK hP195 0 rfl k_1 fr_fz_p0_49 dX9_pullIt_177 (lv_aload_n hx hb dX9_pullIt_180 rfl (lv_at hl 5 rfl) (qg_X9_52 hx hb hts i_X9 hown hK hP195 0 rfl k_0 fv_fz_p0_52 dX9_pullIt_181 (lv_iconst (v := 1) hx hb dX9_pullIt_184 (by decide) (lv_isub hx hb dX9_pullIt_185 (lv_topi fun v_197 ev_197 => ?_))))))
                  have tv_197 := q_sub ev_197 (by omega) (by omega)
                  refine q_ild hx hb hK hP195 2 1 rfl rfl (q_in (by omega) (by omega)) dX9_pullIt_186 (fun v_198 ev_198 => ?_)
                  refine lv_if_ne (tgt := 203) hx hb dX9_pullIt_187 (by decide) (fun c_199 => ?_) (fun c_199 => ?_)
                  · have tc_199 := q_ne c_199
                    refine lv_iload_n hx hb dX9_pullIt_203 rfl (lv_at hl 4 rfl) ?_
                    exact q_iret hx hb hr hlocks hS195 dX9_pullIt_204 ⟨fz_p0, bz_p0_bLong, bz_p0_bTight, o_144, ho_fz_p0, hf_fz_p0, hP195, za_r_pullIt⟩
                  · have tc_199 := q_eqN c_199
                    refine lv_aload_n hx hb dX9_pullIt_190 rfl (lv_at hl 5 rfl) (lv_dup hx hb dX9_pullIt_191 rfl (qg_X9_52 hx hb hts i_X9 hown hK hP195 0 rfl k_0 fv_fz_p0_52 dX9_pullIt_192 (lv_iconst (v := 1) hx hb dX9_pullIt_195 (by decide) (lv_isub hx hb dX9_pullIt_196 (lv_topi fun v_200 ev_200 => ?_)))))
                    have tv_200 := q_sub ev_200 (by omega) (by omega)
                    refine qp_X9_52 hx hb hts i_X9 hown hK hP195 hDa za_r_pullIt hS195 0 rfl k_0 (OKX9_l ho_fz_p0) dX9_pullIt_197 (fun H201 lo201 fs201 efs201 (hP201 : va_P (dC, dI) vwCl (zW_r_pullIt p0 fs201 p0_bLong c_p0_bLong bz_p0_bLong p0_bTight c_p0_bTight bz_p0_bTight p0_code c_p0_code b_p0_code p0_codeNumber c_p0_codeNumber b_p0_codeNumber p0_laws c_p0_laws b_p0_laws p0_pile c_p0_pile o_144 p0_rFrom c_p0_rFrom b_p0_rFrom p0_rTo c_p0_rTo b_p0_rTo) H201) hS201 => ?_)
                    have ho201 := OKX9_p52 ho_fz_p0 efs201 ⟨by omega, by omega⟩
                    clear hP195 hS195
                    refine lv_goto (tgt := 169) hx hb dX9_pullIt_200 (by decide) ?_
                    exact ih169 (fu169 - 1) (by omega) fs201 v_200 _ _ _ (by omega) ho201 (hf_fz_p0.st efs201 (by decide)) (q_sn efs201 (by decide) fr_fz_p0_14) (q_sn efs201 (by decide) fr_fz_p0_36) (q_sn efs201 (by decide) fr_fz_p0_37) (q_sn efs201 (by decide) fr_fz_p0_38) (q_sn efs201 (by decide) fr_fz_p0_39) (q_sn efs201 (by decide) fr_fz_p0_42) (q_sn efs201 (by decide) fh_fz_p0_43) (q_sn efs201 (by decide) fr_fz_p0_49) (q_sn efs201 (by decide) fr_fz_p0_50) (q_sa efs201 (OKX9_l ho_fz_p0) (by decide)) (by omega) hP201 hS201 (lv_sub hl [0, 1, 2, 3, 4, 5, 6, 7] rfl)
            exact key169 12 f_p0 v_1 _ _ _ (by omega) ho_p0 q_fr.rf fr_p0_14 fr_p0_36 fr_p0_37 fr_p0_38 fr_p0_39 fr_p0_42 pf_bk fr_p0_49 fr_p0_50 fv_1 (by omega) hP143 hS143 (lv_sub hl [0, 1, 2, 3, 4, 5, 6, 7] rfl)
  exact key13 12 0 0 v_2 b_p0_bLong b_p0_bTight b_p0_pile _ _ _ (by omega) (by omega) hP hS (lv_sub hl [0, 1, 2, 3, 4, 5] rfl)
def zo_r_stepIt : List Cond := [.code yX9_stepIt cX9_stepIt 5 (some .int), .fieldLink RX9 291 "BowWalkModel" "bank" "I", .fieldLink RX9 83 "BowWalkModel" "steps" "[I", .fieldLink RX9 86 "BowWalkModel" "strikes" "[I", .fieldLink RX9 421 "BowWalkModel" "lessStrike" "I", .fieldLink RX9 376 "BowWalkModel" "nowStrike" "I", .fieldLink RX9 89 "BowWalkModel" "swings" "[I", .fieldLink RX9 424 "BowWalkModel" "lessSwing" "I", .fieldLink RX9 379 "BowWalkModel" "nowSwing" "I", .methodLink RX9 427 yX9_pullIt, .instanceMethod yX9_pullIt, .selects RX9 yX9_pullIt yX9_pullIt, .initialized RX9]
def zw_r_stepIt : List Cond := zo_r_stepIt ++ (zw_r_pullIt ++ (wsX90 ++ []))
theorem gz_r_stepIt : zw_r_stepIt.all goodWord = true := p1_ga (by decide +kernel) (p1_ga gz_r_pullIt (p1_ga gk_X9 p1_g0))
theorem iz_r_stepIt : ∀ w ∈ zw_r_stepIt, w ∈ lw_tbl := p1_ia (p1_all [1545, 1080, 1068, 1069, 1096, 1093, 1070, 1095, 1094, 1472, 1474, 78, 116] (by decide +kernel)) (p1_ia iz_r_pullIt (p1_ia ik_X9 p1_i0))
def zW_r_stepIt (p0 : Nat) (f_p0 : List Value) (p0_bLong : Nat) (c_p0_bLong : ClassId) (b_p0_bLong : Nat → Int32) (p0_bTight : Nat) (c_p0_bTight : ClassId) (b_p0_bTight : Nat → Int32) (p0_code : Nat) (c_p0_code : ClassId) (b_p0_code : Nat → Int32) (p0_codeNumber : Nat) (c_p0_codeNumber : ClassId) (b_p0_codeNumber : Nat → Int32) (p0_laws : Nat) (c_p0_laws : ClassId) (b_p0_laws : Nat → Int32) (p0_pile : Nat) (c_p0_pile : ClassId) (b_p0_pile : Nat → Int32) (p0_rFrom : Nat) (c_p0_rFrom : ClassId) (b_p0_rFrom : Nat → Int32) (p0_rTo : Nat) (c_p0_rTo : ClassId) (b_p0_rTo : Nat → Int32) (p0_steps : Nat) (c_p0_steps : ClassId) (b_p0_steps : Nat → Int32) (p0_strikes : Nat) (c_p0_strikes : ClassId) (b_p0_strikes : Nat → Int32) (p0_swings : Nat) (c_p0_swings : ClassId) (b_p0_swings : Nat → Int32) (p0_walks : Nat) (c_p0_walks : ClassId) (b_p0_walks : Nat → Int32) : va_W := [(p0, .inr (8, f_p0)), (p0_bLong, .inl (c_p0_bLong, 2, .inl b_p0_bLong)), (p0_bTight, .inl (c_p0_bTight, 12, .inl b_p0_bTight)), (p0_code, .inl (c_p0_code, 1800, .inl b_p0_code)), (p0_codeNumber, .inl (c_p0_codeNumber, 1800, .inl b_p0_codeNumber)), (p0_laws, .inl (c_p0_laws, 2, .inl b_p0_laws)), (p0_pile, .inl (c_p0_pile, 90, .inl b_p0_pile)), (p0_rFrom, .inl (c_p0_rFrom, 12, .inl b_p0_rFrom)), (p0_rTo, .inl (c_p0_rTo, 12, .inl b_p0_rTo)), (p0_steps, .inl (c_p0_steps, 8, .inl b_p0_steps)), (p0_strikes, .inl (c_p0_strikes, 64, .inl b_p0_strikes)), (p0_swings, .inl (c_p0_swings, 64, .inl b_p0_swings)), (p0_walks, .inl (c_p0_walks, 2, .inl b_p0_walks))]
def zT_r_stepIt (c_p0_bLong : ClassId) (c_p0_bTight : ClassId) (c_p0_code : ClassId) (c_p0_codeNumber : ClassId) (c_p0_laws : ClassId) (c_p0_pile : ClassId) (c_p0_rFrom : ClassId) (c_p0_rTo : ClassId) (c_p0_steps : ClassId) (c_p0_strikes : ClassId) (c_p0_swings : ClassId) (c_p0_walks : ClassId) : List (ClassId × FieldType) := [(c_p0_bLong, .int), (c_p0_bTight, .int), (c_p0_code, .int), (c_p0_codeNumber, .int), (c_p0_laws, .int), (c_p0_pile, .int), (c_p0_rFrom, .int), (c_p0_rTo, .int), (c_p0_steps, .int), (c_p0_strikes, .int), (c_p0_swings, .int), (c_p0_walks, .int)]
def zA_r_stepIt (p0 : Nat) (p0_bLong : Nat) (p0_bTight : Nat) (p0_code : Nat) (p0_codeNumber : Nat) (p0_laws : Nat) (p0_pile : Nat) (p0_rFrom : Nat) (p0_rTo : Nat) (p0_steps : Nat) (p0_strikes : Nat) (p0_swings : Nat) (p0_walks : Nat) : List Nat := [p0, p0_bLong, p0_bTight, p0_code, p0_codeNumber, p0_laws, p0_pile, p0_rFrom, p0_rTo, p0_steps, p0_strikes, p0_swings, p0_walks]
theorem za_r_stepIt {p0 : Nat} {f_p0 : List Value} {p0_bLong : Nat} {c_p0_bLong : ClassId} {b_p0_bLong : Nat → Int32} {p0_bTight : Nat} {c_p0_bTight : ClassId} {b_p0_bTight : Nat → Int32} {p0_code : Nat} {c_p0_code : ClassId} {b_p0_code : Nat → Int32} {p0_codeNumber : Nat} {c_p0_codeNumber : ClassId} {b_p0_codeNumber : Nat → Int32} {p0_laws : Nat} {c_p0_laws : ClassId} {b_p0_laws : Nat → Int32} {p0_pile : Nat} {c_p0_pile : ClassId} {b_p0_pile : Nat → Int32} {p0_rFrom : Nat} {c_p0_rFrom : ClassId} {b_p0_rFrom : Nat → Int32} {p0_rTo : Nat} {c_p0_rTo : ClassId} {b_p0_rTo : Nat → Int32} {p0_steps : Nat} {c_p0_steps : ClassId} {b_p0_steps : Nat → Int32} {p0_strikes : Nat} {c_p0_strikes : ClassId} {b_p0_strikes : Nat → Int32} {p0_swings : Nat} {c_p0_swings : ClassId} {b_p0_swings : Nat → Int32} {p0_walks : Nat} {c_p0_walks : ClassId} {b_p0_walks : Nat → Int32} : (zW_r_stepIt p0 f_p0 p0_bLong c_p0_bLong b_p0_bLong p0_bTight c_p0_bTight b_p0_bTight p0_code c_p0_code b_p0_code p0_codeNumber c_p0_codeNumber b_p0_codeNumber p0_laws c_p0_laws b_p0_laws p0_pile c_p0_pile b_p0_pile p0_rFrom c_p0_rFrom b_p0_rFrom p0_rTo c_p0_rTo b_p0_rTo p0_steps c_p0_steps b_p0_steps p0_strikes c_p0_strikes b_p0_strikes p0_swings c_p0_swings b_p0_swings p0_walks c_p0_walks b_p0_walks).map Prod.fst = (zA_r_stepIt p0 p0_bLong p0_bTight p0_code p0_codeNumber p0_laws p0_pile p0_rFrom p0_rTo p0_steps p0_strikes p0_swings p0_walks) := rfl
def zG_r_stepIt (p0 : Nat) (f_p0 : List Value) (p0_bLong : Nat) (c_p0_bLong : ClassId) (b_p0_bLong : Nat → Int32) (p0_bTight : Nat) (c_p0_bTight : ClassId) (b_p0_bTight : Nat → Int32) (p0_code : Nat) (c_p0_code : ClassId) (b_p0_code : Nat → Int32) (p0_codeNumber : Nat) (c_p0_codeNumber : ClassId) (b_p0_codeNumber : Nat → Int32) (p0_laws : Nat) (c_p0_laws : ClassId) (b_p0_laws : Nat → Int32) (p0_pile : Nat) (c_p0_pile : ClassId) (b_p0_pile : Nat → Int32) (p0_rFrom : Nat) (c_p0_rFrom : ClassId) (b_p0_rFrom : Nat → Int32) (p0_rTo : Nat) (c_p0_rTo : ClassId) (b_p0_rTo : Nat → Int32) (p0_steps : Nat) (c_p0_steps : ClassId) (b_p0_steps : Nat → Int32) (p0_strikes : Nat) (c_p0_strikes : ClassId) (b_p0_strikes : Nat → Int32) (p0_swings : Nat) (c_p0_swings : ClassId) (b_p0_swings : Nat → Int32) (p0_walks : Nat) (c_p0_walks : ClassId) (b_p0_walks : Nat → Int32) (a1 : Int32) (a2 : Int32) (a3 : Int32) (bk : Int32) (r : Int32) (X : va_W → Prop) : Prop := ∃ (y_p0 : List Value) (y_p0_bLong : Nat → Int32) (y_p0_bTight : Nat → Int32) (y_p0_pile : Nat → Int32), OKX9 y_p0 ∧ q_fr [52, 56, 57] f_p0 y_p0 ∧ X (zW_r_stepIt p0 y_p0 p0_bLong c_p0_bLong y_p0_bLong p0_bTight c_p0_bTight y_p0_bTight p0_code c_p0_code b_p0_code p0_codeNumber c_p0_codeNumber b_p0_codeNumber p0_laws c_p0_laws b_p0_laws p0_pile c_p0_pile y_p0_pile p0_rFrom c_p0_rFrom b_p0_rFrom p0_rTo c_p0_rTo b_p0_rTo p0_steps c_p0_steps b_p0_steps p0_strikes c_p0_strikes b_p0_strikes p0_swings c_p0_swings b_p0_swings p0_walks c_p0_walks b_p0_walks)
theorem zm_r_stepIt {p0 : Nat} {f_p0 : List Value} {p0_bLong : Nat} {c_p0_bLong : ClassId} {b_p0_bLong : Nat → Int32} {p0_bTight : Nat} {c_p0_bTight : ClassId} {b_p0_bTight : Nat → Int32} {p0_code : Nat} {c_p0_code : ClassId} {b_p0_code : Nat → Int32} {p0_codeNumber : Nat} {c_p0_codeNumber : ClassId} {b_p0_codeNumber : Nat → Int32} {p0_laws : Nat} {c_p0_laws : ClassId} {b_p0_laws : Nat → Int32} {p0_pile : Nat} {c_p0_pile : ClassId} {b_p0_pile : Nat → Int32} {p0_rFrom : Nat} {c_p0_rFrom : ClassId} {b_p0_rFrom : Nat → Int32} {p0_rTo : Nat} {c_p0_rTo : ClassId} {b_p0_rTo : Nat → Int32} {p0_steps : Nat} {c_p0_steps : ClassId} {b_p0_steps : Nat → Int32} {p0_strikes : Nat} {c_p0_strikes : ClassId} {b_p0_strikes : Nat → Int32} {p0_swings : Nat} {c_p0_swings : ClassId} {b_p0_swings : Nat → Int32} {p0_walks : Nat} {c_p0_walks : ClassId} {b_p0_walks : Nat → Int32} {a1 : Int32} {a2 : Int32} {a3 : Int32} {bk : Int32} : ∀ (r : Int32), ∀ X Y : va_W → Prop, (∀ w, X w → Y w) → zG_r_stepIt p0 f_p0 p0_bLong c_p0_bLong b_p0_bLong p0_bTight c_p0_bTight b_p0_bTight p0_code c_p0_code b_p0_code p0_codeNumber c_p0_codeNumber b_p0_codeNumber p0_laws c_p0_laws b_p0_laws p0_pile c_p0_pile b_p0_pile p0_rFrom c_p0_rFrom b_p0_rFrom p0_rTo c_p0_rTo b_p0_rTo p0_steps c_p0_steps b_p0_steps p0_strikes c_p0_strikes b_p0_strikes p0_swings c_p0_swings b_p0_swings p0_walks c_p0_walks b_p0_walks a1 a2 a3 bk r X → zG_r_stepIt p0 f_p0 p0_bLong c_p0_bLong b_p0_bLong p0_bTight c_p0_bTight b_p0_bTight p0_code c_p0_code b_p0_code p0_codeNumber c_p0_codeNumber b_p0_codeNumber p0_laws c_p0_laws b_p0_laws p0_pile c_p0_pile b_p0_pile p0_rFrom c_p0_rFrom b_p0_rFrom p0_rTo c_p0_rTo b_p0_rTo p0_steps c_p0_steps b_p0_steps p0_strikes c_p0_strikes b_p0_strikes p0_swings c_p0_swings b_p0_swings p0_walks c_p0_walks b_p0_walks a1 a2 a3 bk r Y := fun r X Y h h1 => by obtain ⟨x0, x1, x2, x3, x4, x5, hx⟩ := h1; exact ⟨x0, x1, x2, x3, x4, x5, h _ hx⟩
set_option maxHeartbeats 4000000 in
set_option maxRecDepth 100000 in
theorem r_stepIt (l : Launch) (dC : Nat → ClassId) (dI : Nat → Nat → Nat) (sz : Nat) (p0 : Nat) (f_p0 : List Value) (p0_bLong : Nat) (c_p0_bLong : ClassId) (b_p0_bLong : Nat → Int32) (p0_bTight : Nat) (c_p0_bTight : ClassId) (b_p0_bTight : Nat → Int32) (p0_code : Nat) (c_p0_code : ClassId) (b_p0_code : Nat → Int32) (p0_codeNumber : Nat) (c_p0_codeNumber : ClassId) (b_p0_codeNumber : Nat → Int32) (p0_laws : Nat) (c_p0_laws : ClassId) (b_p0_laws : Nat → Int32) (p0_pile : Nat) (c_p0_pile : ClassId) (b_p0_pile : Nat → Int32) (p0_rFrom : Nat) (c_p0_rFrom : ClassId) (b_p0_rFrom : Nat → Int32) (p0_rTo : Nat) (c_p0_rTo : ClassId) (b_p0_rTo : Nat → Int32) (p0_steps : Nat) (c_p0_steps : ClassId) (b_p0_steps : Nat → Int32) (p0_strikes : Nat) (c_p0_strikes : ClassId) (b_p0_strikes : Nat → Int32) (p0_swings : Nat) (c_p0_swings : ClassId) (b_p0_swings : Nat → Int32) (p0_walks : Nat) (c_p0_walks : ClassId) (b_p0_walks : Nat → Int32) (a1 : Int32) (a2 : Int32) (a3 : Int32) (bk : Int32) (ho_p0 : OKX9 f_p0) (fr_p0_13 : q_rf f_p0 13 p0_walks) (fr_p0_14 : q_rf f_p0 14 p0_laws) (fr_p0_31 : q_rf f_p0 31 p0_steps) (fr_p0_32 : q_rf f_p0 32 p0_strikes) (fr_p0_33 : q_rf f_p0 33 p0_swings) (fr_p0_36 : q_rf f_p0 36 p0_rFrom) (fr_p0_37 : q_rf f_p0 37 p0_rTo) (fr_p0_38 : q_rf f_p0 38 p0_code) (fr_p0_39 : q_rf f_p0 39 p0_codeNumber) (fr_p0_42 : q_rf f_p0 42 p0_pile) (fr_p0_49 : q_rf f_p0 49 p0_bTight) (fr_p0_50 : q_rf f_p0 50 p0_bLong) (hr_p0_laws : q_rg 2 (0) 3 b_p0_laws) (hr_p0_rFrom : q_rg 12 (0) 1800 b_p0_rFrom) (hr_p0_rTo : q_rg 12 (0) 1800 b_p0_rTo) (hr_p0_steps : q_rg 8 (0) 8 b_p0_steps) (hr_p0_walks : q_rg 2 (0) 4 b_p0_walks) (pf_bk : q_if f_p0 43 bk) (ta1 : (0) ≤ a1.toInt ∧ a1.toInt ≤ 3) (ta2 : (0) ≤ a2.toInt ∧ a2.toInt ≤ 2147483647) (hWB : q_WB bk b_p0_walks b_p0_steps) (hLB : q_LB bk b_p0_laws b_p0_rFrom b_p0_rTo b_p0_code) (hw : 0 ≤ a1.toInt ∧ a1.toInt < (b_p0_walks bk.toNatClampNeg).toInt) (hl : 0 ≤ a3.toInt ∧ ((b_p0_laws bk.toNatClampNeg).toInt = 0 ∨ a3.toInt < (b_p0_laws bk.toNatClampNeg).toInt)) : Met l yX9_stepIt zw_r_stepIt ({ frames := 5, cells := 0, slots := 0, locals := 122 }) (va_Pc [.ref p0, .int a1, .int a2, .int a3] (q_pre (dC, dI) (zW_r_stepIt p0 f_p0 p0_bLong c_p0_bLong b_p0_bLong p0_bTight c_p0_bTight b_p0_bTight p0_code c_p0_code b_p0_code p0_codeNumber c_p0_codeNumber b_p0_codeNumber p0_laws c_p0_laws b_p0_laws p0_pile c_p0_pile b_p0_pile p0_rFrom c_p0_rFrom b_p0_rFrom p0_rTo c_p0_rTo b_p0_rTo p0_steps c_p0_steps b_p0_steps p0_strikes c_p0_strikes b_p0_strikes p0_swings c_p0_swings b_p0_swings p0_walks c_p0_walks b_p0_walks) (zT_r_stepIt c_p0_bLong c_p0_bTight c_p0_code c_p0_codeNumber c_p0_laws c_p0_pile c_p0_rFrom c_p0_rTo c_p0_steps c_p0_strikes c_p0_swings c_p0_walks) q_E0 sz)) (q_Qi (dC, dI) (zG_r_stepIt p0 f_p0 p0_bLong c_p0_bLong b_p0_bLong p0_bTight c_p0_bTight b_p0_bTight p0_code c_p0_code b_p0_code p0_codeNumber c_p0_codeNumber b_p0_codeNumber p0_laws c_p0_laws b_p0_laws p0_pile c_p0_pile b_p0_pile p0_rFrom c_p0_rFrom b_p0_rFrom p0_rTo c_p0_rTo b_p0_rTo p0_steps c_p0_steps b_p0_steps p0_strikes c_p0_strikes b_p0_strikes p0_swings c_p0_swings b_p0_swings p0_walks c_p0_walks b_p0_walks a1 a2 a3 bk) (zA_r_stepIt p0 p0_bLong p0_bTight p0_code p0_codeNumber p0_laws p0_pile p0_rFrom p0_rTo p0_steps p0_strikes p0_swings p0_walks) (va_A (zW_r_stepIt p0 f_p0 p0_bLong c_p0_bLong b_p0_bLong p0_bTight c_p0_bTight b_p0_bTight p0_code c_p0_code b_p0_code p0_codeNumber c_p0_codeNumber b_p0_codeNumber p0_laws c_p0_laws b_p0_laws p0_pile c_p0_pile b_p0_pile p0_rFrom c_p0_rFrom b_p0_rFrom p0_rTo c_p0_rTo b_p0_rTo p0_steps c_p0_steps b_p0_steps p0_strikes c_p0_strikes b_p0_strikes p0_swings c_p0_swings b_p0_swings p0_walks c_p0_walks b_p0_walks) sz)) 0 0 (va_A (zW_r_stepIt p0 f_p0 p0_bLong c_p0_bLong b_p0_bLong p0_bTight c_p0_bTight b_p0_bTight p0_code c_p0_code b_p0_code p0_codeNumber c_p0_codeNumber b_p0_codeNumber p0_laws c_p0_laws b_p0_laws p0_pile c_p0_pile b_p0_pile p0_rFrom c_p0_rFrom b_p0_rFrom p0_rTo c_p0_rTo b_p0_rTo p0_steps c_p0_steps b_p0_steps p0_strikes c_p0_strikes b_p0_strikes p0_swings c_p0_swings b_p0_swings p0_walks c_p0_walks b_p0_walks) sz) := by
  refine Met.ofW (cc := cX9_stepIt) (maxL := 5) (ret := (some .int)) (by decide) rfl ?_
  intro p e s m args below meth c s₁ B hml hv
  obtain ⟨rfl, hsz, hP, hK, hD0, hE⟩ := hv
  have hx := B.exec
  have hb := B.bytes
  have hr := B.returns
  have hts := atoms_spec (ws := zw_r_stepIt) B.pre
  have hown : s.vm.findClass RX9 = some m.cls := findClass_of_methodNamed B.named
  have hlocks := B.notSynchronized
  subst hsz
  have hD := hD0.self (sz := s.heap.size)
  generalize hAe : va_A (zW_r_stepIt p0 f_p0 p0_bLong c_p0_bLong b_p0_bLong p0_bTight c_p0_bTight b_p0_bTight p0_code c_p0_code b_p0_code p0_codeNumber c_p0_codeNumber b_p0_codeNumber p0_laws c_p0_laws b_p0_laws p0_pile c_p0_pile b_p0_pile p0_rFrom c_p0_rFrom b_p0_rFrom p0_rTo c_p0_rTo b_p0_rTo p0_steps c_p0_steps b_p0_steps p0_strikes c_p0_strikes b_p0_strikes p0_swings c_p0_swings b_p0_swings p0_walks c_p0_walks b_p0_walks) s.heap.size = A at hD hE ⊢
  have hA : ∀ q : Nat, s.heap.size ≤ q → A q := fun q h => by rw [← hAe]; exact Or.inr h
  have hDa : q_DA A (zA_r_stepIt p0 p0_bLong p0_bTight p0_code p0_codeNumber p0_laws p0_pile p0_rFrom p0_rTo p0_steps p0_strikes p0_swings p0_walks) := q_DA.mk hD za_r_stepIt
  clear hAe hD0 hD
  have hS : va_S A s.heap s.heap [] := va_S.rf
  have m_0 : (.fieldLink RX9 291 "BowWalkModel" "bank" "I" : Cond) ∈ zw_r_stepIt := List.mem_append_left _ (List.mem_of_getElem? (i := 1) rfl)
  have k_0 := hts _ m_0
  have m_1 : (.fieldLink RX9 83 "BowWalkModel" "steps" "[I" : Cond) ∈ zw_r_stepIt := List.mem_append_left _ (List.mem_of_getElem? (i := 2) rfl)
  have k_1 := hts _ m_1
  have m_2 : (.fieldLink RX9 86 "BowWalkModel" "strikes" "[I" : Cond) ∈ zw_r_stepIt := List.mem_append_left _ (List.mem_of_getElem? (i := 3) rfl)
  have k_2 := hts _ m_2
  have m_3 : (.fieldLink RX9 421 "BowWalkModel" "lessStrike" "I" : Cond) ∈ zw_r_stepIt := List.mem_append_left _ (List.mem_of_getElem? (i := 4) rfl)
  have k_3 := hts _ m_3
  have m_4 : (.fieldLink RX9 376 "BowWalkModel" "nowStrike" "I" : Cond) ∈ zw_r_stepIt := List.mem_append_left _ (List.mem_of_getElem? (i := 5) rfl)
  have k_4 := hts _ m_4
  have m_5 : (.fieldLink RX9 89 "BowWalkModel" "swings" "[I" : Cond) ∈ zw_r_stepIt := List.mem_append_left _ (List.mem_of_getElem? (i := 6) rfl)
  have k_5 := hts _ m_5
  have m_6 : (.fieldLink RX9 424 "BowWalkModel" "lessSwing" "I" : Cond) ∈ zw_r_stepIt := List.mem_append_left _ (List.mem_of_getElem? (i := 7) rfl)
  have k_6 := hts _ m_6
  have m_7 : (.fieldLink RX9 379 "BowWalkModel" "nowSwing" "I" : Cond) ∈ zw_r_stepIt := List.mem_append_left _ (List.mem_of_getElem? (i := 8) rfl)
  have k_7 := hts _ m_7
  have m_8 : (.methodLink RX9 427 yX9_pullIt : Cond) ∈ zw_r_stepIt := List.mem_append_left _ (List.mem_of_getElem? (i := 9) rfl)
  have k_8 := hts _ m_8
  have m_9 : (.instanceMethod yX9_pullIt : Cond) ∈ zw_r_stepIt := List.mem_append_left _ (List.mem_of_getElem? (i := 10) rfl)
  have k_9 := hts _ m_9
  have m_10 : (.selects RX9 yX9_pullIt yX9_pullIt : Cond) ∈ zw_r_stepIt := List.mem_append_left _ (List.mem_of_getElem? (i := 11) rfl)
  have k_10 := hts _ m_10
  have m_11 : (.initialized RX9 : Cond) ∈ zw_r_stepIt := List.mem_append_left _ (List.mem_of_getElem? (i := 12) rfl)
  have k_11 := hts _ m_11
  have g_r_pullIt : ∀ w ∈ zw_r_pullIt, w ∈ zw_r_stepIt := fun w h => List.mem_append_right _ (List.mem_append_left _ h)
  have i_X9 : ∀ w ∈ u_ws RX9 TX9 81, w ∈ zw_r_stepIt := fun w h => List.mem_append_right _ (List.mem_append_right _ (List.mem_append_left _ h))
  have lt_m1 : ((-1) : Int32).toInt = -1 := by decide
  have lt_0 : (0 : Int32).toInt = 0 := by decide
  have lt_4 : (4 : Int32).toInt = 4 := by decide
  have lt_8 : (8 : Int32).toInt = 8 := by decide
  have hl := lv_entry ([.ref p0, .int a1, .int a2, .int a3]) (n := 5) (Nat.le_of_ble_eq_true rfl)
  rw [lg_entry_eq]
  generalize (lg_sl ([.ref p0, .int a1, .int a2, .int a3]) ++ List.replicate (5 - (lg_sl ([.ref p0, .int a1, .int a2, .int a3])).length) Slot.unset).toArray = ls at hl ⊢
  have hl : lv_has ls 5 [(0, .ref p0), (1, .int a1), (2, .int a2), (3, .int a3)] := hl
  have tbk := (OKX9_g43 ho_p0).use pf_bk
  have hwb := hr_p0_walks bk.toNatClampNeg (q_cl (q_in (by omega) (by omega)))
  have hlb := hr_p0_laws bk.toNatClampNeg (q_cl (q_in (by omega) (by omega)))
  refine lv_bipush (v := 8) hx hb dX9_stepIt_0 (by decide) (lv_iconst (v := 4) hx hb dX9_stepIt_2 (by decide) (lv_aload_n hx hb dX9_stepIt_3 rfl (lv_at hl 0 rfl) (qg_X9_43 hx hb hts i_X9 hown hK hP 0 rfl k_0 pf_bk dX9_stepIt_4 (lv_imul hx hb dX9_stepIt_7 (lv_topi fun v_1 ev_1 => ?_)))))
  have tv_1 := q_mulc (c := 4) ev_1 (by decide) (by omega) (by omega)
  refine lv_iload_n hx hb dX9_stepIt_8 rfl (lv_at hl 1 rfl) (lv_iadd hx hb dX9_stepIt_9 (lv_topi fun v_2 ev_2 => ?_))
  have tv_2 := q_add ev_2 (by omega) (by omega)
  refine lv_imul hx hb dX9_stepIt_10 (lv_topi fun v_3 ev_3 => ?_)
  have tv_3 := q_mulc (c := 8) ev_3 (by decide) (by omega) (by omega)
  refine lv_iload_n hx hb dX9_stepIt_11 rfl (lv_at hl 2 rfl) (lv_aload_n hx hb dX9_stepIt_12 rfl (lv_at hl 0 rfl) (qg_X9_31 hx hb hts i_X9 hown hK hP 0 rfl k_1 fr_p0_31 dX9_stepIt_13 (lv_iconst (v := 4) hx hb dX9_stepIt_16 (by decide) (lv_aload_n hx hb dX9_stepIt_17 rfl (lv_at hl 0 rfl) (qg_X9_43 hx hb hts i_X9 hown hK hP 0 rfl k_0 pf_bk dX9_stepIt_18 (lv_imul hx hb dX9_stepIt_21 (lv_topi fun v_4 ev_4 => ?_)))))))
  have tv_4 := q_mulc (c := 4) ev_4 (by decide) (by omega) (by omega)
  refine lv_iload_n hx hb dX9_stepIt_22 rfl (lv_at hl 1 rfl) (lv_iadd hx hb dX9_stepIt_23 (lv_topi fun v_5 ev_5 => ?_))
  have tv_5 := q_add ev_5 (by omega) (by omega)
  refine q_ild hx hb hK hP 9 8 rfl rfl (q_in (by omega) (by omega)) dX9_stepIt_24 (fun v_6 ev_6 => ?_)
  have tv_6 := q_rd' hr_p0_steps (q_in (by omega) (by omega)) ev_6
  have sv_6 : 1 ≤ v_6.toInt := by rw [ev_6]; exact hWB.at (a := a1) (by omega) (by omega) (by omega) (by omega)
  refine lv_irem hx hb dX9_stepIt_25 (q_n0 (by omega)) (lv_topi fun v_7 ev_7 => ?_)
  have tv_7 := q_remv ev_7 (by omega) (by omega)
  have rv_7 := tv_7.2
  clear tv_7
  refine lv_iadd hx hb dX9_stepIt_26 (lv_topi fun v_8 ev_8 => ?_)
  have tv_8 := q_add ev_8 (by omega) (by omega)
  refine lv_istore (lv' := [(4, .int v_8), (0, .ref p0), (1, .int a1), (2, .int a2), (3, .int a3)]) hx hb dX9_stepIt_27 hl (by decide) rfl (fun ls hl => ?_)
  refine lv_aload_n hx hb dX9_stepIt_29 rfl (lv_at hl 1 rfl) (lv_aload_n hx hb dX9_stepIt_30 rfl (lv_at hl 1 rfl) (qg_X9_32 hx hb hts i_X9 hown hK hP 0 rfl k_2 fr_p0_32 dX9_stepIt_31 (lv_iload hx hb dX9_stepIt_34 (lv_at hl 0 rfl) (q_ild hx hb hK hP 10 9 rfl rfl (q_in (by omega) (by omega)) dX9_stepIt_36 (fun v_9 ev_9 => ?_)))))
  refine lv_aload_n hx hb dX9_stepIt_37 rfl (lv_at hl 1 rfl) ?_
  obtain ⟨v_10, fv_10⟩ := OKX9_g59 ho_p0
  refine qg_X9_59 hx hb hts i_X9 hown hK hP 0 rfl k_3 fv_10 dX9_stepIt_38 ?_
  refine lv_icmp_le (tgt := 59) hx hb dX9_stepIt_41 (by decide) (fun c_11 => ?_) (fun c_11 => ?_)
  · have tc_11 := q_le c_11
    refine lv_iconst (v := 0) hx hb dX9_stepIt_59 (by decide) (qp_X9_56 hx hb hts i_X9 hown hK hP hDa za_r_stepIt hS 0 rfl k_4 (OKX9_l ho_p0) dX9_stepIt_60 (fun H12 lo12 fs12 efs12 (hP12 : va_P (dC, dI) vwCl (zW_r_stepIt p0 fs12 p0_bLong c_p0_bLong b_p0_bLong p0_bTight c_p0_bTight b_p0_bTight p0_code c_p0_code b_p0_code p0_codeNumber c_p0_codeNumber b_p0_codeNumber p0_laws c_p0_laws b_p0_laws p0_pile c_p0_pile b_p0_pile p0_rFrom c_p0_rFrom b_p0_rFrom p0_rTo c_p0_rTo b_p0_rTo p0_steps c_p0_steps b_p0_steps p0_strikes c_p0_strikes b_p0_strikes p0_swings c_p0_swings b_p0_swings p0_walks c_p0_walks b_p0_walks) H12) hS12 => ?_))
    have ho12 := OKX9_p56 ho_p0 efs12
    clear hP hS
    refine lv_aload_n hx hb dX9_stepIt_63 rfl (lv_at hl 1 rfl) (lv_aload_n hx hb dX9_stepIt_64 rfl (lv_at hl 1 rfl) (qg_X9_33 hx hb hts i_X9 hown hK hP12 0 rfl k_5 (q_sn efs12 (by decide) fr_p0_33) dX9_stepIt_65 (lv_iload hx hb dX9_stepIt_68 (lv_at hl 0 rfl) (q_ild hx hb hK hP12 11 10 rfl rfl (q_in (by omega) (by omega)) dX9_stepIt_70 (fun v_13 ev_13 => ?_)))))
    refine lv_aload_n hx hb dX9_stepIt_71 rfl (lv_at hl 1 rfl) ?_
    obtain ⟨v_14, fv_14⟩ := OKX9_g58 ho12
    refine qg_X9_58 hx hb hts i_X9 hown hK hP12 0 rfl k_6 fv_14 dX9_stepIt_72 ?_
    refine lv_icmp_le (tgt := 93) hx hb dX9_stepIt_75 (by decide) (fun c_15 => ?_) (fun c_15 => ?_)
    · have tc_15 := q_le c_15
      refine lv_iconst (v := 0) hx hb dX9_stepIt_93 (by decide) (qp_X9_57 hx hb hts i_X9 hown hK hP12 hDa za_r_stepIt hS12 0 rfl k_7 (OKX9_l ho12) dX9_stepIt_94 (fun H16 lo16 fs16 efs16 (hP16 : va_P (dC, dI) vwCl (zW_r_stepIt p0 fs16 p0_bLong c_p0_bLong b_p0_bLong p0_bTight c_p0_bTight b_p0_bTight p0_code c_p0_code b_p0_code p0_codeNumber c_p0_codeNumber b_p0_codeNumber p0_laws c_p0_laws b_p0_laws p0_pile c_p0_pile b_p0_pile p0_rFrom c_p0_rFrom b_p0_rFrom p0_rTo c_p0_rTo b_p0_rTo p0_steps c_p0_steps b_p0_steps p0_strikes c_p0_strikes b_p0_strikes p0_swings c_p0_swings b_p0_swings p0_walks c_p0_walks b_p0_walks) H16) hS16 => ?_))
      have ho16 := OKX9_p57 ho12 efs16
      clear hP12 hS12
      refine lv_aload_n hx hb dX9_stepIt_97 rfl (lv_at hl 1 rfl) (lv_iload_n hx hb dX9_stepIt_98 rfl (lv_at hl 4 rfl) (lv_iconst (v := (-1)) hx hb dX9_stepIt_99 (by decide) ?_))
      refine q_cVi (As := [.int a3, .int (-1)]) (rest := []) q_w0 trivial hK hP16 hDa za_r_stepIt hS16 hA [0, 1, 2, 3, 4, 5, 6, 7, 8] [0, 1, 2, 3, 4, 5, 6, 7] (by decide +kernel) ⟨hx, hb, hml, hown, hts⟩ (r_pullIt l dC dI H16.size p0 fs16 p0_bLong c_p0_bLong b_p0_bLong p0_bTight c_p0_bTight b_p0_bTight p0_code c_p0_code b_p0_code p0_codeNumber c_p0_codeNumber b_p0_codeNumber p0_laws c_p0_laws b_p0_laws p0_pile c_p0_pile b_p0_pile p0_rFrom c_p0_rFrom b_p0_rFrom p0_rTo c_p0_rTo b_p0_rTo a3 ((-1)) bk ho16 ((q_sn efs16 (by decide) (q_sn efs12 (by decide) fr_p0_14))) ((q_sn efs16 (by decide) (q_sn efs12 (by decide) fr_p0_36))) ((q_sn efs16 (by decide) (q_sn efs12 (by decide) fr_p0_37))) ((q_sn efs16 (by decide) (q_sn efs12 (by decide) fr_p0_38))) ((q_sn efs16 (by decide) (q_sn efs12 (by decide) fr_p0_39))) ((q_sn efs16 (by decide) (q_sn efs12 (by decide) fr_p0_42))) ((q_sn efs16 (by decide) (q_sn efs12 (by decide) fr_p0_49))) ((q_sn efs16 (by decide) (q_sn efs12 (by decide) fr_p0_50))) hr_p0_laws hr_p0_rFrom hr_p0_rTo ((q_sn efs16 (by decide) (q_sn efs12 (by decide) pf_bk))) hLB ((by omega))) rfl rfl (cwV 2 hts (p1_gV m_8 m_9 m_10 m_11 g_r_pullIt gz_r_pullIt) rfl rfl rfl (by decide +kernel) ⟨by decide, by decide⟩) (va_recv hK hP16 (ci := 8) (q0 := 0) rfl rfl) zm_r_pullIt rfl hl.1 rfl (Nat.le_of_ble_eq_true rfl) dX9_stepIt_100 ⟨by decide, by decide⟩ (fun r_17 H18 lo18 hG18 hS18 => ?_)
      obtain ⟨o_19, o_20, o_21, o_22, ho_23, hf_24, hQ18⟩ := hG18
      have hP18 : va_P (dC, dI) vwCl (zW_r_stepIt p0 o_19 p0_bLong c_p0_bLong o_20 p0_bTight c_p0_bTight o_21 p0_code c_p0_code b_p0_code p0_codeNumber c_p0_codeNumber b_p0_codeNumber p0_laws c_p0_laws b_p0_laws p0_pile c_p0_pile o_22 p0_rFrom c_p0_rFrom b_p0_rFrom p0_rTo c_p0_rTo b_p0_rTo p0_steps c_p0_steps b_p0_steps p0_strikes c_p0_strikes b_p0_strikes p0_swings c_p0_swings b_p0_swings p0_walks c_p0_walks b_p0_walks) H18 := hQ18
      clear hQ18 hP16 hS16
      exact q_iret hx hb hr hlocks hS18 dX9_stepIt_103 ⟨o_19, o_20, o_21, o_22, ho_23, (((q_fr.rf.st efs12 (by decide)).st efs16 (by decide)).tr hf_24 (by decide)), hP18, za_r_stepIt⟩
    · have tc_15 := q_gtN c_15
      refine lv_aload_n hx hb dX9_stepIt_78 rfl (lv_at hl 1 rfl) (qg_X9_33 hx hb hts i_X9 hown hK hP12 0 rfl k_5 (q_sn efs12 (by decide) fr_p0_33) dX9_stepIt_79 (lv_iload hx hb dX9_stepIt_82 (lv_at hl 0 rfl) (q_ild hx hb hK hP12 11 10 rfl rfl (q_in (by omega) (by omega)) dX9_stepIt_84 (fun v_25 ev_25 => ?_))))
      refine lv_aload_n hx hb dX9_stepIt_85 rfl (lv_at hl 1 rfl) (qg_X9_58 hx hb hts i_X9 hown hK hP12 0 rfl k_6 fv_14 dX9_stepIt_86 (lv_isub hx hb dX9_stepIt_89 (lv_topi fun v_26 ev_26 => lv_goto (tgt := 94) hx hb dX9_stepIt_90 (by decide) (qp_X9_57 hx hb hts i_X9 hown hK hP12 hDa za_r_stepIt hS12 0 rfl k_7 (OKX9_l ho12) dX9_stepIt_94 (fun H27 lo27 fs27 efs27 (hP27 : va_P (dC, dI) vwCl (zW_r_stepIt p0 fs27 p0_bLong c_p0_bLong b_p0_bLong p0_bTight c_p0_bTight b_p0_bTight p0_code c_p0_code b_p0_code p0_codeNumber c_p0_codeNumber b_p0_codeNumber p0_laws c_p0_laws b_p0_laws p0_pile c_p0_pile b_p0_pile p0_rFrom c_p0_rFrom b_p0_rFrom p0_rTo c_p0_rTo b_p0_rTo p0_steps c_p0_steps b_p0_steps p0_strikes c_p0_strikes b_p0_strikes p0_swings c_p0_swings b_p0_swings p0_walks c_p0_walks b_p0_walks) H27) hS27 => ?_)))))
      have ho27 := OKX9_p57 ho12 efs27
      clear hP12 hS12
      refine lv_aload_n hx hb dX9_stepIt_97 rfl (lv_at hl 1 rfl) (lv_iload_n hx hb dX9_stepIt_98 rfl (lv_at hl 4 rfl) (lv_iconst (v := (-1)) hx hb dX9_stepIt_99 (by decide) ?_))
      refine q_cVi (As := [.int a3, .int (-1)]) (rest := []) q_w0 trivial hK hP27 hDa za_r_stepIt hS27 hA [0, 1, 2, 3, 4, 5, 6, 7, 8] [0, 1, 2, 3, 4, 5, 6, 7] (by decide +kernel) ⟨hx, hb, hml, hown, hts⟩ (r_pullIt l dC dI H27.size p0 fs27 p0_bLong c_p0_bLong b_p0_bLong p0_bTight c_p0_bTight b_p0_bTight p0_code c_p0_code b_p0_code p0_codeNumber c_p0_codeNumber b_p0_codeNumber p0_laws c_p0_laws b_p0_laws p0_pile c_p0_pile b_p0_pile p0_rFrom c_p0_rFrom b_p0_rFrom p0_rTo c_p0_rTo b_p0_rTo a3 ((-1)) bk ho27 ((q_sn efs27 (by decide) (q_sn efs12 (by decide) fr_p0_14))) ((q_sn efs27 (by decide) (q_sn efs12 (by decide) fr_p0_36))) ((q_sn efs27 (by decide) (q_sn efs12 (by decide) fr_p0_37))) ((q_sn efs27 (by decide) (q_sn efs12 (by decide) fr_p0_38))) ((q_sn efs27 (by decide) (q_sn efs12 (by decide) fr_p0_39))) ((q_sn efs27 (by decide) (q_sn efs12 (by decide) fr_p0_42))) ((q_sn efs27 (by decide) (q_sn efs12 (by decide) fr_p0_49))) ((q_sn efs27 (by decide) (q_sn efs12 (by decide) fr_p0_50))) hr_p0_laws hr_p0_rFrom hr_p0_rTo ((q_sn efs27 (by decide) (q_sn efs12 (by decide) pf_bk))) hLB ((by omega))) rfl rfl (cwV 2 hts (p1_gV m_8 m_9 m_10 m_11 g_r_pullIt gz_r_pullIt) rfl rfl rfl (by decide +kernel) ⟨by decide, by decide⟩) (va_recv hK hP27 (ci := 8) (q0 := 0) rfl rfl) zm_r_pullIt rfl hl.1 rfl (Nat.le_of_ble_eq_true rfl) dX9_stepIt_100 ⟨by decide, by decide⟩ (fun r_28 H29 lo29 hG29 hS29 => ?_)
      obtain ⟨o_30, o_31, o_32, o_33, ho_34, hf_35, hQ29⟩ := hG29
      have hP29 : va_P (dC, dI) vwCl (zW_r_stepIt p0 o_30 p0_bLong c_p0_bLong o_31 p0_bTight c_p0_bTight o_32 p0_code c_p0_code b_p0_code p0_codeNumber c_p0_codeNumber b_p0_codeNumber p0_laws c_p0_laws b_p0_laws p0_pile c_p0_pile o_33 p0_rFrom c_p0_rFrom b_p0_rFrom p0_rTo c_p0_rTo b_p0_rTo p0_steps c_p0_steps b_p0_steps p0_strikes c_p0_strikes b_p0_strikes p0_swings c_p0_swings b_p0_swings p0_walks c_p0_walks b_p0_walks) H29 := hQ29
      clear hQ29 hP27 hS27
      exact q_iret hx hb hr hlocks hS29 dX9_stepIt_103 ⟨o_30, o_31, o_32, o_33, ho_34, (((q_fr.rf.st efs12 (by decide)).st efs27 (by decide)).tr hf_35 (by decide)), hP29, za_r_stepIt⟩
  · have tc_11 := q_gtN c_11
    refine lv_aload_n hx hb dX9_stepIt_44 rfl (lv_at hl 1 rfl) (qg_X9_32 hx hb hts i_X9 hown hK hP 0 rfl k_2 fr_p0_32 dX9_stepIt_45 (lv_iload hx hb dX9_stepIt_48 (lv_at hl 0 rfl) (q_ild hx hb hK hP 10 9 rfl rfl (q_in (by omega) (by omega)) dX9_stepIt_50 (fun v_36 ev_36 => ?_))))
    refine lv_aload_n hx hb dX9_stepIt_51 rfl (lv_at hl 1 rfl) (qg_X9_59 hx hb hts i_X9 hown hK hP 0 rfl k_3 fv_10 dX9_stepIt_52 (lv_isub hx hb dX9_stepIt_55 (lv_topi fun v_37 ev_37 => lv_goto (tgt := 60) hx hb dX9_stepIt_56 (by decide) (qp_X9_56 hx hb hts i_X9 hown hK hP hDa za_r_stepIt hS 0 rfl k_4 (OKX9_l ho_p0) dX9_stepIt_60 (fun H38 lo38 fs38 efs38 (hP38 : va_P (dC, dI) vwCl (zW_r_stepIt p0 fs38 p0_bLong c_p0_bLong b_p0_bLong p0_bTight c_p0_bTight b_p0_bTight p0_code c_p0_code b_p0_code p0_codeNumber c_p0_codeNumber b_p0_codeNumber p0_laws c_p0_laws b_p0_laws p0_pile c_p0_pile b_p0_pile p0_rFrom c_p0_rFrom b_p0_rFrom p0_rTo c_p0_rTo b_p0_rTo p0_steps c_p0_steps b_p0_steps p0_strikes c_p0_strikes b_p0_strikes p0_swings c_p0_swings b_p0_swings p0_walks c_p0_walks b_p0_walks) H38) hS38 => ?_)))))
    have ho38 := OKX9_p56 ho_p0 efs38
    clear hP hS
    refine lv_aload_n hx hb dX9_stepIt_63 rfl (lv_at hl 1 rfl) (lv_aload_n hx hb dX9_stepIt_64 rfl (lv_at hl 1 rfl) (qg_X9_33 hx hb hts i_X9 hown hK hP38 0 rfl k_5 (q_sn efs38 (by decide) fr_p0_33) dX9_stepIt_65 (lv_iload hx hb dX9_stepIt_68 (lv_at hl 0 rfl) (q_ild hx hb hK hP38 11 10 rfl rfl (q_in (by omega) (by omega)) dX9_stepIt_70 (fun v_39 ev_39 => ?_)))))
    refine lv_aload_n hx hb dX9_stepIt_71 rfl (lv_at hl 1 rfl) ?_
    obtain ⟨v_40, fv_40⟩ := OKX9_g58 ho38
    refine qg_X9_58 hx hb hts i_X9 hown hK hP38 0 rfl k_6 fv_40 dX9_stepIt_72 ?_
    refine lv_icmp_le (tgt := 93) hx hb dX9_stepIt_75 (by decide) (fun c_41 => ?_) (fun c_41 => ?_)
    · have tc_41 := q_le c_41
      refine lv_iconst (v := 0) hx hb dX9_stepIt_93 (by decide) (qp_X9_57 hx hb hts i_X9 hown hK hP38 hDa za_r_stepIt hS38 0 rfl k_7 (OKX9_l ho38) dX9_stepIt_94 (fun H42 lo42 fs42 efs42 (hP42 : va_P (dC, dI) vwCl (zW_r_stepIt p0 fs42 p0_bLong c_p0_bLong b_p0_bLong p0_bTight c_p0_bTight b_p0_bTight p0_code c_p0_code b_p0_code p0_codeNumber c_p0_codeNumber b_p0_codeNumber p0_laws c_p0_laws b_p0_laws p0_pile c_p0_pile b_p0_pile p0_rFrom c_p0_rFrom b_p0_rFrom p0_rTo c_p0_rTo b_p0_rTo p0_steps c_p0_steps b_p0_steps p0_strikes c_p0_strikes b_p0_strikes p0_swings c_p0_swings b_p0_swings p0_walks c_p0_walks b_p0_walks) H42) hS42 => ?_))
      have ho42 := OKX9_p57 ho38 efs42
      clear hP38 hS38
      refine lv_aload_n hx hb dX9_stepIt_97 rfl (lv_at hl 1 rfl) (lv_iload_n hx hb dX9_stepIt_98 rfl (lv_at hl 4 rfl) (lv_iconst (v := (-1)) hx hb dX9_stepIt_99 (by decide) ?_))
      refine q_cVi (As := [.int a3, .int (-1)]) (rest := []) q_w0 trivial hK hP42 hDa za_r_stepIt hS42 hA [0, 1, 2, 3, 4, 5, 6, 7, 8] [0, 1, 2, 3, 4, 5, 6, 7] (by decide +kernel) ⟨hx, hb, hml, hown, hts⟩ (r_pullIt l dC dI H42.size p0 fs42 p0_bLong c_p0_bLong b_p0_bLong p0_bTight c_p0_bTight b_p0_bTight p0_code c_p0_code b_p0_code p0_codeNumber c_p0_codeNumber b_p0_codeNumber p0_laws c_p0_laws b_p0_laws p0_pile c_p0_pile b_p0_pile p0_rFrom c_p0_rFrom b_p0_rFrom p0_rTo c_p0_rTo b_p0_rTo a3 ((-1)) bk ho42 ((q_sn efs42 (by decide) (q_sn efs38 (by decide) fr_p0_14))) ((q_sn efs42 (by decide) (q_sn efs38 (by decide) fr_p0_36))) ((q_sn efs42 (by decide) (q_sn efs38 (by decide) fr_p0_37))) ((q_sn efs42 (by decide) (q_sn efs38 (by decide) fr_p0_38))) ((q_sn efs42 (by decide) (q_sn efs38 (by decide) fr_p0_39))) ((q_sn efs42 (by decide) (q_sn efs38 (by decide) fr_p0_42))) ((q_sn efs42 (by decide) (q_sn efs38 (by decide) fr_p0_49))) ((q_sn efs42 (by decide) (q_sn efs38 (by decide) fr_p0_50))) hr_p0_laws hr_p0_rFrom hr_p0_rTo ((q_sn efs42 (by decide) (q_sn efs38 (by decide) pf_bk))) hLB ((by omega))) rfl rfl (cwV 2 hts (p1_gV m_8 m_9 m_10 m_11 g_r_pullIt gz_r_pullIt) rfl rfl rfl (by decide +kernel) ⟨by decide, by decide⟩) (va_recv hK hP42 (ci := 8) (q0 := 0) rfl rfl) zm_r_pullIt rfl hl.1 rfl (Nat.le_of_ble_eq_true rfl) dX9_stepIt_100 ⟨by decide, by decide⟩ (fun r_43 H44 lo44 hG44 hS44 => ?_)
      obtain ⟨o_45, o_46, o_47, o_48, ho_49, hf_50, hQ44⟩ := hG44
      have hP44 : va_P (dC, dI) vwCl (zW_r_stepIt p0 o_45 p0_bLong c_p0_bLong o_46 p0_bTight c_p0_bTight o_47 p0_code c_p0_code b_p0_code p0_codeNumber c_p0_codeNumber b_p0_codeNumber p0_laws c_p0_laws b_p0_laws p0_pile c_p0_pile o_48 p0_rFrom c_p0_rFrom b_p0_rFrom p0_rTo c_p0_rTo b_p0_rTo p0_steps c_p0_steps b_p0_steps p0_strikes c_p0_strikes b_p0_strikes p0_swings c_p0_swings b_p0_swings p0_walks c_p0_walks b_p0_walks) H44 := hQ44
      clear hQ44 hP42 hS42
      exact q_iret hx hb hr hlocks hS44 dX9_stepIt_103 ⟨o_45, o_46, o_47, o_48, ho_49, (((q_fr.rf.st efs38 (by decide)).st efs42 (by decide)).tr hf_50 (by decide)), hP44, za_r_stepIt⟩
    · have tc_41 := q_gtN c_41
      refine lv_aload_n hx hb dX9_stepIt_78 rfl (lv_at hl 1 rfl) (qg_X9_33 hx hb hts i_X9 hown hK hP38 0 rfl k_5 (q_sn efs38 (by decide) fr_p0_33) dX9_stepIt_79 (lv_iload hx hb dX9_stepIt_82 (lv_at hl 0 rfl) (q_ild hx hb hK hP38 11 10 rfl rfl (q_in (by omega) (by omega)) dX9_stepIt_84 (fun v_51 ev_51 => ?_))))
      refine lv_aload_n hx hb dX9_stepIt_85 rfl (lv_at hl 1 rfl) (qg_X9_58 hx hb hts i_X9 hown hK hP38 0 rfl k_6 fv_40 dX9_stepIt_86 (lv_isub hx hb dX9_stepIt_89 (lv_topi fun v_52 ev_52 => lv_goto (tgt := 94) hx hb dX9_stepIt_90 (by decide) (qp_X9_57 hx hb hts i_X9 hown hK hP38 hDa za_r_stepIt hS38 0 rfl k_7 (OKX9_l ho38) dX9_stepIt_94 (fun H53 lo53 fs53 efs53 (hP53 : va_P (dC, dI) vwCl (zW_r_stepIt p0 fs53 p0_bLong c_p0_bLong b_p0_bLong p0_bTight c_p0_bTight b_p0_bTight p0_code c_p0_code b_p0_code p0_codeNumber c_p0_codeNumber b_p0_codeNumber p0_laws c_p0_laws b_p0_laws p0_pile c_p0_pile b_p0_pile p0_rFrom c_p0_rFrom b_p0_rFrom p0_rTo c_p0_rTo b_p0_rTo p0_steps c_p0_steps b_p0_steps p0_strikes c_p0_strikes b_p0_strikes p0_swings c_p0_swings b_p0_swings p0_walks c_p0_walks b_p0_walks) H53) hS53 => ?_)))))
      have ho53 := OKX9_p57 ho38 efs53
      clear hP38 hS38
      refine lv_aload_n hx hb dX9_stepIt_97 rfl (lv_at hl 1 rfl) (lv_iload_n hx hb dX9_stepIt_98 rfl (lv_at hl 4 rfl) (lv_iconst (v := (-1)) hx hb dX9_stepIt_99 (by decide) ?_))
      refine q_cVi (As := [.int a3, .int (-1)]) (rest := []) q_w0 trivial hK hP53 hDa za_r_stepIt hS53 hA [0, 1, 2, 3, 4, 5, 6, 7, 8] [0, 1, 2, 3, 4, 5, 6, 7] (by decide +kernel) ⟨hx, hb, hml, hown, hts⟩ (r_pullIt l dC dI H53.size p0 fs53 p0_bLong c_p0_bLong b_p0_bLong p0_bTight c_p0_bTight b_p0_bTight p0_code c_p0_code b_p0_code p0_codeNumber c_p0_codeNumber b_p0_codeNumber p0_laws c_p0_laws b_p0_laws p0_pile c_p0_pile b_p0_pile p0_rFrom c_p0_rFrom b_p0_rFrom p0_rTo c_p0_rTo b_p0_rTo a3 ((-1)) bk ho53 ((q_sn efs53 (by decide) (q_sn efs38 (by decide) fr_p0_14))) ((q_sn efs53 (by decide) (q_sn efs38 (by decide) fr_p0_36))) ((q_sn efs53 (by decide) (q_sn efs38 (by decide) fr_p0_37))) ((q_sn efs53 (by decide) (q_sn efs38 (by decide) fr_p0_38))) ((q_sn efs53 (by decide) (q_sn efs38 (by decide) fr_p0_39))) ((q_sn efs53 (by decide) (q_sn efs38 (by decide) fr_p0_42))) ((q_sn efs53 (by decide) (q_sn efs38 (by decide) fr_p0_49))) ((q_sn efs53 (by decide) (q_sn efs38 (by decide) fr_p0_50))) hr_p0_laws hr_p0_rFrom hr_p0_rTo ((q_sn efs53 (by decide) (q_sn efs38 (by decide) pf_bk))) hLB ((by omega))) rfl rfl (cwV 2 hts (p1_gV m_8 m_9 m_10 m_11 g_r_pullIt gz_r_pullIt) rfl rfl rfl (by decide +kernel) ⟨by decide, by decide⟩) (va_recv hK hP53 (ci := 8) (q0 := 0) rfl rfl) zm_r_pullIt rfl hl.1 rfl (Nat.le_of_ble_eq_true rfl) dX9_stepIt_100 ⟨by decide, by decide⟩ (fun r_54 H55 lo55 hG55 hS55 => ?_)
      obtain ⟨o_56, o_57, o_58, o_59, ho_60, hf_61, hQ55⟩ := hG55
      have hP55 : va_P (dC, dI) vwCl (zW_r_stepIt p0 o_56 p0_bLong c_p0_bLong o_57 p0_bTight c_p0_bTight o_58 p0_code c_p0_code b_p0_code p0_codeNumber c_p0_codeNumber b_p0_codeNumber p0_laws c_p0_laws b_p0_laws p0_pile c_p0_pile o_59 p0_rFrom c_p0_rFrom b_p0_rFrom p0_rTo c_p0_rTo b_p0_rTo p0_steps c_p0_steps b_p0_steps p0_strikes c_p0_strikes b_p0_strikes p0_swings c_p0_swings b_p0_swings p0_walks c_p0_walks b_p0_walks) H55 := hQ55
      clear hQ55 hP53 hS53
      exact q_iret hx hb hr hlocks hS55 dX9_stepIt_103 ⟨o_56, o_57, o_58, o_59, ho_60, (((q_fr.rf.st efs38 (by decide)).st efs53 (by decide)).tr hf_61 (by decide)), hP55, za_r_stepIt⟩
def zo_r_tieIt : List Cond := [.code yX9_tieIt cX9_tieIt 6 none, .fieldLink RX9 393 "BowWalkModel" "bSides" "I", .fieldLink RX9 396 "BowWalkModel" "bMany" "I", .fieldLink RX9 399 "BowWalkModel" "bAll" "I", .fieldLink RX9 74 "BowWalkModel" "smooth" "[I", .fieldLink RX9 291 "BowWalkModel" "bank" "I", .fieldLink RX9 370 "BowWalkModel" "bSmooth" "I", .fieldLink RX9 77 "BowWalkModel" "weight" "[I", .fieldLink RX9 373 "BowWalkModel" "bWeight" "I", .fieldLink RX9 122 "BowWalkModel" "bLong" "[I", .fieldLink RX9 119 "BowWalkModel" "bTight" "[I", .fieldLink RX9 36 "BowWalkModel" "tight" "[I"]
def zw_r_tieIt : List Cond := zo_r_tieIt ++ (wsX90 ++ [])
theorem gz_r_tieIt : zw_r_tieIt.all goodWord = true := p1_ga (by decide +kernel) (p1_ga gk_X9 p1_g0)
theorem iz_r_tieIt : ∀ w ∈ zw_r_tieIt, w ∈ lw_tbl := p1_ia (p1_all [1453, 1088, 1089, 1090, 1065, 1080, 1091, 1066, 1092, 1087, 1086, 1053] (by decide +kernel)) (p1_ia ik_X9 p1_i0)
def zW_r_tieIt (p0 : Nat) (f_p0 : List Value) (p0_bLong : Nat) (c_p0_bLong : ClassId) (b_p0_bLong : Nat → Int32) (p0_bTight : Nat) (c_p0_bTight : ClassId) (b_p0_bTight : Nat → Int32) (p0_smooth : Nat) (c_p0_smooth : ClassId) (b_p0_smooth : Nat → Int32) (p0_tight : Nat) (c_p0_tight : ClassId) (b_p0_tight : Nat → Int32) (p0_weight : Nat) (c_p0_weight : ClassId) (b_p0_weight : Nat → Int32) : va_W := [(p0, .inr (8, f_p0)), (p0_bLong, .inl (c_p0_bLong, 2, .inl b_p0_bLong)), (p0_bTight, .inl (c_p0_bTight, 12, .inl b_p0_bTight)), (p0_smooth, .inl (c_p0_smooth, 8, .inl b_p0_smooth)), (p0_tight, .inl (c_p0_tight, 2, .inl b_p0_tight)), (p0_weight, .inl (c_p0_weight, 8, .inl b_p0_weight))]
def zT_r_tieIt (c_p0_bLong : ClassId) (c_p0_bTight : ClassId) (c_p0_smooth : ClassId) (c_p0_tight : ClassId) (c_p0_weight : ClassId) : List (ClassId × FieldType) := [(c_p0_bLong, .int), (c_p0_bTight, .int), (c_p0_smooth, .int), (c_p0_tight, .int), (c_p0_weight, .int)]
def zA_r_tieIt (p0 : Nat) (p0_bLong : Nat) (p0_bTight : Nat) (p0_smooth : Nat) (p0_tight : Nat) (p0_weight : Nat) : List Nat := [p0, p0_bLong, p0_bTight, p0_smooth, p0_tight, p0_weight]
theorem za_r_tieIt {p0 : Nat} {f_p0 : List Value} {p0_bLong : Nat} {c_p0_bLong : ClassId} {b_p0_bLong : Nat → Int32} {p0_bTight : Nat} {c_p0_bTight : ClassId} {b_p0_bTight : Nat → Int32} {p0_smooth : Nat} {c_p0_smooth : ClassId} {b_p0_smooth : Nat → Int32} {p0_tight : Nat} {c_p0_tight : ClassId} {b_p0_tight : Nat → Int32} {p0_weight : Nat} {c_p0_weight : ClassId} {b_p0_weight : Nat → Int32} : (zW_r_tieIt p0 f_p0 p0_bLong c_p0_bLong b_p0_bLong p0_bTight c_p0_bTight b_p0_bTight p0_smooth c_p0_smooth b_p0_smooth p0_tight c_p0_tight b_p0_tight p0_weight c_p0_weight b_p0_weight).map Prod.fst = (zA_r_tieIt p0 p0_bLong p0_bTight p0_smooth p0_tight p0_weight) := rfl
def zG_r_tieIt (p0 : Nat) (f_p0 : List Value) (p0_bLong : Nat) (c_p0_bLong : ClassId) (b_p0_bLong : Nat → Int32) (p0_bTight : Nat) (c_p0_bTight : ClassId) (b_p0_bTight : Nat → Int32) (p0_smooth : Nat) (c_p0_smooth : ClassId) (b_p0_smooth : Nat → Int32) (p0_tight : Nat) (c_p0_tight : ClassId) (b_p0_tight : Nat → Int32) (p0_weight : Nat) (c_p0_weight : ClassId) (b_p0_weight : Nat → Int32) (a1 : Int32) (a2 : Int32) (a3 : Int32) (a4 : Int32) (bk : Int32) (X : va_W → Prop) : Prop := ∃ (y_p0 : List Value) (y_p0_bLong : Nat → Int32) (y_p0_bTight : Nat → Int32), OKX9 y_p0 ∧ q_fr [51, 52, 53, 54, 55] f_p0 y_p0 ∧ X (zW_r_tieIt p0 y_p0 p0_bLong c_p0_bLong y_p0_bLong p0_bTight c_p0_bTight y_p0_bTight p0_smooth c_p0_smooth b_p0_smooth p0_tight c_p0_tight b_p0_tight p0_weight c_p0_weight b_p0_weight)
theorem zm_r_tieIt {p0 : Nat} {f_p0 : List Value} {p0_bLong : Nat} {c_p0_bLong : ClassId} {b_p0_bLong : Nat → Int32} {p0_bTight : Nat} {c_p0_bTight : ClassId} {b_p0_bTight : Nat → Int32} {p0_smooth : Nat} {c_p0_smooth : ClassId} {b_p0_smooth : Nat → Int32} {p0_tight : Nat} {c_p0_tight : ClassId} {b_p0_tight : Nat → Int32} {p0_weight : Nat} {c_p0_weight : ClassId} {b_p0_weight : Nat → Int32} {a1 : Int32} {a2 : Int32} {a3 : Int32} {a4 : Int32} {bk : Int32} : ∀ X Y : va_W → Prop, (∀ w, X w → Y w) → zG_r_tieIt p0 f_p0 p0_bLong c_p0_bLong b_p0_bLong p0_bTight c_p0_bTight b_p0_bTight p0_smooth c_p0_smooth b_p0_smooth p0_tight c_p0_tight b_p0_tight p0_weight c_p0_weight b_p0_weight a1 a2 a3 a4 bk X → zG_r_tieIt p0 f_p0 p0_bLong c_p0_bLong b_p0_bLong p0_bTight c_p0_bTight b_p0_bTight p0_smooth c_p0_smooth b_p0_smooth p0_tight c_p0_tight b_p0_tight p0_weight c_p0_weight b_p0_weight a1 a2 a3 a4 bk Y := fun X Y h h1 => by obtain ⟨x0, x1, x2, x3, x4, hx⟩ := h1; exact ⟨x0, x1, x2, x3, x4, h _ hx⟩
set_option maxHeartbeats 4000000 in
set_option maxRecDepth 100000 in
theorem r_tieIt (l : Launch) (dC : Nat → ClassId) (dI : Nat → Nat → Nat) (sz : Nat) (p0 : Nat) (f_p0 : List Value) (p0_bLong : Nat) (c_p0_bLong : ClassId) (b_p0_bLong : Nat → Int32) (p0_bTight : Nat) (c_p0_bTight : ClassId) (b_p0_bTight : Nat → Int32) (p0_smooth : Nat) (c_p0_smooth : ClassId) (b_p0_smooth : Nat → Int32) (p0_tight : Nat) (c_p0_tight : ClassId) (b_p0_tight : Nat → Int32) (p0_weight : Nat) (c_p0_weight : ClassId) (b_p0_weight : Nat → Int32) (a1 : Int32) (a2 : Int32) (a3 : Int32) (a4 : Int32) (bk : Int32) (ho_p0 : OKX9 f_p0) (fr_p0_16 : q_rf f_p0 16 p0_tight) (fr_p0_28 : q_rf f_p0 28 p0_smooth) (fr_p0_29 : q_rf f_p0 29 p0_weight) (fr_p0_49 : q_rf f_p0 49 p0_bTight) (fr_p0_50 : q_rf f_p0 50 p0_bLong) (pf_bk : q_if f_p0 43 bk) (ta2 : (0) ≤ a2.toInt ∧ a2.toInt ≤ 12) (ta3 : (0) ≤ a3.toInt ∧ a3.toInt ≤ 3) : Met l yX9_tieIt zw_r_tieIt ({ frames := 0, cells := 0, slots := 0, locals := 0 }) (va_Pc [.ref p0, .int a1, .int a2, .int a3, .int a4] (q_pre (dC, dI) (zW_r_tieIt p0 f_p0 p0_bLong c_p0_bLong b_p0_bLong p0_bTight c_p0_bTight b_p0_bTight p0_smooth c_p0_smooth b_p0_smooth p0_tight c_p0_tight b_p0_tight p0_weight c_p0_weight b_p0_weight) (zT_r_tieIt c_p0_bLong c_p0_bTight c_p0_smooth c_p0_tight c_p0_weight) q_E0 sz)) (q_Qv (dC, dI) (zG_r_tieIt p0 f_p0 p0_bLong c_p0_bLong b_p0_bLong p0_bTight c_p0_bTight b_p0_bTight p0_smooth c_p0_smooth b_p0_smooth p0_tight c_p0_tight b_p0_tight p0_weight c_p0_weight b_p0_weight a1 a2 a3 a4 bk) (zA_r_tieIt p0 p0_bLong p0_bTight p0_smooth p0_tight p0_weight) (va_A (zW_r_tieIt p0 f_p0 p0_bLong c_p0_bLong b_p0_bLong p0_bTight c_p0_bTight b_p0_bTight p0_smooth c_p0_smooth b_p0_smooth p0_tight c_p0_tight b_p0_tight p0_weight c_p0_weight b_p0_weight) sz)) 0 0 (va_A (zW_r_tieIt p0 f_p0 p0_bLong c_p0_bLong b_p0_bLong p0_bTight c_p0_bTight b_p0_bTight p0_smooth c_p0_smooth b_p0_smooth p0_tight c_p0_tight b_p0_tight p0_weight c_p0_weight b_p0_weight) sz) := by
  refine Met.ofW (cc := cX9_tieIt) (maxL := 6) (ret := none) (by decide) rfl ?_
  intro p e s m args below meth c s₁ B hml hv
  obtain ⟨rfl, hsz, hP, hK, hD0, hE⟩ := hv
  have hx := B.exec
  have hb := B.bytes
  have hr := B.returns
  have hts := atoms_spec (ws := zw_r_tieIt) B.pre
  have hown : s.vm.findClass RX9 = some m.cls := findClass_of_methodNamed B.named
  have hlocks := B.notSynchronized
  subst hsz
  have hD := hD0.self (sz := s.heap.size)
  generalize hAe : va_A (zW_r_tieIt p0 f_p0 p0_bLong c_p0_bLong b_p0_bLong p0_bTight c_p0_bTight b_p0_bTight p0_smooth c_p0_smooth b_p0_smooth p0_tight c_p0_tight b_p0_tight p0_weight c_p0_weight b_p0_weight) s.heap.size = A at hD hE ⊢
  have hA : ∀ q : Nat, s.heap.size ≤ q → A q := fun q h => by rw [← hAe]; exact Or.inr h
  have hDa : q_DA A (zA_r_tieIt p0 p0_bLong p0_bTight p0_smooth p0_tight p0_weight) := q_DA.mk hD za_r_tieIt
  clear hAe hD0 hD
  have hS : va_S A s.heap s.heap [] := va_S.rf
  have m_0 : (.fieldLink RX9 393 "BowWalkModel" "bSides" "I" : Cond) ∈ zw_r_tieIt := List.mem_append_left _ (List.mem_of_getElem? (i := 1) rfl)
  have k_0 := hts _ m_0
  have m_1 : (.fieldLink RX9 396 "BowWalkModel" "bMany" "I" : Cond) ∈ zw_r_tieIt := List.mem_append_left _ (List.mem_of_getElem? (i := 2) rfl)
  have k_1 := hts _ m_1
  have m_2 : (.fieldLink RX9 399 "BowWalkModel" "bAll" "I" : Cond) ∈ zw_r_tieIt := List.mem_append_left _ (List.mem_of_getElem? (i := 3) rfl)
  have k_2 := hts _ m_2
  have m_3 : (.fieldLink RX9 74 "BowWalkModel" "smooth" "[I" : Cond) ∈ zw_r_tieIt := List.mem_append_left _ (List.mem_of_getElem? (i := 4) rfl)
  have k_3 := hts _ m_3
  have m_4 : (.fieldLink RX9 291 "BowWalkModel" "bank" "I" : Cond) ∈ zw_r_tieIt := List.mem_append_left _ (List.mem_of_getElem? (i := 5) rfl)
  have k_4 := hts _ m_4
  have m_5 : (.fieldLink RX9 370 "BowWalkModel" "bSmooth" "I" : Cond) ∈ zw_r_tieIt := List.mem_append_left _ (List.mem_of_getElem? (i := 6) rfl)
  have k_5 := hts _ m_5
  have m_6 : (.fieldLink RX9 77 "BowWalkModel" "weight" "[I" : Cond) ∈ zw_r_tieIt := List.mem_append_left _ (List.mem_of_getElem? (i := 7) rfl)
  have k_6 := hts _ m_6
  have m_7 : (.fieldLink RX9 373 "BowWalkModel" "bWeight" "I" : Cond) ∈ zw_r_tieIt := List.mem_append_left _ (List.mem_of_getElem? (i := 8) rfl)
  have k_7 := hts _ m_7
  have m_8 : (.fieldLink RX9 122 "BowWalkModel" "bLong" "[I" : Cond) ∈ zw_r_tieIt := List.mem_append_left _ (List.mem_of_getElem? (i := 9) rfl)
  have k_8 := hts _ m_8
  have m_9 : (.fieldLink RX9 119 "BowWalkModel" "bTight" "[I" : Cond) ∈ zw_r_tieIt := List.mem_append_left _ (List.mem_of_getElem? (i := 10) rfl)
  have k_9 := hts _ m_9
  have m_10 : (.fieldLink RX9 36 "BowWalkModel" "tight" "[I" : Cond) ∈ zw_r_tieIt := List.mem_append_left _ (List.mem_of_getElem? (i := 11) rfl)
  have k_10 := hts _ m_10
  have i_X9 : ∀ w ∈ u_ws RX9 TX9 81, w ∈ zw_r_tieIt := fun w h => List.mem_append_right _ (List.mem_append_left _ h)
  have lt_0 : (0 : Int32).toInt = 0 := by decide
  have lt_1 : (1 : Int32).toInt = 1 := by decide
  have lt_4 : (4 : Int32).toInt = 4 := by decide
  have lt_12 : (12 : Int32).toInt = 12 := by decide
  have hl := lv_entry ([.ref p0, .int a1, .int a2, .int a3, .int a4]) (n := 6) (Nat.le_of_ble_eq_true rfl)
  rw [lg_entry_eq]
  generalize (lg_sl ([.ref p0, .int a1, .int a2, .int a3, .int a4]) ++ List.replicate (6 - (lg_sl ([.ref p0, .int a1, .int a2, .int a3, .int a4])).length) Slot.unset).toArray = ls at hl ⊢
  have hl : lv_has ls 6 [(0, .ref p0), (1, .int a1), (2, .int a2), (3, .int a3), (4, .int a4)] := hl
  have tbk := (OKX9_g43 ho_p0).use pf_bk
  refine lv_aload_n hx hb dX9_tieIt_0 rfl (lv_at hl 0 rfl) (lv_iload_n hx hb dX9_tieIt_1 rfl (lv_at hl 1 rfl) (qp_X9_51 hx hb hts i_X9 hown hK hP hDa za_r_tieIt hS 0 rfl k_0 (OKX9_l ho_p0) dX9_tieIt_2 (fun H1 lo1 fs1 efs1 (hP1 : va_P (dC, dI) vwCl (zW_r_tieIt p0 fs1 p0_bLong c_p0_bLong b_p0_bLong p0_bTight c_p0_bTight b_p0_bTight p0_smooth c_p0_smooth b_p0_smooth p0_tight c_p0_tight b_p0_tight p0_weight c_p0_weight b_p0_weight) H1) hS1 => ?_)))
  have ho1 := OKX9_p51 ho_p0 efs1
  clear hP hS
  refine lv_aload_n hx hb dX9_tieIt_5 rfl (lv_at hl 0 rfl) (lv_iload_n hx hb dX9_tieIt_6 rfl (lv_at hl 2 rfl) (qp_X9_52 hx hb hts i_X9 hown hK hP1 hDa za_r_tieIt hS1 0 rfl k_1 (OKX9_l ho1) dX9_tieIt_7 (fun H2 lo2 fs2 efs2 (hP2 : va_P (dC, dI) vwCl (zW_r_tieIt p0 fs2 p0_bLong c_p0_bLong b_p0_bLong p0_bTight c_p0_bTight b_p0_bTight p0_smooth c_p0_smooth b_p0_smooth p0_tight c_p0_tight b_p0_tight p0_weight c_p0_weight b_p0_weight) H2) hS2 => ?_)))
  have ho2 := OKX9_p52 ho1 efs2 ⟨by omega, by omega⟩
  clear hP1 hS1
  refine lv_aload_n hx hb dX9_tieIt_10 rfl (lv_at hl 0 rfl) (lv_iload_n hx hb dX9_tieIt_11 rfl (lv_at hl 2 rfl) (qp_X9_53 hx hb hts i_X9 hown hK hP2 hDa za_r_tieIt hS2 0 rfl k_2 (OKX9_l ho2) dX9_tieIt_12 (fun H3 lo3 fs3 efs3 (hP3 : va_P (dC, dI) vwCl (zW_r_tieIt p0 fs3 p0_bLong c_p0_bLong b_p0_bLong p0_bTight c_p0_bTight b_p0_bTight p0_smooth c_p0_smooth b_p0_smooth p0_tight c_p0_tight b_p0_tight p0_weight c_p0_weight b_p0_weight) H3) hS3 => ?_)))
  have ho3 := OKX9_p53 ho2 efs3 ⟨by omega, by omega⟩
  clear hP2 hS2
  refine lv_aload_n hx hb dX9_tieIt_15 rfl (lv_at hl 0 rfl) (lv_aload_n hx hb dX9_tieIt_16 rfl (lv_at hl 0 rfl) (qg_X9_28 hx hb hts i_X9 hown hK hP3 0 rfl k_3 (q_sn efs3 (by decide) (q_sn efs2 (by decide) (q_sn efs1 (by decide) fr_p0_28))) dX9_tieIt_17 (lv_iconst (v := 4) hx hb dX9_tieIt_20 (by decide) (lv_aload_n hx hb dX9_tieIt_21 rfl (lv_at hl 0 rfl) (qg_X9_43 hx hb hts i_X9 hown hK hP3 0 rfl k_4 (q_sn efs3 (by decide) (q_sn efs2 (by decide) (q_sn efs1 (by decide) pf_bk))) dX9_tieIt_22 (lv_imul hx hb dX9_tieIt_25 (lv_topi fun v_4 ev_4 => ?_)))))))
  have tv_4 := q_mulc (c := 4) ev_4 (by decide) (by omega) (by omega)
  refine lv_iload_n hx hb dX9_tieIt_26 rfl (lv_at hl 3 rfl) (lv_iadd hx hb dX9_tieIt_27 (lv_topi fun v_5 ev_5 => ?_))
  have tv_5 := q_add ev_5 (by omega) (by omega)
  refine q_ild hx hb hK hP3 3 2 rfl rfl (q_in (by omega) (by omega)) dX9_tieIt_28 (fun v_6 ev_6 => ?_)
  refine qp_X9_54 hx hb hts i_X9 hown hK hP3 hDa za_r_tieIt hS3 0 rfl k_5 (OKX9_l ho3) dX9_tieIt_29 (fun H7 lo7 fs7 efs7 (hP7 : va_P (dC, dI) vwCl (zW_r_tieIt p0 fs7 p0_bLong c_p0_bLong b_p0_bLong p0_bTight c_p0_bTight b_p0_bTight p0_smooth c_p0_smooth b_p0_smooth p0_tight c_p0_tight b_p0_tight p0_weight c_p0_weight b_p0_weight) H7) hS7 => ?_)
  have ho7 := OKX9_p54 ho3 efs7
  clear hP3 hS3
  refine lv_aload_n hx hb dX9_tieIt_32 rfl (lv_at hl 0 rfl) (lv_aload_n hx hb dX9_tieIt_33 rfl (lv_at hl 0 rfl) (qg_X9_29 hx hb hts i_X9 hown hK hP7 0 rfl k_6 (q_sn efs7 (by decide) (q_sn efs3 (by decide) (q_sn efs2 (by decide) (q_sn efs1 (by decide) fr_p0_29)))) dX9_tieIt_34 (lv_iconst (v := 4) hx hb dX9_tieIt_37 (by decide) (lv_aload_n hx hb dX9_tieIt_38 rfl (lv_at hl 0 rfl) (qg_X9_43 hx hb hts i_X9 hown hK hP7 0 rfl k_4 (q_sn efs7 (by decide) (q_sn efs3 (by decide) (q_sn efs2 (by decide) (q_sn efs1 (by decide) pf_bk)))) dX9_tieIt_39 (lv_imul hx hb dX9_tieIt_42 (lv_topi fun v_8 ev_8 => ?_)))))))
  have tv_8 := q_mulc (c := 4) ev_8 (by decide) (by omega) (by omega)
  refine lv_iload_n hx hb dX9_tieIt_43 rfl (lv_at hl 3 rfl) (lv_iadd hx hb dX9_tieIt_44 (lv_topi fun v_9 ev_9 => ?_))
  have tv_9 := q_add ev_9 (by omega) (by omega)
  refine q_ild hx hb hK hP7 5 4 rfl rfl (q_in (by omega) (by omega)) dX9_tieIt_45 (fun v_10 ev_10 => ?_)
  refine qp_X9_55 hx hb hts i_X9 hown hK hP7 hDa za_r_tieIt hS7 0 rfl k_7 (OKX9_l ho7) dX9_tieIt_46 (fun H11 lo11 fs11 efs11 (hP11 : va_P (dC, dI) vwCl (zW_r_tieIt p0 fs11 p0_bLong c_p0_bLong b_p0_bLong p0_bTight c_p0_bTight b_p0_bTight p0_smooth c_p0_smooth b_p0_smooth p0_tight c_p0_tight b_p0_tight p0_weight c_p0_weight b_p0_weight) H11) hS11 => ?_)
  have ho11 := OKX9_p55 ho7 efs11
  clear hP7 hS7
  refine lv_aload_n hx hb dX9_tieIt_49 rfl (lv_at hl 0 rfl) (qg_X9_50 hx hb hts i_X9 hown hK hP11 0 rfl k_8 (q_sn efs11 (by decide) (q_sn efs7 (by decide) (q_sn efs3 (by decide) (q_sn efs2 (by decide) (q_sn efs1 (by decide) fr_p0_50))))) dX9_tieIt_50 (lv_iconst (v := 0) hx hb dX9_tieIt_53 (by decide) (lv_iload hx hb dX9_tieIt_54 (lv_at hl 4 rfl) (q_ist hx hb hK hP11 hDa za_r_tieIt hS11 1 0 rfl rfl (p1_in (i := 0) (n := 2) (by decide)) dX9_tieIt_56 (fun H12 lo12 g12 eg12 (hP12 : va_P (dC, dI) vwCl (zW_r_tieIt p0 fs11 p0_bLong c_p0_bLong g12 p0_bTight c_p0_bTight b_p0_bTight p0_smooth c_p0_smooth b_p0_smooth p0_tight c_p0_tight b_p0_tight p0_weight c_p0_weight b_p0_weight) H12) hS12 => ?_)))))
  clear hP11 hS11
  refine lv_aload_n hx hb dX9_tieIt_57 rfl (lv_at hl 0 rfl) (qg_X9_50 hx hb hts i_X9 hown hK hP12 0 rfl k_8 (q_sn efs11 (by decide) (q_sn efs7 (by decide) (q_sn efs3 (by decide) (q_sn efs2 (by decide) (q_sn efs1 (by decide) fr_p0_50))))) dX9_tieIt_58 (lv_iconst (v := 1) hx hb dX9_tieIt_61 (by decide) (lv_iload hx hb dX9_tieIt_62 (lv_at hl 4 rfl) (q_ist hx hb hK hP12 hDa za_r_tieIt hS12 1 0 rfl rfl (p1_in (i := 1) (n := 2) (by decide)) dX9_tieIt_64 (fun H13 lo13 g13 eg13 (hP13 : va_P (dC, dI) vwCl (zW_r_tieIt p0 fs11 p0_bLong c_p0_bLong g13 p0_bTight c_p0_bTight b_p0_bTight p0_smooth c_p0_smooth b_p0_smooth p0_tight c_p0_tight b_p0_tight p0_weight c_p0_weight b_p0_weight) H13) hS13 => ?_)))))
  clear hP12 hS12
  refine lv_iconst (v := 0) hx hb dX9_tieIt_65 (by decide) (lv_istore (lv' := [(5, .int 0), (0, .ref p0), (1, .int a1), (2, .int a2), (3, .int a3), (4, .int a4)]) hx hb dX9_tieIt_66 hl (by decide) rfl (fun ls hl => ?_))
  have key68 : ∀ (fu68 : Nat) (i : Int32) (bz_p0_bTight : Nat → Int32) (H : Heap) (locs : List Loc) (ls : Array Slot) (hfu68 : 12 - i.toInt ≤ (fu68 : Int)) (ti : (0) ≤ i.toInt ∧ i.toInt ≤ 12), va_P (dC, dI) vwCl (zW_r_tieIt p0 fs11 p0_bLong c_p0_bLong g13 p0_bTight c_p0_bTight bz_p0_bTight p0_smooth c_p0_smooth b_p0_smooth p0_tight c_p0_tight b_p0_tight p0_weight c_p0_weight b_p0_weight) H → va_S A s.heap H locs → lv_has ls 6 [(5, .int i), (0, .ref p0), (1, .int a1), (2, .int a2), (3, .int a3), (4, .int a4)] → W p l e (headSpec zw_r_tieIt { frames := 0, cells := 0, slots := 0, locals := 0 }).room s m ([.ref p0, .int a1, .int a2, .int a3, .int a4] : List Value).toArray below meth c H locs 0 0 (MQ below (q_Qv (dC, dI) (zG_r_tieIt p0 f_p0 p0_bLong c_p0_bLong b_p0_bLong p0_bTight c_p0_bTight b_p0_bTight p0_smooth c_p0_smooth b_p0_smooth p0_tight c_p0_tight b_p0_tight p0_weight c_p0_weight b_p0_weight a1 a2 a3 a4 bk) (zA_r_tieIt p0 p0_bLong p0_bTight p0_smooth p0_tight p0_weight) A) ([.ref p0, .int a1, .int a2, .int a3, .int a4] : List Value).toArray s 0 0 A) (F0 m 68 ls []) := by
    intro fu68
    induction fu68 using Nat.strongRecOn with
    | ind fu68 ih68 =>
      intro i bz_p0_bTight H14 lo14 ls hfu68 ti hP14 hS14 hl
      refine lv_iload hx hb dX9_tieIt_68 (lv_at hl 0 rfl) (lv_bipush (v := 12) hx hb dX9_tieIt_70 (by decide) ?_)
      refine lv_icmp_ge (tgt := 107) hx hb dX9_tieIt_72 (by decide) (fun c_15 => ?_) (fun c_15 => ?_)
      · have tc_15 := q_ge c_15
        exact q_vret hx hb hr hlocks hS14 dX9_tieIt_107 ⟨fs11, g13, bz_p0_bTight, ho11, (((((q_fr.rf.st efs1 (by decide)).st efs2 (by decide)).st efs3 (by decide)).st efs7 (by decide)).st efs11 (by decide)), hP14, za_r_tieIt⟩
      · have tc_15 := q_ltN c_15
        refine lv_aload_n hx hb dX9_tieIt_75 rfl (lv_at hl 1 rfl) (qg_X9_49 hx hb hts i_X9 hown hK hP14 0 rfl k_9 (q_sn efs11 (by decide) (q_sn efs7 (by decide) (q_sn efs3 (by decide) (q_sn efs2 (by decide) (q_sn efs1 (by decide) fr_p0_49))))) dX9_tieIt_76 (lv_iload hx hb dX9_tieIt_79 (lv_at hl 0 rfl) (lv_iload hx hb dX9_tieIt_81 (lv_at hl 0 rfl) (lv_iload_n hx hb dX9_tieIt_83 rfl (lv_at hl 3 rfl) ?_))))
        refine lv_icmp_ge (tgt := 99) hx hb dX9_tieIt_84 (by decide) (fun c_16 => ?_) (fun c_16 => ?_)
        · have tc_16 := q_ge c_16
          refine lv_iconst (v := 0) hx hb dX9_tieIt_99 (by decide) (q_ist hx hb hK hP14 hDa za_r_tieIt hS14 2 1 rfl rfl (q_in (by omega) (by omega)) dX9_tieIt_100 (fun H17 lo17 g17 eg17 (hP17 : va_P (dC, dI) vwCl (zW_r_tieIt p0 fs11 p0_bLong c_p0_bLong g13 p0_bTight c_p0_bTight g17 p0_smooth c_p0_smooth b_p0_smooth p0_tight c_p0_tight b_p0_tight p0_weight c_p0_weight b_p0_weight) H17) hS17 => ?_))
          clear hP14 hS14
          obtain ⟨v_18, ev_18⟩ : ∃ y : Int32, y = i + 1 := ⟨_, rfl⟩
          have tv_18 := q_add ev_18 (by omega) (by omega)
          refine lv_iinc (v := v_18) (lv' := [(5, .int v_18), (0, .ref p0), (1, .int a1), (2, .int a2), (3, .int a3), (4, .int a4)]) hx hb dX9_tieIt_101 hl (k := 0) rfl (by rw [ev_18]; rfl) (by decide) rfl (fun ls hl => ?_)
          refine lv_goto (tgt := 68) hx hb dX9_tieIt_104 (by decide) ?_
          exact ih68 (fu68 - 1) (by omega) v_18 g17 _ _ _ (by omega) (by omega) hP17 hS17 (lv_sub hl [0, 1, 2, 3, 4, 5] rfl)
        · have tc_16 := q_ltN c_16
          refine lv_aload_n hx hb dX9_tieIt_87 rfl (lv_at hl 1 rfl) (qg_X9_16 hx hb hts i_X9 hown hK hP14 0 rfl k_10 (q_sn efs11 (by decide) (q_sn efs7 (by decide) (q_sn efs3 (by decide) (q_sn efs2 (by decide) (q_sn efs1 (by decide) fr_p0_16))))) dX9_tieIt_88 (lv_aload_n hx hb dX9_tieIt_91 rfl (lv_at hl 1 rfl) (qg_X9_43 hx hb hts i_X9 hown hK hP14 0 rfl k_4 (q_sn efs11 (by decide) (q_sn efs7 (by decide) (q_sn efs3 (by decide) (q_sn efs2 (by decide) (q_sn efs1 (by decide) pf_bk))))) dX9_tieIt_92 (q_ild hx hb hK hP14 4 3 rfl rfl (q_in (by omega) (by omega)) dX9_tieIt_95 (fun v_19 ev_19 => ?_)))))
          refine lv_goto (tgt := 100) hx hb dX9_tieIt_96 (by decide) (q_ist hx hb hK hP14 hDa za_r_tieIt hS14 2 1 rfl rfl (q_in (by omega) (by omega)) dX9_tieIt_100 (fun H20 lo20 g20 eg20 (hP20 : va_P (dC, dI) vwCl (zW_r_tieIt p0 fs11 p0_bLong c_p0_bLong g13 p0_bTight c_p0_bTight g20 p0_smooth c_p0_smooth b_p0_smooth p0_tight c_p0_tight b_p0_tight p0_weight c_p0_weight b_p0_weight) H20) hS20 => ?_))
          clear hP14 hS14
          obtain ⟨v_21, ev_21⟩ : ∃ y : Int32, y = i + 1 := ⟨_, rfl⟩
          have tv_21 := q_add ev_21 (by omega) (by omega)
          refine lv_iinc (v := v_21) (lv' := [(5, .int v_21), (0, .ref p0), (1, .int a1), (2, .int a2), (3, .int a3), (4, .int a4)]) hx hb dX9_tieIt_101 hl (k := 0) rfl (by rw [ev_21]; rfl) (by decide) rfl (fun ls hl => ?_)
          refine lv_goto (tgt := 68) hx hb dX9_tieIt_104 (by decide) ?_
          exact ih68 (fu68 - 1) (by omega) v_21 g20 _ _ _ (by omega) (by omega) hP20 hS20 (lv_sub hl [0, 1, 2, 3, 4, 5] rfl)
  exact key68 12 0 b_p0_bTight _ _ _ (by omega) (by omega) hP13 hS13 (lv_sub hl [0, 1, 2, 3, 4, 5] rfl)
def zo_r_tieKnot : List Cond := [.code yX9_tieKnot cX9_tieKnot 3 none, .fieldLink RX9 68 "BowWalkModel" "sides" "[I", .fieldLink RX9 291 "BowWalkModel" "bank" "I", .fieldLink RX9 71 "BowWalkModel" "crossings" "[I", .fieldLink RX9 80 "BowWalkModel" "longOf" "[I", .methodLink RX9 402 yX9_tieIt, .instanceMethod yX9_tieIt, .selects RX9 yX9_tieIt yX9_tieIt, .initialized RX9]
def zw_r_tieKnot : List Cond := zo_r_tieKnot ++ (zw_r_tieIt ++ (wsX90 ++ []))
theorem gz_r_tieKnot : zw_r_tieKnot.all goodWord = true := p1_ga (by decide +kernel) (p1_ga gz_r_tieIt (p1_ga gk_X9 p1_g0))
theorem iz_r_tieKnot : ∀ w ∈ zw_r_tieKnot, w ∈ lw_tbl := p1_ia (p1_all [1449, 1063, 1080, 1064, 1067, 1450, 1452, 74, 116] (by decide +kernel)) (p1_ia iz_r_tieIt (p1_ia ik_X9 p1_i0))
def zW_r_tieKnot (p0 : Nat) (f_p0 : List Value) (p0_bLong : Nat) (c_p0_bLong : ClassId) (b_p0_bLong : Nat → Int32) (p0_bTight : Nat) (c_p0_bTight : ClassId) (b_p0_bTight : Nat → Int32) (p0_crossings : Nat) (c_p0_crossings : ClassId) (b_p0_crossings : Nat → Int32) (p0_longOf : Nat) (c_p0_longOf : ClassId) (b_p0_longOf : Nat → Int32) (p0_sides : Nat) (c_p0_sides : ClassId) (b_p0_sides : Nat → Int32) (p0_smooth : Nat) (c_p0_smooth : ClassId) (b_p0_smooth : Nat → Int32) (p0_tight : Nat) (c_p0_tight : ClassId) (b_p0_tight : Nat → Int32) (p0_weight : Nat) (c_p0_weight : ClassId) (b_p0_weight : Nat → Int32) : va_W := [(p0, .inr (8, f_p0)), (p0_bLong, .inl (c_p0_bLong, 2, .inl b_p0_bLong)), (p0_bTight, .inl (c_p0_bTight, 12, .inl b_p0_bTight)), (p0_crossings, .inl (c_p0_crossings, 12, .inl b_p0_crossings)), (p0_longOf, .inl (c_p0_longOf, 8, .inl b_p0_longOf)), (p0_sides, .inl (c_p0_sides, 12, .inl b_p0_sides)), (p0_smooth, .inl (c_p0_smooth, 8, .inl b_p0_smooth)), (p0_tight, .inl (c_p0_tight, 2, .inl b_p0_tight)), (p0_weight, .inl (c_p0_weight, 8, .inl b_p0_weight))]
def zT_r_tieKnot (c_p0_bLong : ClassId) (c_p0_bTight : ClassId) (c_p0_crossings : ClassId) (c_p0_longOf : ClassId) (c_p0_sides : ClassId) (c_p0_smooth : ClassId) (c_p0_tight : ClassId) (c_p0_weight : ClassId) : List (ClassId × FieldType) := [(c_p0_bLong, .int), (c_p0_bTight, .int), (c_p0_crossings, .int), (c_p0_longOf, .int), (c_p0_sides, .int), (c_p0_smooth, .int), (c_p0_tight, .int), (c_p0_weight, .int)]
def zA_r_tieKnot (p0 : Nat) (p0_bLong : Nat) (p0_bTight : Nat) (p0_crossings : Nat) (p0_longOf : Nat) (p0_sides : Nat) (p0_smooth : Nat) (p0_tight : Nat) (p0_weight : Nat) : List Nat := [p0, p0_bLong, p0_bTight, p0_crossings, p0_longOf, p0_sides, p0_smooth, p0_tight, p0_weight]
theorem za_r_tieKnot {p0 : Nat} {f_p0 : List Value} {p0_bLong : Nat} {c_p0_bLong : ClassId} {b_p0_bLong : Nat → Int32} {p0_bTight : Nat} {c_p0_bTight : ClassId} {b_p0_bTight : Nat → Int32} {p0_crossings : Nat} {c_p0_crossings : ClassId} {b_p0_crossings : Nat → Int32} {p0_longOf : Nat} {c_p0_longOf : ClassId} {b_p0_longOf : Nat → Int32} {p0_sides : Nat} {c_p0_sides : ClassId} {b_p0_sides : Nat → Int32} {p0_smooth : Nat} {c_p0_smooth : ClassId} {b_p0_smooth : Nat → Int32} {p0_tight : Nat} {c_p0_tight : ClassId} {b_p0_tight : Nat → Int32} {p0_weight : Nat} {c_p0_weight : ClassId} {b_p0_weight : Nat → Int32} : (zW_r_tieKnot p0 f_p0 p0_bLong c_p0_bLong b_p0_bLong p0_bTight c_p0_bTight b_p0_bTight p0_crossings c_p0_crossings b_p0_crossings p0_longOf c_p0_longOf b_p0_longOf p0_sides c_p0_sides b_p0_sides p0_smooth c_p0_smooth b_p0_smooth p0_tight c_p0_tight b_p0_tight p0_weight c_p0_weight b_p0_weight).map Prod.fst = (zA_r_tieKnot p0 p0_bLong p0_bTight p0_crossings p0_longOf p0_sides p0_smooth p0_tight p0_weight) := rfl
def zG_r_tieKnot (p0 : Nat) (f_p0 : List Value) (p0_bLong : Nat) (c_p0_bLong : ClassId) (b_p0_bLong : Nat → Int32) (p0_bTight : Nat) (c_p0_bTight : ClassId) (b_p0_bTight : Nat → Int32) (p0_crossings : Nat) (c_p0_crossings : ClassId) (b_p0_crossings : Nat → Int32) (p0_longOf : Nat) (c_p0_longOf : ClassId) (b_p0_longOf : Nat → Int32) (p0_sides : Nat) (c_p0_sides : ClassId) (b_p0_sides : Nat → Int32) (p0_smooth : Nat) (c_p0_smooth : ClassId) (b_p0_smooth : Nat → Int32) (p0_tight : Nat) (c_p0_tight : ClassId) (b_p0_tight : Nat → Int32) (p0_weight : Nat) (c_p0_weight : ClassId) (b_p0_weight : Nat → Int32) (a1 : Int32) (a2 : Int32) (bk : Int32) (X : va_W → Prop) : Prop := ∃ (y_p0 : List Value) (y_p0_bLong : Nat → Int32) (y_p0_bTight : Nat → Int32), OKX9 y_p0 ∧ q_fr [51, 52, 53, 54, 55] f_p0 y_p0 ∧ X (zW_r_tieKnot p0 y_p0 p0_bLong c_p0_bLong y_p0_bLong p0_bTight c_p0_bTight y_p0_bTight p0_crossings c_p0_crossings b_p0_crossings p0_longOf c_p0_longOf b_p0_longOf p0_sides c_p0_sides b_p0_sides p0_smooth c_p0_smooth b_p0_smooth p0_tight c_p0_tight b_p0_tight p0_weight c_p0_weight b_p0_weight)
theorem zm_r_tieKnot {p0 : Nat} {f_p0 : List Value} {p0_bLong : Nat} {c_p0_bLong : ClassId} {b_p0_bLong : Nat → Int32} {p0_bTight : Nat} {c_p0_bTight : ClassId} {b_p0_bTight : Nat → Int32} {p0_crossings : Nat} {c_p0_crossings : ClassId} {b_p0_crossings : Nat → Int32} {p0_longOf : Nat} {c_p0_longOf : ClassId} {b_p0_longOf : Nat → Int32} {p0_sides : Nat} {c_p0_sides : ClassId} {b_p0_sides : Nat → Int32} {p0_smooth : Nat} {c_p0_smooth : ClassId} {b_p0_smooth : Nat → Int32} {p0_tight : Nat} {c_p0_tight : ClassId} {b_p0_tight : Nat → Int32} {p0_weight : Nat} {c_p0_weight : ClassId} {b_p0_weight : Nat → Int32} {a1 : Int32} {a2 : Int32} {bk : Int32} : ∀ X Y : va_W → Prop, (∀ w, X w → Y w) → zG_r_tieKnot p0 f_p0 p0_bLong c_p0_bLong b_p0_bLong p0_bTight c_p0_bTight b_p0_bTight p0_crossings c_p0_crossings b_p0_crossings p0_longOf c_p0_longOf b_p0_longOf p0_sides c_p0_sides b_p0_sides p0_smooth c_p0_smooth b_p0_smooth p0_tight c_p0_tight b_p0_tight p0_weight c_p0_weight b_p0_weight a1 a2 bk X → zG_r_tieKnot p0 f_p0 p0_bLong c_p0_bLong b_p0_bLong p0_bTight c_p0_bTight b_p0_bTight p0_crossings c_p0_crossings b_p0_crossings p0_longOf c_p0_longOf b_p0_longOf p0_sides c_p0_sides b_p0_sides p0_smooth c_p0_smooth b_p0_smooth p0_tight c_p0_tight b_p0_tight p0_weight c_p0_weight b_p0_weight a1 a2 bk Y := fun X Y h h1 => by obtain ⟨x0, x1, x2, x3, x4, hx⟩ := h1; exact ⟨x0, x1, x2, x3, x4, h _ hx⟩
set_option maxHeartbeats 4000000 in
set_option maxRecDepth 100000 in
theorem r_tieKnot (l : Launch) (dC : Nat → ClassId) (dI : Nat → Nat → Nat) (sz : Nat) (p0 : Nat) (f_p0 : List Value) (p0_bLong : Nat) (c_p0_bLong : ClassId) (b_p0_bLong : Nat → Int32) (p0_bTight : Nat) (c_p0_bTight : ClassId) (b_p0_bTight : Nat → Int32) (p0_crossings : Nat) (c_p0_crossings : ClassId) (b_p0_crossings : Nat → Int32) (p0_longOf : Nat) (c_p0_longOf : ClassId) (b_p0_longOf : Nat → Int32) (p0_sides : Nat) (c_p0_sides : ClassId) (b_p0_sides : Nat → Int32) (p0_smooth : Nat) (c_p0_smooth : ClassId) (b_p0_smooth : Nat → Int32) (p0_tight : Nat) (c_p0_tight : ClassId) (b_p0_tight : Nat → Int32) (p0_weight : Nat) (c_p0_weight : ClassId) (b_p0_weight : Nat → Int32) (a1 : Int32) (a2 : Int32) (bk : Int32) (ho_p0 : OKX9 f_p0) (fr_p0_16 : q_rf f_p0 16 p0_tight) (fr_p0_26 : q_rf f_p0 26 p0_sides) (fr_p0_27 : q_rf f_p0 27 p0_crossings) (fr_p0_28 : q_rf f_p0 28 p0_smooth) (fr_p0_29 : q_rf f_p0 29 p0_weight) (fr_p0_30 : q_rf f_p0 30 p0_longOf) (fr_p0_49 : q_rf f_p0 49 p0_bTight) (fr_p0_50 : q_rf f_p0 50 p0_bLong) (hr_p0_crossings : q_rg 12 (0) 12 b_p0_crossings) (pf_bk : q_if f_p0 43 bk) (ta1 : (0) ≤ a1.toInt ∧ a1.toInt ≤ 5) (ta2 : (0) ≤ a2.toInt ∧ a2.toInt ≤ 3) : Met l yX9_tieKnot zw_r_tieKnot ({ frames := 1, cells := 0, slots := 0, locals := 25 }) (va_Pc [.ref p0, .int a1, .int a2] (q_pre (dC, dI) (zW_r_tieKnot p0 f_p0 p0_bLong c_p0_bLong b_p0_bLong p0_bTight c_p0_bTight b_p0_bTight p0_crossings c_p0_crossings b_p0_crossings p0_longOf c_p0_longOf b_p0_longOf p0_sides c_p0_sides b_p0_sides p0_smooth c_p0_smooth b_p0_smooth p0_tight c_p0_tight b_p0_tight p0_weight c_p0_weight b_p0_weight) (zT_r_tieKnot c_p0_bLong c_p0_bTight c_p0_crossings c_p0_longOf c_p0_sides c_p0_smooth c_p0_tight c_p0_weight) q_E0 sz)) (q_Qv (dC, dI) (zG_r_tieKnot p0 f_p0 p0_bLong c_p0_bLong b_p0_bLong p0_bTight c_p0_bTight b_p0_bTight p0_crossings c_p0_crossings b_p0_crossings p0_longOf c_p0_longOf b_p0_longOf p0_sides c_p0_sides b_p0_sides p0_smooth c_p0_smooth b_p0_smooth p0_tight c_p0_tight b_p0_tight p0_weight c_p0_weight b_p0_weight a1 a2 bk) (zA_r_tieKnot p0 p0_bLong p0_bTight p0_crossings p0_longOf p0_sides p0_smooth p0_tight p0_weight) (va_A (zW_r_tieKnot p0 f_p0 p0_bLong c_p0_bLong b_p0_bLong p0_bTight c_p0_bTight b_p0_bTight p0_crossings c_p0_crossings b_p0_crossings p0_longOf c_p0_longOf b_p0_longOf p0_sides c_p0_sides b_p0_sides p0_smooth c_p0_smooth b_p0_smooth p0_tight c_p0_tight b_p0_tight p0_weight c_p0_weight b_p0_weight) sz)) 0 0 (va_A (zW_r_tieKnot p0 f_p0 p0_bLong c_p0_bLong b_p0_bLong p0_bTight c_p0_bTight b_p0_bTight p0_crossings c_p0_crossings b_p0_crossings p0_longOf c_p0_longOf b_p0_longOf p0_sides c_p0_sides b_p0_sides p0_smooth c_p0_smooth b_p0_smooth p0_tight c_p0_tight b_p0_tight p0_weight c_p0_weight b_p0_weight) sz) := by
  refine Met.ofW (cc := cX9_tieKnot) (maxL := 3) (ret := none) (by decide) rfl ?_
  intro p e s m args below meth c s₁ B hml hv
  obtain ⟨rfl, hsz, hP, hK, hD0, hE⟩ := hv
  have hx := B.exec
  have hb := B.bytes
  have hr := B.returns
  have hts := atoms_spec (ws := zw_r_tieKnot) B.pre
  have hown : s.vm.findClass RX9 = some m.cls := findClass_of_methodNamed B.named
  have hlocks := B.notSynchronized
  subst hsz
  have hD := hD0.self (sz := s.heap.size)
  generalize hAe : va_A (zW_r_tieKnot p0 f_p0 p0_bLong c_p0_bLong b_p0_bLong p0_bTight c_p0_bTight b_p0_bTight p0_crossings c_p0_crossings b_p0_crossings p0_longOf c_p0_longOf b_p0_longOf p0_sides c_p0_sides b_p0_sides p0_smooth c_p0_smooth b_p0_smooth p0_tight c_p0_tight b_p0_tight p0_weight c_p0_weight b_p0_weight) s.heap.size = A at hD hE ⊢
  have hA : ∀ q : Nat, s.heap.size ≤ q → A q := fun q h => by rw [← hAe]; exact Or.inr h
  have hDa : q_DA A (zA_r_tieKnot p0 p0_bLong p0_bTight p0_crossings p0_longOf p0_sides p0_smooth p0_tight p0_weight) := q_DA.mk hD za_r_tieKnot
  clear hAe hD0 hD
  have hS : va_S A s.heap s.heap [] := va_S.rf
  have m_0 : (.fieldLink RX9 68 "BowWalkModel" "sides" "[I" : Cond) ∈ zw_r_tieKnot := List.mem_append_left _ (List.mem_of_getElem? (i := 1) rfl)
  have k_0 := hts _ m_0
  have m_1 : (.fieldLink RX9 291 "BowWalkModel" "bank" "I" : Cond) ∈ zw_r_tieKnot := List.mem_append_left _ (List.mem_of_getElem? (i := 2) rfl)
  have k_1 := hts _ m_1
  have m_2 : (.fieldLink RX9 71 "BowWalkModel" "crossings" "[I" : Cond) ∈ zw_r_tieKnot := List.mem_append_left _ (List.mem_of_getElem? (i := 3) rfl)
  have k_2 := hts _ m_2
  have m_3 : (.fieldLink RX9 80 "BowWalkModel" "longOf" "[I" : Cond) ∈ zw_r_tieKnot := List.mem_append_left _ (List.mem_of_getElem? (i := 4) rfl)
  have k_3 := hts _ m_3
  have m_4 : (.methodLink RX9 402 yX9_tieIt : Cond) ∈ zw_r_tieKnot := List.mem_append_left _ (List.mem_of_getElem? (i := 5) rfl)
  have k_4 := hts _ m_4
  have m_5 : (.instanceMethod yX9_tieIt : Cond) ∈ zw_r_tieKnot := List.mem_append_left _ (List.mem_of_getElem? (i := 6) rfl)
  have k_5 := hts _ m_5
  have m_6 : (.selects RX9 yX9_tieIt yX9_tieIt : Cond) ∈ zw_r_tieKnot := List.mem_append_left _ (List.mem_of_getElem? (i := 7) rfl)
  have k_6 := hts _ m_6
  have m_7 : (.initialized RX9 : Cond) ∈ zw_r_tieKnot := List.mem_append_left _ (List.mem_of_getElem? (i := 8) rfl)
  have k_7 := hts _ m_7
  have g_r_tieIt : ∀ w ∈ zw_r_tieIt, w ∈ zw_r_tieKnot := fun w h => List.mem_append_right _ (List.mem_append_left _ h)
  have i_X9 : ∀ w ∈ u_ws RX9 TX9 81, w ∈ zw_r_tieKnot := fun w h => List.mem_append_right _ (List.mem_append_right _ (List.mem_append_left _ h))
  have lt_4 : (4 : Int32).toInt = 4 := by decide
  have lt_6 : (6 : Int32).toInt = 6 := by decide
  have hl := lv_entry ([.ref p0, .int a1, .int a2]) (n := 3) (Nat.le_of_ble_eq_true rfl)
  rw [lg_entry_eq]
  generalize (lg_sl ([.ref p0, .int a1, .int a2]) ++ List.replicate (3 - (lg_sl ([.ref p0, .int a1, .int a2])).length) Slot.unset).toArray = ls at hl ⊢
  have hl : lv_has ls 3 [(0, .ref p0), (1, .int a1), (2, .int a2)] := hl
  have tbk := (OKX9_g43 ho_p0).use pf_bk
  refine lv_aload_n hx hb dX9_tieKnot_0 rfl (lv_at hl 0 rfl) (lv_aload_n hx hb dX9_tieKnot_1 rfl (lv_at hl 0 rfl) (qg_X9_26 hx hb hts i_X9 hown hK hP 0 rfl k_0 fr_p0_26 dX9_tieKnot_2 (lv_bipush (v := 6) hx hb dX9_tieKnot_5 (by decide) (lv_aload_n hx hb dX9_tieKnot_7 rfl (lv_at hl 0 rfl) (qg_X9_43 hx hb hts i_X9 hown hK hP 0 rfl k_1 pf_bk dX9_tieKnot_8 (lv_imul hx hb dX9_tieKnot_11 (lv_topi fun v_1 ev_1 => ?_)))))))
  have tv_1 := q_mulc (c := 6) ev_1 (by decide) (by omega) (by omega)
  refine lv_iload_n hx hb dX9_tieKnot_12 rfl (lv_at hl 1 rfl) (lv_iadd hx hb dX9_tieKnot_13 (lv_topi fun v_2 ev_2 => ?_))
  have tv_2 := q_add ev_2 (by omega) (by omega)
  refine q_ild hx hb hK hP 5 4 rfl rfl (q_in (by omega) (by omega)) dX9_tieKnot_14 (fun v_3 ev_3 => ?_)
  refine lv_aload_n hx hb dX9_tieKnot_15 rfl (lv_at hl 0 rfl) (qg_X9_27 hx hb hts i_X9 hown hK hP 0 rfl k_2 fr_p0_27 dX9_tieKnot_16 (lv_bipush (v := 6) hx hb dX9_tieKnot_19 (by decide) (lv_aload_n hx hb dX9_tieKnot_21 rfl (lv_at hl 0 rfl) (qg_X9_43 hx hb hts i_X9 hown hK hP 0 rfl k_1 pf_bk dX9_tieKnot_22 (lv_imul hx hb dX9_tieKnot_25 (lv_topi fun v_4 ev_4 => ?_))))))
  have tv_4 := q_mulc (c := 6) ev_4 (by decide) (by omega) (by omega)
  refine lv_iload_n hx hb dX9_tieKnot_26 rfl (lv_at hl 1 rfl) (lv_iadd hx hb dX9_tieKnot_27 (lv_topi fun v_5 ev_5 => ?_))
  have tv_5 := q_add ev_5 (by omega) (by omega)
  refine q_ild hx hb hK hP 3 2 rfl rfl (q_in (by omega) (by omega)) dX9_tieKnot_28 (fun v_6 ev_6 => ?_)
  have tv_6 := q_rd' hr_p0_crossings (q_in (by omega) (by omega)) ev_6
  refine lv_iload_n hx hb dX9_tieKnot_29 rfl (lv_at hl 2 rfl) (lv_aload_n hx hb dX9_tieKnot_30 rfl (lv_at hl 0 rfl) (qg_X9_30 hx hb hts i_X9 hown hK hP 0 rfl k_3 fr_p0_30 dX9_tieKnot_31 (lv_iconst (v := 4) hx hb dX9_tieKnot_34 (by decide) (lv_aload_n hx hb dX9_tieKnot_35 rfl (lv_at hl 0 rfl) (qg_X9_43 hx hb hts i_X9 hown hK hP 0 rfl k_1 pf_bk dX9_tieKnot_36 (lv_imul hx hb dX9_tieKnot_39 (lv_topi fun v_7 ev_7 => ?_)))))))
  have tv_7 := q_mulc (c := 4) ev_7 (by decide) (by omega) (by omega)
  refine lv_iload_n hx hb dX9_tieKnot_40 rfl (lv_at hl 2 rfl) (lv_iadd hx hb dX9_tieKnot_41 (lv_topi fun v_8 ev_8 => ?_))
  have tv_8 := q_add ev_8 (by omega) (by omega)
  refine q_ild hx hb hK hP 4 3 rfl rfl (q_in (by omega) (by omega)) dX9_tieKnot_42 (fun v_9 ev_9 => ?_)
  refine q_cVv (As := [.int v_3, .int v_6, .int a2, .int v_9]) (rest := []) q_w0 trivial hK hP hDa za_r_tieKnot hS hA [0, 1, 2, 6, 7, 8] [0, 1, 5, 6, 7] (by decide +kernel) ⟨hx, hb, hml, hown, hts⟩ (r_tieIt l dC dI s.heap.size p0 f_p0 p0_bLong c_p0_bLong b_p0_bLong p0_bTight c_p0_bTight b_p0_bTight p0_smooth c_p0_smooth b_p0_smooth p0_tight c_p0_tight b_p0_tight p0_weight c_p0_weight b_p0_weight v_3 v_6 a2 v_9 bk ho_p0 fr_p0_16 fr_p0_28 fr_p0_29 fr_p0_49 fr_p0_50 pf_bk ((by omega)) ((by omega))) rfl rfl (cwV 4 hts (p1_gV m_4 m_5 m_6 m_7 g_r_tieIt gz_r_tieIt) rfl rfl rfl (by decide +kernel) ⟨by decide, by decide⟩) (va_recv hK hP (ci := 8) (q0 := 0) rfl rfl) zm_r_tieIt rfl hl.1 rfl (Nat.le_of_ble_eq_true rfl) dX9_tieKnot_43 ⟨by decide, by decide⟩ (fun H11 lo11 hG11 hS11 => ?_)
  obtain ⟨o_12, o_13, o_14, ho_15, hf_16, hQ11⟩ := hG11
  have hP11 : va_P (dC, dI) vwCl (zW_r_tieKnot p0 o_12 p0_bLong c_p0_bLong o_13 p0_bTight c_p0_bTight o_14 p0_crossings c_p0_crossings b_p0_crossings p0_longOf c_p0_longOf b_p0_longOf p0_sides c_p0_sides b_p0_sides p0_smooth c_p0_smooth b_p0_smooth p0_tight c_p0_tight b_p0_tight p0_weight c_p0_weight b_p0_weight) H11 := hQ11
  clear hQ11 hP hS
  exact q_vret hx hb hr hlocks hS11 dX9_tieKnot_46 ⟨o_12, o_13, o_14, ho_15, (q_fr.rf.tr hf_16 (by decide)), hP11, za_r_tieKnot⟩
def zo_r_draw : List Cond := [.code yX9_draw cX9_draw 2 (some .int), .fieldLink RX9 125 "BowWalkModel" "w" "I", .constant RX9 430 (1103515245)]
def zw_r_draw : List Cond := zo_r_draw ++ (wsX90 ++ [])
theorem gz_r_draw : zw_r_draw.all goodWord = true := p1_ga (by decide +kernel) (p1_ga gk_X9 p1_g0)
theorem iz_r_draw : ∀ w ∈ zw_r_draw, w ∈ lw_tbl := p1_ia (p1_all [1470, 1102, 1471] (by decide +kernel)) (p1_ia ik_X9 p1_i0)
def zW_r_draw (p0 : Nat) (f_p0 : List Value) : va_W := [(p0, .inr (8, f_p0))]
def zT_r_draw : List (ClassId × FieldType) := []
def zA_r_draw (p0 : Nat) : List Nat := [p0]
theorem za_r_draw {p0 : Nat} {f_p0 : List Value} : (zW_r_draw p0 f_p0).map Prod.fst = (zA_r_draw p0) := rfl
def zG_r_draw (p0 : Nat) (f_p0 : List Value) (a1 : Int32) (r : Int32) (X : va_W → Prop) : Prop := ∃ (y_p0 : List Value), OKX9 y_p0 ∧ q_fr [65] f_p0 y_p0 ∧ X (zW_r_draw p0 y_p0)
theorem zm_r_draw {p0 : Nat} {f_p0 : List Value} {a1 : Int32} : ∀ (r : Int32), ∀ X Y : va_W → Prop, (∀ w, X w → Y w) → zG_r_draw p0 f_p0 a1 r X → zG_r_draw p0 f_p0 a1 r Y := fun r X Y h h1 => by obtain ⟨x0, x1, x2, hx⟩ := h1; exact ⟨x0, x1, x2, h _ hx⟩
set_option maxHeartbeats 4000000 in
set_option maxRecDepth 100000 in
theorem r_draw (l : Launch) (dC : Nat → ClassId) (dI : Nat → Nat → Nat) (sz : Nat) (p0 : Nat) (f_p0 : List Value) (a1 : Int32) (ho_p0 : OKX9 f_p0) (ta1 : (1) ≤ a1.toInt ∧ a1.toInt ≤ 99) : Met l yX9_draw zw_r_draw ({ frames := 0, cells := 0, slots := 0, locals := 0 }) (va_Pc [.ref p0, .int a1] (q_pre (dC, dI) (zW_r_draw p0 f_p0) (zT_r_draw) q_E0 sz)) (q_Qi (dC, dI) (zG_r_draw p0 f_p0 a1) (zA_r_draw p0) (va_A (zW_r_draw p0 f_p0) sz)) 0 0 (va_A (zW_r_draw p0 f_p0) sz) := by
  refine Met.ofW (cc := cX9_draw) (maxL := 2) (ret := (some .int)) (by decide) rfl ?_
  intro p e s m args below meth c s₁ B hml hv
  obtain ⟨rfl, hsz, hP, hK, hD0, hE⟩ := hv
  have hx := B.exec
  have hb := B.bytes
  have hr := B.returns
  have hts := atoms_spec (ws := zw_r_draw) B.pre
  have hown : s.vm.findClass RX9 = some m.cls := findClass_of_methodNamed B.named
  have hlocks := B.notSynchronized
  subst hsz
  have hD := hD0.self (sz := s.heap.size)
  generalize hAe : va_A (zW_r_draw p0 f_p0) s.heap.size = A at hD hE ⊢
  have hA : ∀ q : Nat, s.heap.size ≤ q → A q := fun q h => by rw [← hAe]; exact Or.inr h
  have hDa : q_DA A (zA_r_draw p0) := q_DA.mk hD za_r_draw
  clear hAe hD0 hD
  have hS : va_S A s.heap s.heap [] := va_S.rf
  have m_0 : (.fieldLink RX9 125 "BowWalkModel" "w" "I" : Cond) ∈ zw_r_draw := List.mem_append_left _ (List.mem_of_getElem? (i := 1) rfl)
  have k_0 := hts _ m_0
  have m_1 : (.constant RX9 430 (1103515245) : Cond) ∈ zw_r_draw := List.mem_append_left _ (List.mem_of_getElem? (i := 2) rfl)
  have k_1 := hts _ m_1
  have i_X9 : ∀ w ∈ u_ws RX9 TX9 81, w ∈ zw_r_draw := fun w h => List.mem_append_right _ (List.mem_append_left _ h)
  have lt_12345 : (12345 : Int32).toInt = 12345 := by decide
  have lt_1103515245 : (1103515245 : Int32).toInt = 1103515245 := by decide
  have hl := lv_entry ([.ref p0, .int a1]) (n := 2) (Nat.le_of_ble_eq_true rfl)
  rw [lg_entry_eq]
  generalize (lg_sl ([.ref p0, .int a1]) ++ List.replicate (2 - (lg_sl ([.ref p0, .int a1])).length) Slot.unset).toArray = ls at hl ⊢
  have hl : lv_has ls 2 [(0, .ref p0), (1, .int a1)] := hl
  refine lv_aload_n hx hb dX9_draw_0 rfl (lv_at hl 0 rfl) (lv_aload_n hx hb dX9_draw_1 rfl (lv_at hl 0 rfl) ?_)
  obtain ⟨v_1, fv_1⟩ := OKX9_g65 ho_p0
  refine qg_X9_65 hx hb hts i_X9 hown hK hP 0 rfl k_0 fv_1 dX9_draw_2 (lv_ldcw (v := 1103515245) hx hb hown k_1 dX9_draw_5 (lv_imul hx hb dX9_draw_8 (lv_topi fun v_2 ev_2 => lv_sipush (v := 12345) hx hb dX9_draw_9 (by decide) (lv_iadd hx hb dX9_draw_12 (lv_topi fun v_3 ev_3 => qp_X9_65 hx hb hts i_X9 hown hK hP hDa za_r_draw hS 0 rfl k_0 (OKX9_l ho_p0) dX9_draw_13 (fun H4 lo4 fs4 efs4 (hP4 : va_P (dC, dI) vwCl (zW_r_draw p0 fs4) H4) hS4 => ?_))))))
  have ho4 := OKX9_p65 ho_p0 efs4
  clear hP hS
  refine lv_aload_n hx hb dX9_draw_16 rfl (lv_at hl 0 rfl) (qg_X9_65 hx hb hts i_X9 hown hK hP4 0 rfl k_0 (q_sa efs4 (OKX9_l ho_p0) (by decide)) dX9_draw_17 (lv_bipush (v := 16) hx hb dX9_draw_20 (by decide) (lv_iushr hx hb dX9_draw_22 rfl (lv_topi fun v_5 ev_5 => lv_iload_n hx hb dX9_draw_23 rfl (lv_at hl 1 rfl) (lv_irem hx hb dX9_draw_24 (q_n0 (by omega)) (lv_topi fun v_6 ev_6 => ?_))))))
  exact q_iret hx hb hr hlocks hS4 dX9_draw_25 ⟨fs4, ho4, (q_fr.rf.st efs4 (by decide)), hP4, za_r_draw⟩
