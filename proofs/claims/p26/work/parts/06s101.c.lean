def zo_r_rankHere : List Cond := [.code yX9_rankHere cX9_rankHere 1 (some .int), .constantLong RX9 208 (6385252), .methodLink RX9 268 yX9_isWord, .instanceMethod yX9_isWord, .selects RX9 yX9_isWord yX9_isWord, .initialized RX9, .constantLong RX9 206 (28530), .methodLink RX9 322 yX9_is, .instanceMethod yX9_is, .selects RX9 yX9_is yX9_is]
def zw_r_rankHere : List Cond := zo_r_rankHere ++ (zw_r_isWord ++ (zw_r_is ++ []))
theorem gz_r_rankHere : zw_r_rankHere.all goodWord = true := p1_ga (by decide +kernel) (p1_ga gz_r_isWord (p1_ga gz_r_is p1_g0))
theorem iz_r_rankHere : ∀ w ∈ zw_r_rankHere, w ∈ lw_tbl := p1_ia (p1_all [1418, 1315, 1339, 1341, 49, 116, 1314, 1399, 1401, 64] (by decide +kernel)) (p1_ia iz_r_isWord (p1_ia iz_r_is p1_i0))
def zW_r_rankHere (p0 : Nat) (f_p0 : List Value) (p0_text : Nat) (c_p0_text : ClassId) (b_p0_text : Nat → Int32) : va_W := [(p0, .inr (8, f_p0)), (p0_text, .inl (c_p0_text, 1600, .inl b_p0_text))]
def zT_r_rankHere (c_p0_text : ClassId) : List (ClassId × FieldType) := [(c_p0_text, .byte)]
def zA_r_rankHere (p0 : Nat) (p0_text : Nat) : List Nat := [p0, p0_text]
theorem za_r_rankHere {p0 : Nat} {f_p0 : List Value} {p0_text : Nat} {c_p0_text : ClassId} {b_p0_text : Nat → Int32} : (zW_r_rankHere p0 f_p0 p0_text c_p0_text b_p0_text).map Prod.fst = (zA_r_rankHere p0 p0_text) := rfl
def zG_r_rankHere (p0 : Nat) (f_p0 : List Value) (p0_text : Nat) (c_p0_text : ClassId) (b_p0_text : Nat → Int32) (tk : Int32) (at0 : Int32) (siz : Int32) (r : Int32) (X : va_W → Prop) : Prop := (0 ≤ r.toInt ∧ r.toInt ≤ 6 ∧ q_rk r (q_sgn b_p0_text siz at0)) ∧ X (zW_r_rankHere p0 f_p0 p0_text c_p0_text b_p0_text)
theorem zm_r_rankHere {p0 : Nat} {f_p0 : List Value} {p0_text : Nat} {c_p0_text : ClassId} {b_p0_text : Nat → Int32} {tk : Int32} {at0 : Int32} {siz : Int32} : ∀ (r : Int32), ∀ X Y : va_W → Prop, (∀ w, X w → Y w) → zG_r_rankHere p0 f_p0 p0_text c_p0_text b_p0_text tk at0 siz r X → zG_r_rankHere p0 f_p0 p0_text c_p0_text b_p0_text tk at0 siz r Y := fun r X Y h h1 => by obtain ⟨x0, hx⟩ := h1; exact ⟨x0, h _ hx⟩
set_option maxHeartbeats 4000000 in
set_option maxRecDepth 100000 in
theorem r_rankHere (l : Launch) (dC : Nat → ClassId) (dI : Nat → Nat → Nat) (sz : Nat) (p0 : Nat) (f_p0 : List Value) (p0_text : Nat) (c_p0_text : ClassId) (b_p0_text : Nat → Int32) (tk : Int32) (at0 : Int32) (siz : Int32) (ho_p0 : OKX9 f_p0) (fr_p0_1 : q_rf f_p0 1 p0_text) (pf_tk : q_if f_p0 8 tk) (pf_at0 : q_if f_p0 6 at0) (pf_siz : q_if f_p0 3 siz) : Met l yX9_rankHere zw_r_rankHere ({ frames := 2, cells := 0, slots := 0, locals := 42 }) (va_Pc [.ref p0] (q_pre (dC, dI) (zW_r_rankHere p0 f_p0 p0_text c_p0_text b_p0_text) (zT_r_rankHere c_p0_text) q_E0 sz)) (q_Qi (dC, dI) (zG_r_rankHere p0 f_p0 p0_text c_p0_text b_p0_text tk at0 siz) (zA_r_rankHere p0 p0_text) (va_A (zW_r_rankHere p0 f_p0 p0_text c_p0_text b_p0_text) sz)) 0 0 (va_A (zW_r_rankHere p0 f_p0 p0_text c_p0_text b_p0_text) sz) := by
  refine Met.ofW (cc := cX9_rankHere) (maxL := 1) (ret := (some .int)) (by decide) rfl ?_
  intro p e s m args below meth c s₁ B hml hv
  obtain ⟨rfl, hsz, hP, hK, hD0, hE⟩ := hv
  have hx := B.exec
  have hb := B.bytes
  have hr := B.returns
  have hts := atoms_spec (ws := zw_r_rankHere) B.pre
  have hown : s.vm.findClass RX9 = some m.cls := findClass_of_methodNamed B.named
  have hlocks := B.notSynchronized
  subst hsz
  have hD := hD0.self (sz := s.heap.size)
  generalize hAe : va_A (zW_r_rankHere p0 f_p0 p0_text c_p0_text b_p0_text) s.heap.size = A at hD hE ⊢
  have hA : ∀ q : Nat, s.heap.size ≤ q → A q := fun q h => by rw [← hAe]; exact Or.inr h
  have hDa : q_DA A (zA_r_rankHere p0 p0_text) := q_DA.mk hD za_r_rankHere
  clear hAe hD0 hD
  have hS : va_S A s.heap s.heap [] := va_S.rf
  have m_0 : (.constantLong RX9 208 (6385252) : Cond) ∈ zw_r_rankHere := List.mem_append_left _ (List.mem_of_getElem? (i := 1) rfl)
  have k_0 := hts _ m_0
  have m_1 : (.methodLink RX9 268 yX9_isWord : Cond) ∈ zw_r_rankHere := List.mem_append_left _ (List.mem_of_getElem? (i := 2) rfl)
  have k_1 := hts _ m_1
  have m_2 : (.instanceMethod yX9_isWord : Cond) ∈ zw_r_rankHere := List.mem_append_left _ (List.mem_of_getElem? (i := 3) rfl)
  have k_2 := hts _ m_2
  have m_3 : (.selects RX9 yX9_isWord yX9_isWord : Cond) ∈ zw_r_rankHere := List.mem_append_left _ (List.mem_of_getElem? (i := 4) rfl)
  have k_3 := hts _ m_3
  have m_4 : (.initialized RX9 : Cond) ∈ zw_r_rankHere := List.mem_append_left _ (List.mem_of_getElem? (i := 5) rfl)
  have k_4 := hts _ m_4
  have m_5 : (.constantLong RX9 206 (28530) : Cond) ∈ zw_r_rankHere := List.mem_append_left _ (List.mem_of_getElem? (i := 6) rfl)
  have k_5 := hts _ m_5
  have m_6 : (.methodLink RX9 322 yX9_is : Cond) ∈ zw_r_rankHere := List.mem_append_left _ (List.mem_of_getElem? (i := 7) rfl)
  have k_6 := hts _ m_6
  have m_7 : (.instanceMethod yX9_is : Cond) ∈ zw_r_rankHere := List.mem_append_left _ (List.mem_of_getElem? (i := 8) rfl)
  have k_7 := hts _ m_7
  have m_8 : (.selects RX9 yX9_is yX9_is : Cond) ∈ zw_r_rankHere := List.mem_append_left _ (List.mem_of_getElem? (i := 9) rfl)
  have k_8 := hts _ m_8
  have g_r_isWord : ∀ w ∈ zw_r_isWord, w ∈ zw_r_rankHere := fun w h => List.mem_append_right _ (List.mem_append_left _ h)
  have g_r_is : ∀ w ∈ zw_r_is, w ∈ zw_r_rankHere := fun w h => List.mem_append_right _ (List.mem_append_right _ (List.mem_append_left _ h))
  have lt_0 : (0 : Int32).toInt = 0 := by decide
  have lt_1 : (1 : Int32).toInt = 1 := by decide
  have lt_2 : (2 : Int32).toInt = 2 := by decide
  have lt_4 : (4 : Int32).toInt = 4 := by decide
  have lt_5 : (5 : Int32).toInt = 5 := by decide
  have lt_6 : (6 : Int32).toInt = 6 := by decide
  have lt_42 : (42 : Int32).toInt = 42 := by decide
  have lt_43 : (43 : Int32).toInt = 43 := by decide
  have lt_45 : (45 : Int32).toInt = 45 := by decide
  have lt_47 : (47 : Int32).toInt = 47 := by decide
  have lt_60 : (60 : Int32).toInt = 60 := by decide
  have lt_61 : (61 : Int32).toInt = 61 := by decide
  have lt_62 : (62 : Int32).toInt = 62 := by decide
  have hl := lv_entry ([.ref p0]) (n := 1) (Nat.le_of_ble_eq_true rfl)
  rw [lg_entry_eq]
  generalize (lg_sl ([.ref p0]) ++ List.replicate (1 - (lg_sl ([.ref p0])).length) Slot.unset).toArray = ls at hl ⊢
  have hl : lv_has ls 1 [(0, .ref p0)] := hl
  have ttk := (OKX9_g8 ho_p0).use pf_tk
  have tat0 := (OKX9_g6 ho_p0).use pf_at0
  have tsiz := (OKX9_g3 ho_p0).use pf_siz
  refine lv_aload_n hx hb dX9_rankHere_0 rfl (lv_at hl 0 rfl) (lv_ldc2 (v := 6385252) hx hb hown k_0 dX9_rankHere_1 ?_)
  obtain ⟨v_1, fv_1⟩ := OKX9_g10 ho_p0
  refine q_cVi (As := [.long 6385252]) (rest := []) q_w0 trivial hK hP hDa za_r_rankHere hS hA [0] [] (by decide +kernel) ⟨hx, hb, hml, hown, hts⟩ (r_isWord l dC dI s.heap.size p0 f_p0 6385252 tk v_1 ho_p0 pf_tk fv_1) rfl rfl (cwV 1 hts (p1_gV m_1 m_2 m_3 m_4 g_r_isWord gz_r_isWord) rfl rfl rfl (by decide +kernel) ⟨by decide, by decide⟩) (va_recv hK hP (ci := 8) (q0 := 0) rfl rfl) zm_r_isWord rfl hl.1 rfl (Nat.le_of_ble_eq_true rfl) dX9_rankHere_4 ⟨by decide, by decide⟩ (fun r_2 H3 lo3 hG3 hS3 => ?_)
  obtain ⟨z_4, hQ3⟩ := hG3
  have hP3 : va_P (dC, dI) vwCl (zW_r_rankHere p0 f_p0 p0_text c_p0_text b_p0_text) H3 := hQ3
  clear hQ3 hP hS
  rcases z_4 with ⟨rfl, z_4⟩ | ⟨rfl, z_4⟩
  · refine lv_if_eq (tgt := 12) hx hb dX9_rankHere_7 (by decide) (fun c_5 => absurd c_5 (by decide)) (fun c_5 => ?_)
    refine lv_iconst (v := 2) hx hb dX9_rankHere_10 (by decide) ?_
    exact q_iret hx hb hr hlocks hS3 dX9_rankHere_11 ⟨⟨by omega, by omega, Or.inr (Or.inr (Or.inl (by decide)))⟩, hP3, za_r_rankHere⟩
  · refine lv_if_eq (tgt := 12) hx hb dX9_rankHere_7 (by decide) (fun c_6 => ?_) (fun c_6 => absurd c_6 (by decide))
    refine lv_aload_n hx hb dX9_rankHere_12 rfl (lv_at hl 0 rfl) (lv_ldc2 (v := 28530) hx hb hown k_5 dX9_rankHere_13 ?_)
    refine q_cVi (As := [.long 28530]) (rest := []) q_w0 trivial hK hP3 hDa za_r_rankHere hS3 hA [0] [] (by decide +kernel) ⟨hx, hb, hml, hown, hts⟩ (r_isWord l dC dI H3.size p0 f_p0 28530 tk v_1 ho_p0 pf_tk fv_1) rfl rfl (cwV 1 hts (p1_gV m_1 m_2 m_3 m_4 g_r_isWord gz_r_isWord) rfl rfl rfl (by decide +kernel) ⟨by decide, by decide⟩) (va_recv hK hP3 (ci := 8) (q0 := 0) rfl rfl) zm_r_isWord rfl hl.1 rfl (Nat.le_of_ble_eq_true rfl) dX9_rankHere_16 ⟨by decide, by decide⟩ (fun r_7 H8 lo8 hG8 hS8 => ?_)
    obtain ⟨z_9, hQ8⟩ := hG8
    have hP8 : va_P (dC, dI) vwCl (zW_r_rankHere p0 f_p0 p0_text c_p0_text b_p0_text) H8 := hQ8
    clear hQ8 hP3 hS3
    rcases z_9 with ⟨rfl, z_9⟩ | ⟨rfl, z_9⟩
    · refine lv_if_eq (tgt := 24) hx hb dX9_rankHere_19 (by decide) (fun c_10 => absurd c_10 (by decide)) (fun c_10 => ?_)
      refine lv_iconst (v := 1) hx hb dX9_rankHere_22 (by decide) ?_
      exact q_iret hx hb hr hlocks hS8 dX9_rankHere_23 ⟨⟨by omega, by omega, Or.inr (Or.inl (by decide))⟩, hP8, za_r_rankHere⟩
    · refine lv_if_eq (tgt := 24) hx hb dX9_rankHere_19 (by decide) (fun c_11 => ?_) (fun c_11 => absurd c_11 (by decide))
      refine lv_aload_n hx hb dX9_rankHere_24 rfl (lv_at hl 0 rfl) (lv_bipush (v := 60) hx hb dX9_rankHere_25 (by decide) ?_)
      refine q_cVi (As := [.int 60]) (rest := []) q_w0 trivial hK hP8 hDa za_r_rankHere hS8 hA [0, 1] [0] (by decide +kernel) ⟨hx, hb, hml, hown, hts⟩ (r_is l dC dI H8.size p0 f_p0 p0_text c_p0_text b_p0_text 60 tk at0 siz ho_p0 fr_p0_1 pf_tk pf_at0 pf_siz) rfl rfl (cwV 1 hts (p1_gV m_6 m_7 m_8 m_4 g_r_is gz_r_is) rfl rfl rfl (by decide +kernel) ⟨by decide, by decide⟩) (va_recv hK hP8 (ci := 8) (q0 := 0) rfl rfl) zm_r_is rfl hl.1 rfl (Nat.le_of_ble_eq_true rfl) dX9_rankHere_27 ⟨by decide, by decide⟩ (fun r_12 H13 lo13 hG13 hS13 => ?_)
      obtain ⟨z_14, hQ13⟩ := hG13
      have hP13 : va_P (dC, dI) vwCl (zW_r_rankHere p0 f_p0 p0_text c_p0_text b_p0_text) H13 := hQ13
      clear hQ13 hP8 hS8
      rcases z_14 with ⟨rfl, z_14⟩ | ⟨rfl, z_14⟩
      · refine lv_if_ne (tgt := 51) hx hb dX9_rankHere_30 (by decide) (fun c_15 => ?_) (fun c_15 => absurd c_15 (by decide))
        refine lv_iconst (v := 4) hx hb dX9_rankHere_51 (by decide) ?_
        exact q_iret hx hb hr hlocks hS13 dX9_rankHere_52 ⟨⟨by omega, by omega, Or.inr (Or.inr (Or.inr ⟨by decide, by unfold q_ops; omega⟩))⟩, hP13, za_r_rankHere⟩
      · refine lv_if_ne (tgt := 51) hx hb dX9_rankHere_30 (by decide) (fun c_16 => absurd c_16 (by decide)) (fun c_16 => ?_)
        refine lv_aload_n hx hb dX9_rankHere_33 rfl (lv_at hl 0 rfl) (lv_bipush (v := 62) hx hb dX9_rankHere_34 (by decide) ?_)
        refine q_cVi (As := [.int 62]) (rest := []) q_w0 trivial hK hP13 hDa za_r_rankHere hS13 hA [0, 1] [0] (by decide +kernel) ⟨hx, hb, hml, hown, hts⟩ (r_is l dC dI H13.size p0 f_p0 p0_text c_p0_text b_p0_text 62 tk at0 siz ho_p0 fr_p0_1 pf_tk pf_at0 pf_siz) rfl rfl (cwV 1 hts (p1_gV m_6 m_7 m_8 m_4 g_r_is gz_r_is) rfl rfl rfl (by decide +kernel) ⟨by decide, by decide⟩) (va_recv hK hP13 (ci := 8) (q0 := 0) rfl rfl) zm_r_is rfl hl.1 rfl (Nat.le_of_ble_eq_true rfl) dX9_rankHere_36 ⟨by decide, by decide⟩ (fun r_17 H18 lo18 hG18 hS18 => ?_)
        obtain ⟨z_19, hQ18⟩ := hG18
        have hP18 : va_P (dC, dI) vwCl (zW_r_rankHere p0 f_p0 p0_text c_p0_text b_p0_text) H18 := hQ18
        clear hQ18 hP13 hS13
        rcases z_19 with ⟨rfl, z_19⟩ | ⟨rfl, z_19⟩
        · refine lv_if_ne (tgt := 51) hx hb dX9_rankHere_39 (by decide) (fun c_20 => ?_) (fun c_20 => absurd c_20 (by decide))
          refine lv_iconst (v := 4) hx hb dX9_rankHere_51 (by decide) ?_
          exact q_iret hx hb hr hlocks hS18 dX9_rankHere_52 ⟨⟨by omega, by omega, Or.inr (Or.inr (Or.inr ⟨by decide, by unfold q_ops; omega⟩))⟩, hP18, za_r_rankHere⟩
        · refine lv_if_ne (tgt := 51) hx hb dX9_rankHere_39 (by decide) (fun c_21 => absurd c_21 (by decide)) (fun c_21 => ?_)
          refine lv_aload_n hx hb dX9_rankHere_42 rfl (lv_at hl 0 rfl) (lv_bipush (v := 61) hx hb dX9_rankHere_43 (by decide) ?_)
          refine q_cVi (As := [.int 61]) (rest := []) q_w0 trivial hK hP18 hDa za_r_rankHere hS18 hA [0, 1] [0] (by decide +kernel) ⟨hx, hb, hml, hown, hts⟩ (r_is l dC dI H18.size p0 f_p0 p0_text c_p0_text b_p0_text 61 tk at0 siz ho_p0 fr_p0_1 pf_tk pf_at0 pf_siz) rfl rfl (cwV 1 hts (p1_gV m_6 m_7 m_8 m_4 g_r_is gz_r_is) rfl rfl rfl (by decide +kernel) ⟨by decide, by decide⟩) (va_recv hK hP18 (ci := 8) (q0 := 0) rfl rfl) zm_r_is rfl hl.1 rfl (Nat.le_of_ble_eq_true rfl) dX9_rankHere_45 ⟨by decide, by decide⟩ (fun r_22 H23 lo23 hG23 hS23 => ?_)
          obtain ⟨z_24, hQ23⟩ := hG23
          have hP23 : va_P (dC, dI) vwCl (zW_r_rankHere p0 f_p0 p0_text c_p0_text b_p0_text) H23 := hQ23
          clear hQ23 hP18 hS18
          rcases z_24 with ⟨rfl, z_24⟩ | ⟨rfl, z_24⟩
          · refine lv_if_eq (tgt := 53) hx hb dX9_rankHere_48 (by decide) (fun c_25 => absurd c_25 (by decide)) (fun c_25 => ?_)
            refine lv_iconst (v := 4) hx hb dX9_rankHere_51 (by decide) ?_
            exact q_iret hx hb hr hlocks hS23 dX9_rankHere_52 ⟨⟨by omega, by omega, Or.inr (Or.inr (Or.inr ⟨by decide, by unfold q_ops; omega⟩))⟩, hP23, za_r_rankHere⟩
          · refine lv_if_eq (tgt := 53) hx hb dX9_rankHere_48 (by decide) (fun c_26 => ?_) (fun c_26 => absurd c_26 (by decide))
            refine lv_aload_n hx hb dX9_rankHere_53 rfl (lv_at hl 0 rfl) (lv_bipush (v := 43) hx hb dX9_rankHere_54 (by decide) ?_)
            refine q_cVi (As := [.int 43]) (rest := []) q_w0 trivial hK hP23 hDa za_r_rankHere hS23 hA [0, 1] [0] (by decide +kernel) ⟨hx, hb, hml, hown, hts⟩ (r_is l dC dI H23.size p0 f_p0 p0_text c_p0_text b_p0_text 43 tk at0 siz ho_p0 fr_p0_1 pf_tk pf_at0 pf_siz) rfl rfl (cwV 1 hts (p1_gV m_6 m_7 m_8 m_4 g_r_is gz_r_is) rfl rfl rfl (by decide +kernel) ⟨by decide, by decide⟩) (va_recv hK hP23 (ci := 8) (q0 := 0) rfl rfl) zm_r_is rfl hl.1 rfl (Nat.le_of_ble_eq_true rfl) dX9_rankHere_56 ⟨by decide, by decide⟩ (fun r_27 H28 lo28 hG28 hS28 => ?_)
            obtain ⟨z_29, hQ28⟩ := hG28
            have hP28 : va_P (dC, dI) vwCl (zW_r_rankHere p0 f_p0 p0_text c_p0_text b_p0_text) H28 := hQ28
            clear hQ28 hP23 hS23
            rcases z_29 with ⟨rfl, z_29⟩ | ⟨rfl, z_29⟩
            · refine lv_if_ne (tgt := 71) hx hb dX9_rankHere_59 (by decide) (fun c_30 => ?_) (fun c_30 => absurd c_30 (by decide))
              refine lv_iconst (v := 5) hx hb dX9_rankHere_71 (by decide) ?_
              exact q_iret hx hb hr hlocks hS28 dX9_rankHere_72 ⟨⟨by omega, by omega, Or.inr (Or.inr (Or.inr ⟨by decide, by unfold q_ops; omega⟩))⟩, hP28, za_r_rankHere⟩
            · refine lv_if_ne (tgt := 71) hx hb dX9_rankHere_59 (by decide) (fun c_31 => absurd c_31 (by decide)) (fun c_31 => ?_)
              refine lv_aload_n hx hb dX9_rankHere_62 rfl (lv_at hl 0 rfl) (lv_bipush (v := 45) hx hb dX9_rankHere_63 (by decide) ?_)
              refine q_cVi (As := [.int 45]) (rest := []) q_w0 trivial hK hP28 hDa za_r_rankHere hS28 hA [0, 1] [0] (by decide +kernel) ⟨hx, hb, hml, hown, hts⟩ (r_is l dC dI H28.size p0 f_p0 p0_text c_p0_text b_p0_text 45 tk at0 siz ho_p0 fr_p0_1 pf_tk pf_at0 pf_siz) rfl rfl (cwV 1 hts (p1_gV m_6 m_7 m_8 m_4 g_r_is gz_r_is) rfl rfl rfl (by decide +kernel) ⟨by decide, by decide⟩) (va_recv hK hP28 (ci := 8) (q0 := 0) rfl rfl) zm_r_is rfl hl.1 rfl (Nat.le_of_ble_eq_true rfl) dX9_rankHere_65 ⟨by decide, by decide⟩ (fun r_32 H33 lo33 hG33 hS33 => ?_)
              obtain ⟨z_34, hQ33⟩ := hG33
              have hP33 : va_P (dC, dI) vwCl (zW_r_rankHere p0 f_p0 p0_text c_p0_text b_p0_text) H33 := hQ33
              clear hQ33 hP28 hS28
              rcases z_34 with ⟨rfl, z_34⟩ | ⟨rfl, z_34⟩
              · refine lv_if_eq (tgt := 73) hx hb dX9_rankHere_68 (by decide) (fun c_35 => absurd c_35 (by decide)) (fun c_35 => ?_)
                refine lv_iconst (v := 5) hx hb dX9_rankHere_71 (by decide) ?_
                exact q_iret hx hb hr hlocks hS33 dX9_rankHere_72 ⟨⟨by omega, by omega, Or.inr (Or.inr (Or.inr ⟨by decide, by unfold q_ops; omega⟩))⟩, hP33, za_r_rankHere⟩
              · refine lv_if_eq (tgt := 73) hx hb dX9_rankHere_68 (by decide) (fun c_36 => ?_) (fun c_36 => absurd c_36 (by decide))
                refine lv_aload_n hx hb dX9_rankHere_73 rfl (lv_at hl 0 rfl) (lv_bipush (v := 42) hx hb dX9_rankHere_74 (by decide) ?_)
                refine q_cVi (As := [.int 42]) (rest := []) q_w0 trivial hK hP33 hDa za_r_rankHere hS33 hA [0, 1] [0] (by decide +kernel) ⟨hx, hb, hml, hown, hts⟩ (r_is l dC dI H33.size p0 f_p0 p0_text c_p0_text b_p0_text 42 tk at0 siz ho_p0 fr_p0_1 pf_tk pf_at0 pf_siz) rfl rfl (cwV 1 hts (p1_gV m_6 m_7 m_8 m_4 g_r_is gz_r_is) rfl rfl rfl (by decide +kernel) ⟨by decide, by decide⟩) (va_recv hK hP33 (ci := 8) (q0 := 0) rfl rfl) zm_r_is rfl hl.1 rfl (Nat.le_of_ble_eq_true rfl) dX9_rankHere_76 ⟨by decide, by decide⟩ (fun r_37 H38 lo38 hG38 hS38 => ?_)
                obtain ⟨z_39, hQ38⟩ := hG38
                have hP38 : va_P (dC, dI) vwCl (zW_r_rankHere p0 f_p0 p0_text c_p0_text b_p0_text) H38 := hQ38
                clear hQ38 hP33 hS33
                rcases z_39 with ⟨rfl, z_39⟩ | ⟨rfl, z_39⟩
                · refine lv_if_ne (tgt := 91) hx hb dX9_rankHere_79 (by decide) (fun c_40 => ?_) (fun c_40 => absurd c_40 (by decide))
                  refine lv_bipush (v := 6) hx hb dX9_rankHere_91 (by decide) (lv_goto (tgt := 97) hx hb dX9_rankHere_93 (by decide) ?_)
                  exact q_iret hx hb hr hlocks hS38 dX9_rankHere_97 ⟨⟨by omega, by omega, Or.inr (Or.inr (Or.inr ⟨by decide, by unfold q_ops; omega⟩))⟩, hP38, za_r_rankHere⟩
                · refine lv_if_ne (tgt := 91) hx hb dX9_rankHere_79 (by decide) (fun c_41 => absurd c_41 (by decide)) (fun c_41 => ?_)
                  refine lv_aload_n hx hb dX9_rankHere_82 rfl (lv_at hl 0 rfl) (lv_bipush (v := 47) hx hb dX9_rankHere_83 (by decide) ?_)
                  refine q_cVi (As := [.int 47]) (rest := []) q_w0 trivial hK hP38 hDa za_r_rankHere hS38 hA [0, 1] [0] (by decide +kernel) ⟨hx, hb, hml, hown, hts⟩ (r_is l dC dI H38.size p0 f_p0 p0_text c_p0_text b_p0_text 47 tk at0 siz ho_p0 fr_p0_1 pf_tk pf_at0 pf_siz) rfl rfl (cwV 1 hts (p1_gV m_6 m_7 m_8 m_4 g_r_is gz_r_is) rfl rfl rfl (by decide +kernel) ⟨by decide, by decide⟩) (va_recv hK hP38 (ci := 8) (q0 := 0) rfl rfl) zm_r_is rfl hl.1 rfl (Nat.le_of_ble_eq_true rfl) dX9_rankHere_85 ⟨by decide, by decide⟩ (fun r_42 H43 lo43 hG43 hS43 => ?_)
                  obtain ⟨z_44, hQ43⟩ := hG43
                  have hP43 : va_P (dC, dI) vwCl (zW_r_rankHere p0 f_p0 p0_text c_p0_text b_p0_text) H43 := hQ43
                  clear hQ43 hP38 hS38
                  rcases z_44 with ⟨rfl, z_44⟩ | ⟨rfl, z_44⟩
                  · refine lv_if_eq (tgt := 96) hx hb dX9_rankHere_88 (by decide) (fun c_45 => absurd c_45 (by decide)) (fun c_45 => ?_)
                    refine lv_bipush (v := 6) hx hb dX9_rankHere_91 (by decide) (lv_goto (tgt := 97) hx hb dX9_rankHere_93 (by decide) ?_)
                    exact q_iret hx hb hr hlocks hS43 dX9_rankHere_97 ⟨⟨by omega, by omega, Or.inr (Or.inr (Or.inr ⟨by decide, by unfold q_ops; omega⟩))⟩, hP43, za_r_rankHere⟩
                  · refine lv_if_eq (tgt := 96) hx hb dX9_rankHere_88 (by decide) (fun c_46 => ?_) (fun c_46 => absurd c_46 (by decide))
                    refine lv_iconst (v := 0) hx hb dX9_rankHere_96 (by decide) ?_
                    exact q_iret hx hb hr hlocks hS43 dX9_rankHere_97 ⟨⟨by omega, by omega, Or.inl (by decide)⟩, hP43, za_r_rankHere⟩
def zo_r_isCompared : List Cond := [.code yX9_isCompared cX9_isCompared 2 (some .boolean), .fieldLink RX9 339 "BowWalkModel" "piled" "I", .fieldLink RX9 110 "BowWalkModel" "eWhat" "[I"]
def zw_r_isCompared : List Cond := zo_r_isCompared ++ (wsX90 ++ [])
theorem gz_r_isCompared : zw_r_isCompared.all goodWord = true := p1_ga (by decide +kernel) (p1_ga gk_X9 p1_g0)
theorem iz_r_isCompared : ∀ w ∈ zw_r_isCompared, w ∈ lw_tbl := p1_ia (p1_all [1422, 1085, 1077] (by decide +kernel)) (p1_ia ik_X9 p1_i0)
def zW_r_isCompared (p0 : Nat) (f_p0 : List Value) (p0_eWhat : Nat) (c_p0_eWhat : ClassId) (b_p0_eWhat : Nat → Int32) : va_W := [(p0, .inr (8, f_p0)), (p0_eWhat, .inl (c_p0_eWhat, 120, .inl b_p0_eWhat))]
def zT_r_isCompared (c_p0_eWhat : ClassId) : List (ClassId × FieldType) := [(c_p0_eWhat, .int)]
def zA_r_isCompared (p0 : Nat) (p0_eWhat : Nat) : List Nat := [p0, p0_eWhat]
theorem za_r_isCompared {p0 : Nat} {f_p0 : List Value} {p0_eWhat : Nat} {c_p0_eWhat : ClassId} {b_p0_eWhat : Nat → Int32} : (zW_r_isCompared p0 f_p0 p0_eWhat c_p0_eWhat b_p0_eWhat).map Prod.fst = (zA_r_isCompared p0 p0_eWhat) := rfl
def zG_r_isCompared (p0 : Nat) (f_p0 : List Value) (p0_eWhat : Nat) (c_p0_eWhat : ClassId) (b_p0_eWhat : Nat → Int32) (pi : Int32) (r : Int32) (X : va_W → Prop) : Prop := ((r = 1 ∧ (True)) ∨ (r = 0 ∧ (True))) ∧ X (zW_r_isCompared p0 f_p0 p0_eWhat c_p0_eWhat b_p0_eWhat)
theorem zm_r_isCompared {p0 : Nat} {f_p0 : List Value} {p0_eWhat : Nat} {c_p0_eWhat : ClassId} {b_p0_eWhat : Nat → Int32} {pi : Int32} : ∀ (r : Int32), ∀ X Y : va_W → Prop, (∀ w, X w → Y w) → zG_r_isCompared p0 f_p0 p0_eWhat c_p0_eWhat b_p0_eWhat pi r X → zG_r_isCompared p0 f_p0 p0_eWhat c_p0_eWhat b_p0_eWhat pi r Y := fun r X Y h h1 => by obtain ⟨x0, hx⟩ := h1; exact ⟨x0, h _ hx⟩
set_option maxHeartbeats 4000000 in
set_option maxRecDepth 100000 in
theorem r_isCompared (l : Launch) (dC : Nat → ClassId) (dI : Nat → Nat → Nat) (sz : Nat) (p0 : Nat) (f_p0 : List Value) (p0_eWhat : Nat) (c_p0_eWhat : ClassId) (b_p0_eWhat : Nat → Int32) (pi : Int32) (ho_p0 : OKX9 f_p0) (fr_p0_40 : q_rf f_p0 40 p0_eWhat) (pf_pi : q_if f_p0 48 pi) (hp : 1 ≤ pi.toInt ∧ pi.toInt ≤ 119) (h8 : (b_p0_eWhat 0).toInt = 8) : Met l yX9_isCompared zw_r_isCompared ({ frames := 0, cells := 0, slots := 0, locals := 0 }) (va_Pc [.ref p0] (q_pre (dC, dI) (zW_r_isCompared p0 f_p0 p0_eWhat c_p0_eWhat b_p0_eWhat) (zT_r_isCompared c_p0_eWhat) q_E0 sz)) (q_Qi (dC, dI) (zG_r_isCompared p0 f_p0 p0_eWhat c_p0_eWhat b_p0_eWhat pi) (zA_r_isCompared p0 p0_eWhat) (va_A (zW_r_isCompared p0 f_p0 p0_eWhat c_p0_eWhat b_p0_eWhat) sz)) 0 0 (va_A (zW_r_isCompared p0 f_p0 p0_eWhat c_p0_eWhat b_p0_eWhat) sz) := by
  refine Met.ofW (cc := cX9_isCompared) (maxL := 2) (ret := (some .boolean)) (by decide) rfl ?_
  intro p e s m args below meth c s₁ B hml hv
  obtain ⟨rfl, hsz, hP, hK, hD0, hE⟩ := hv
  have hx := B.exec
  have hb := B.bytes
  have hr := B.returns
  have hts := atoms_spec (ws := zw_r_isCompared) B.pre
  have hown : s.vm.findClass RX9 = some m.cls := findClass_of_methodNamed B.named
  have hlocks := B.notSynchronized
  subst hsz
  have hD := hD0.self (sz := s.heap.size)
  generalize hAe : va_A (zW_r_isCompared p0 f_p0 p0_eWhat c_p0_eWhat b_p0_eWhat) s.heap.size = A at hD hE ⊢
  have hA : ∀ q : Nat, s.heap.size ≤ q → A q := fun q h => by rw [← hAe]; exact Or.inr h
  have hDa : q_DA A (zA_r_isCompared p0 p0_eWhat) := q_DA.mk hD za_r_isCompared
  clear hAe hD0 hD
  have hS : va_S A s.heap s.heap [] := va_S.rf
  have m_0 : (.fieldLink RX9 339 "BowWalkModel" "piled" "I" : Cond) ∈ zw_r_isCompared := List.mem_append_left _ (List.mem_of_getElem? (i := 1) rfl)
  have k_0 := hts _ m_0
  have m_1 : (.fieldLink RX9 110 "BowWalkModel" "eWhat" "[I" : Cond) ∈ zw_r_isCompared := List.mem_append_left _ (List.mem_of_getElem? (i := 2) rfl)
  have k_1 := hts _ m_1
  have i_X9 : ∀ w ∈ u_ws RX9 TX9 81, w ∈ zw_r_isCompared := fun w h => List.mem_append_right _ (List.mem_append_left _ h)
  have lt_m1 : ((-1) : Int32).toInt = -1 := by decide
  have lt_0 : (0 : Int32).toInt = 0 := by decide
  have lt_1 : (1 : Int32).toInt = 1 := by decide
  have lt_4 : (4 : Int32).toInt = 4 := by decide
  have lt_5 : (5 : Int32).toInt = 5 := by decide
  have lt_6 : (6 : Int32).toInt = 6 := by decide
  have hl := lv_entry ([.ref p0]) (n := 2) (Nat.le_of_ble_eq_true rfl)
  rw [lg_entry_eq]
  generalize (lg_sl ([.ref p0]) ++ List.replicate (2 - (lg_sl ([.ref p0])).length) Slot.unset).toArray = ls at hl ⊢
  have hl : lv_has ls 2 [(0, .ref p0)] := hl
  have tpi := q_rng pi
  refine lv_aload_n hx hb dX9_isCompared_0 rfl (lv_at hl 0 rfl) (qg_X9_48 hx hb hts i_X9 hown hK hP 0 rfl k_0 pf_pi dX9_isCompared_1 (lv_iconst (v := 1) hx hb dX9_isCompared_4 (by decide) (lv_isub hx hb dX9_isCompared_5 (lv_topi fun v_1 ev_1 => ?_))))
  have tv_1 := q_sub ev_1 (by omega) (by omega)
  refine lv_istore_n (lv' := [(1, .int v_1), (0, .ref p0)]) hx hb dX9_isCompared_6 rfl hl (by decide) rfl (fun ls hl => ?_)
  have key7 : ∀ (fu7 : Nat) (k : Int32) (H : Heap) (locs : List Loc) (ls : Array Slot) (hfu7 : k.toInt ≤ (fu7 : Int)) (tk : (0) ≤ k.toInt ∧ k.toInt ≤ 118), va_P (dC, dI) vwCl (zW_r_isCompared p0 f_p0 p0_eWhat c_p0_eWhat b_p0_eWhat) H → va_S A s.heap H locs → lv_has ls 2 [(1, .int k), (0, .ref p0)] → W p l e (headSpec zw_r_isCompared { frames := 0, cells := 0, slots := 0, locals := 0 }).room s m ([.ref p0] : List Value).toArray below meth c H locs 0 0 (MQ below (q_Qi (dC, dI) (zG_r_isCompared p0 f_p0 p0_eWhat c_p0_eWhat b_p0_eWhat pi) (zA_r_isCompared p0 p0_eWhat) A) ([.ref p0] : List Value).toArray s 0 0 A) (F0 m 7 ls []) := by
    intro fu7
    induction fu7 using Nat.strongRecOn with
    | ind fu7 ih7 =>
      intro k H2 lo2 ls hfu7 tk hP2 hS2 hl
      refine lv_aload_n hx hb dX9_isCompared_7 rfl (lv_at hl 1 rfl) (qg_X9_40 hx hb hts i_X9 hown hK hP2 0 rfl k_1 fr_p0_40 dX9_isCompared_8 (lv_iload_n hx hb dX9_isCompared_11 rfl (lv_at hl 0 rfl) (q_ild hx hb hK hP2 1 0 rfl rfl (q_in (by omega) (by omega)) dX9_isCompared_12 (fun v_3 ev_3 => ?_))))
      have zv_3 := q_e0 h8 ev_3 (by omega)
      refine lv_iconst (v := 5) hx hb dX9_isCompared_13 (by decide) ?_
      refine lv_icmp_eq (tgt := 28) hx hb dX9_isCompared_14 (by decide) (fun c_4 => ?_) (fun c_4 => ?_)
      · have tc_4 := q_eq c_4
        obtain ⟨v_5, ev_5⟩ : ∃ y : Int32, y = k + (-1) := ⟨_, rfl⟩
        have tv_5 := q_add ev_5 (by omega) (by omega)
        refine lv_iinc (v := v_5) (lv' := [(1, .int v_5), (0, .ref p0)]) hx hb dX9_isCompared_28 hl (k := 0) rfl (by rw [ev_5]; rfl) (by decide) rfl (fun ls hl => ?_)
        refine lv_goto (tgt := 7) hx hb dX9_isCompared_31 (by decide) ?_
        exact ih7 (fu7 - 1) (by omega) v_5 _ _ _ (by omega) (by omega) hP2 hS2 (lv_sub hl [0, 1] rfl)
      · have tc_4 := q_neN c_4
        refine lv_aload_n hx hb dX9_isCompared_17 rfl (lv_at hl 1 rfl) (qg_X9_40 hx hb hts i_X9 hown hK hP2 0 rfl k_1 fr_p0_40 dX9_isCompared_18 (lv_iload_n hx hb dX9_isCompared_21 rfl (lv_at hl 0 rfl) (q_ild hx hb hK hP2 1 0 rfl rfl (q_in (by omega) (by omega)) dX9_isCompared_22 (fun v_6 ev_6 => ?_))))
        have zv_6 := q_e0 h8 ev_6 (by omega)
        refine lv_bipush (v := 6) hx hb dX9_isCompared_23 (by decide) ?_
        refine lv_icmp_ne (tgt := 34) hx hb dX9_isCompared_25 (by decide) (fun c_7 => ?_) (fun c_7 => ?_)
        · have tc_7 := q_ne c_7
          refine lv_aload_n hx hb dX9_isCompared_34 rfl (lv_at hl 1 rfl) (qg_X9_40 hx hb hts i_X9 hown hK hP2 0 rfl k_1 fr_p0_40 dX9_isCompared_35 (lv_iload_n hx hb dX9_isCompared_38 rfl (lv_at hl 0 rfl) (q_ild hx hb hK hP2 1 0 rfl rfl (q_in (by omega) (by omega)) dX9_isCompared_39 (fun v_8 ev_8 => ?_))))
          have zv_8 := q_e0 h8 ev_8 (by omega)
          refine lv_iconst (v := 4) hx hb dX9_isCompared_40 (by decide) ?_
          refine lv_icmp_ne (tgt := 48) hx hb dX9_isCompared_41 (by decide) (fun c_9 => ?_) (fun c_9 => ?_)
          · have tc_9 := q_ne c_9
            refine lv_iconst (v := 0) hx hb dX9_isCompared_48 (by decide) ?_
            exact q_zret hx hb hr hlocks (by decide) hS2 dX9_isCompared_49 ⟨(Or.inr ⟨rfl, by first | trivial | omega⟩), hP2, za_r_isCompared⟩
          · have tc_9 := q_eqN c_9
            refine lv_iconst (v := 1) hx hb dX9_isCompared_44 (by decide) (lv_goto (tgt := 49) hx hb dX9_isCompared_45 (by decide) ?_)
            exact q_zret hx hb hr hlocks (by decide) hS2 dX9_isCompared_49 ⟨(Or.inl ⟨rfl, by first | trivial | omega⟩), hP2, za_r_isCompared⟩
        · have tc_7 := q_eqN c_7
          obtain ⟨v_10, ev_10⟩ : ∃ y : Int32, y = k + (-1) := ⟨_, rfl⟩
          have tv_10 := q_add ev_10 (by omega) (by omega)
          refine lv_iinc (v := v_10) (lv' := [(1, .int v_10), (0, .ref p0)]) hx hb dX9_isCompared_28 hl (k := 0) rfl (by rw [ev_10]; rfl) (by decide) rfl (fun ls hl => ?_)
          refine lv_goto (tgt := 7) hx hb dX9_isCompared_31 (by decide) ?_
          exact ih7 (fu7 - 1) (by omega) v_10 _ _ _ (by omega) (by omega) hP2 hS2 (lv_sub hl [0, 1] rfl)
  exact key7 119 v_1 _ _ _ (by omega) (by omega) hP hS (lv_sub hl [0, 1] rfl)
def zo_r_unit : List Cond := [.code yX9_unit cX9_unit 6 (some .boolean), .methodLink RX9 354 yX9_wordHere, .instanceMethod yX9_wordHere, .selects RX9 yX9_wordHere yX9_wordHere, .initialized RX9, .methodLink RX9 258 yX9_isGood, .instanceMethod yX9_isGood, .selects RX9 yX9_isGood yX9_isGood, .fieldLink RX9 285 "BowWalkModel" "units" "I", .methodLink RX9 262 yX9_goOn, .instanceMethod yX9_goOn, .selects RX9 yX9_goOn yX9_goOn, .methodLink RX9 345 yX9_pushE, .instanceMethod yX9_pushE, .selects RX9 yX9_pushE yX9_pushE, .fieldLink RX9 342 "BowWalkModel" "within" "I", .methodLink RX9 358 yX9_emit, .instanceMethod yX9_emit, .selects RX9 yX9_emit yX9_emit, .fieldLink RX9 248 "BowWalkModel" "number" "I", .methodLink RX9 265 yX9_misplaced, .instanceMethod yX9_misplaced, .selects RX9 yX9_misplaced yX9_misplaced, .fieldLink RX9 230 "BowWalkModel" "token" "I", .methodLink RX9 322 yX9_is, .instanceMethod yX9_is, .selects RX9 yX9_is yX9_is, .constantLong RX9 210 (7237492), .methodLink RX9 268 yX9_isWord, .instanceMethod yX9_isWord, .selects RX9 yX9_isWord yX9_isWord, .fieldLink RX9 110 "BowWalkModel" "eWhat" "[I", .fieldLink RX9 339 "BowWalkModel" "piled" "I"]
def zw_r_unit : List Cond := zo_r_unit ++ (zw_r_wordHere ++ (zw_r_isGood ++ (zw_r_goOn ++ (zw_r_pushE ++ (zw_r_emit ++ (zw_r_misplaced ++ (zw_r_is ++ (zw_r_isWord ++ (wsX90 ++ [])))))))))
theorem gz_r_unit : zw_r_unit.all goodWord = true := p1_ga (by decide +kernel) (p1_ga gz_r_wordHere (p1_ga gz_r_isGood (p1_ga gz_r_goOn (p1_ga gz_r_pushE (p1_ga gz_r_emit (p1_ga gz_r_misplaced (p1_ga gz_r_is (p1_ga gz_r_isWord (p1_ga gk_X9 p1_g0)))))))))
theorem iz_r_unit : ∀ w ∈ zw_r_unit, w ∈ lw_tbl := p1_ia (p1_all [1398, 1403, 1405, 65, 116, 1327, 1329, 46, 1083, 1285, 1287, 44, 1391, 1393, 62, 1084, 1407, 1409, 66, 1046, 1343, 1345, 50, 1045, 1399, 1401, 64, 1316, 1339, 1341, 49, 1077, 1085] (by decide +kernel)) (p1_ia iz_r_wordHere (p1_ia iz_r_isGood (p1_ia iz_r_goOn (p1_ia iz_r_pushE (p1_ia iz_r_emit (p1_ia iz_r_misplaced (p1_ia iz_r_is (p1_ia iz_r_isWord (p1_ia ik_X9 p1_i0)))))))))
def zW_r_unit (p0 : Nat) (f_p0 : List Value) (p0_code : Nat) (c_p0_code : ClassId) (b_p0_code : Nat → Int32) (p0_codeNumber : Nat) (c_p0_codeNumber : ClassId) (b_p0_codeNumber : Nat → Int32) (p0_eSign : Nat) (c_p0_eSign : ClassId) (b_p0_eSign : Nat → Int32) (p0_eWhat : Nat) (c_p0_eWhat : ClassId) (b_p0_eWhat : Nat → Int32) (p0_text : Nat) (c_p0_text : ClassId) (b_p0_text : Nat → Int32) : va_W := [(p0, .inr (8, f_p0)), (p0_code, .inl (c_p0_code, 1800, .inl b_p0_code)), (p0_codeNumber, .inl (c_p0_codeNumber, 1800, .inl b_p0_codeNumber)), (p0_eSign, .inl (c_p0_eSign, 120, .inl b_p0_eSign)), (p0_eWhat, .inl (c_p0_eWhat, 120, .inl b_p0_eWhat)), (p0_text, .inl (c_p0_text, 1600, .inl b_p0_text))]
def zT_r_unit (c_p0_code : ClassId) (c_p0_codeNumber : ClassId) (c_p0_eSign : ClassId) (c_p0_eWhat : ClassId) (c_p0_text : ClassId) : List (ClassId × FieldType) := [(c_p0_code, .int), (c_p0_codeNumber, .int), (c_p0_eSign, .int), (c_p0_eWhat, .int), (c_p0_text, .byte)]
def zA_r_unit (p0 : Nat) (p0_code : Nat) (p0_codeNumber : Nat) (p0_eSign : Nat) (p0_eWhat : Nat) (p0_text : Nat) : List Nat := [p0, p0_code, p0_codeNumber, p0_eSign, p0_eWhat, p0_text]
theorem za_r_unit {p0 : Nat} {f_p0 : List Value} {p0_code : Nat} {c_p0_code : ClassId} {b_p0_code : Nat → Int32} {p0_codeNumber : Nat} {c_p0_codeNumber : ClassId} {b_p0_codeNumber : Nat → Int32} {p0_eSign : Nat} {c_p0_eSign : ClassId} {b_p0_eSign : Nat → Int32} {p0_eWhat : Nat} {c_p0_eWhat : ClassId} {b_p0_eWhat : Nat → Int32} {p0_text : Nat} {c_p0_text : ClassId} {b_p0_text : Nat → Int32} : (zW_r_unit p0 f_p0 p0_code c_p0_code b_p0_code p0_codeNumber c_p0_codeNumber b_p0_codeNumber p0_eSign c_p0_eSign b_p0_eSign p0_eWhat c_p0_eWhat b_p0_eWhat p0_text c_p0_text b_p0_text).map Prod.fst = (zA_r_unit p0 p0_code p0_codeNumber p0_eSign p0_eWhat p0_text) := rfl
def zG_r_unit (p0 : Nat) (f_p0 : List Value) (p0_code : Nat) (c_p0_code : ClassId) (b_p0_code : Nat → Int32) (p0_codeNumber : Nat) (c_p0_codeNumber : ClassId) (b_p0_codeNumber : Nat → Int32) (p0_eSign : Nat) (c_p0_eSign : ClassId) (b_p0_eSign : Nat → Int32) (p0_eWhat : Nat) (c_p0_eWhat : ClassId) (b_p0_eWhat : Nat → Int32) (p0_text : Nat) (c_p0_text : ClassId) (b_p0_text : Nat → Int32) (at0 : Int32) (en : Int32) (tk : Int32) (siz : Int32) (fk : Int32) (co : Int32) (un : Int32) (wi : Int32) (pi : Int32) (rb : Int32) (bas : Int) (r : Int32) (X : va_W → Prop) : Prop := ∃ (y_p0 : List Value) (y_p0_code : Nat → Int32) (y_p0_codeNumber : Nat → Int32) (y_p0_eSign : Nat → Int32) (y_p0_eWhat : Nat → Int32) (at1 : Int32) (en1 : Int32) (tk1 : Int32) (fk1 : Int32) (co1 : Int32) (un1 : Int32) (wi1 : Int32) (pi1 : Int32), ((r = 1 ∧ (1 ≤ fk1.toInt ∨ (1 ≤ pi1.toInt ∧ q_EI 0 pi1.toInt.toNat rb.toInt co1.toInt un1.toInt wi1.toInt bas y_p0_eWhat y_p0_eSign y_p0_code ∧ (un1.toInt = un.toInt + 1 ∨ (un1.toInt = un.toInt ∧ wi1.toInt = wi.toInt + 1))))) ∨ (r = 0 ∧ (q_EI 1 pi1.toInt.toNat rb.toInt co1.toInt un1.toInt wi1.toInt bas y_p0_eWhat y_p0_eSign y_p0_code ∧ un1.toInt = un.toInt + 1 ∧ 1 ≤ pi1.toInt))) ∧ OKX9 y_p0 ∧ q_fr [4, 5, 6, 7, 8, 9, 10, 45, 46, 47, 48] f_p0 y_p0 ∧ q_if y_p0 6 at1 ∧ q_if y_p0 7 en1 ∧ q_if y_p0 8 tk1 ∧ q_if y_p0 4 fk1 ∧ q_if y_p0 45 co1 ∧ q_if y_p0 46 un1 ∧ q_if y_p0 47 wi1 ∧ q_if y_p0 48 pi1 ∧ (en1.toInt ≤ siz.toInt ∧ at0.toInt ≤ at1.toInt ∧ at1.toInt ≤ en1.toInt ∧ (tk1.toInt ≠ 3 ∨ at1.toInt < en1.toInt)) ∧ (fk.toInt = 0 ∨ 1 ≤ fk1.toInt) ∧ (900 * rb.toInt ≤ co1.toInt ∧ co1.toInt ≤ 900 * rb.toInt + 900 ∧ 0 ≤ un1.toInt ∧ un1.toInt ≤ 60) ∧ (q_offc bas rb b_p0_code y_p0_code) ∧ (0 ≤ wi1.toInt ∧ wi1.toInt ≤ 7 ∧ 0 ≤ pi1.toInt ∧ pi1.toInt ≤ 69) ∧ (1 ≤ fk1.toInt ∨ un1.toInt = un.toInt + 1 ∨ (un1.toInt = un.toInt ∧ wi1.toInt = wi.toInt + 1)) ∧ X (zW_r_unit p0 y_p0 p0_code c_p0_code y_p0_code p0_codeNumber c_p0_codeNumber y_p0_codeNumber p0_eSign c_p0_eSign y_p0_eSign p0_eWhat c_p0_eWhat y_p0_eWhat p0_text c_p0_text b_p0_text)
theorem zm_r_unit {p0 : Nat} {f_p0 : List Value} {p0_code : Nat} {c_p0_code : ClassId} {b_p0_code : Nat → Int32} {p0_codeNumber : Nat} {c_p0_codeNumber : ClassId} {b_p0_codeNumber : Nat → Int32} {p0_eSign : Nat} {c_p0_eSign : ClassId} {b_p0_eSign : Nat → Int32} {p0_eWhat : Nat} {c_p0_eWhat : ClassId} {b_p0_eWhat : Nat → Int32} {p0_text : Nat} {c_p0_text : ClassId} {b_p0_text : Nat → Int32} {at0 : Int32} {en : Int32} {tk : Int32} {siz : Int32} {fk : Int32} {co : Int32} {un : Int32} {wi : Int32} {pi : Int32} {rb : Int32} {bas : Int} : ∀ (r : Int32), ∀ X Y : va_W → Prop, (∀ w, X w → Y w) → zG_r_unit p0 f_p0 p0_code c_p0_code b_p0_code p0_codeNumber c_p0_codeNumber b_p0_codeNumber p0_eSign c_p0_eSign b_p0_eSign p0_eWhat c_p0_eWhat b_p0_eWhat p0_text c_p0_text b_p0_text at0 en tk siz fk co un wi pi rb bas r X → zG_r_unit p0 f_p0 p0_code c_p0_code b_p0_code p0_codeNumber c_p0_codeNumber b_p0_codeNumber p0_eSign c_p0_eSign b_p0_eSign p0_eWhat c_p0_eWhat b_p0_eWhat p0_text c_p0_text b_p0_text at0 en tk siz fk co un wi pi rb bas r Y := fun r X Y h h1 => by obtain ⟨x0, x1, x2, x3, x4, x5, x6, x7, x8, x9, x10, x11, x12, x13, x14, x15, x16, x17, x18, x19, x20, x21, x22, x23, x24, x25, x26, x27, x28, x29, hx⟩ := h1; exact ⟨x0, x1, x2, x3, x4, x5, x6, x7, x8, x9, x10, x11, x12, x13, x14, x15, x16, x17, x18, x19, x20, x21, x22, x23, x24, x25, x26, x27, x28, x29, h _ hx⟩
set_option maxHeartbeats 4000000 in
set_option maxRecDepth 100000 in
theorem r_unit (l : Launch) (dC : Nat → ClassId) (dI : Nat → Nat → Nat) (sz : Nat) (p0 : Nat) (f_p0 : List Value) (p0_code : Nat) (c_p0_code : ClassId) (b_p0_code : Nat → Int32) (p0_codeNumber : Nat) (c_p0_codeNumber : ClassId) (b_p0_codeNumber : Nat → Int32) (p0_eSign : Nat) (c_p0_eSign : ClassId) (b_p0_eSign : Nat → Int32) (p0_eWhat : Nat) (c_p0_eWhat : ClassId) (b_p0_eWhat : Nat → Int32) (p0_text : Nat) (c_p0_text : ClassId) (b_p0_text : Nat → Int32) (at0 : Int32) (en : Int32) (tk : Int32) (siz : Int32) (fk : Int32) (co : Int32) (un : Int32) (wi : Int32) (pi : Int32) (rb : Int32) (bas : Int) (ho_p0 : OKX9 f_p0) (fr_p0_1 : q_rf f_p0 1 p0_text) (fr_p0_38 : q_rf f_p0 38 p0_code) (fr_p0_39 : q_rf f_p0 39 p0_codeNumber) (fr_p0_40 : q_rf f_p0 40 p0_eWhat) (fr_p0_41 : q_rf f_p0 41 p0_eSign) (pf_at0 : q_if f_p0 6 at0) (pf_en : q_if f_p0 7 en) (pf_tk : q_if f_p0 8 tk) (pf_siz : q_if f_p0 3 siz) (pf_fk : q_if f_p0 4 fk) (pf_co : q_if f_p0 45 co) (pf_un : q_if f_p0 46 un) (pf_wi : q_if f_p0 47 wi) (pf_pi : q_if f_p0 48 pi) (pf_rb : q_if f_p0 44 rb) (hR : en.toInt ≤ siz.toInt ∧ at0.toInt ≤ en.toInt ∧ (tk.toInt ≠ 3 ∨ at0.toInt < en.toInt)) (hpi : 1 ≤ pi.toInt) (hEI : q_EI 0 pi.toInt.toNat rb.toInt co.toInt un.toInt wi.toInt bas b_p0_eWhat b_p0_eSign b_p0_code) : Met l yX9_unit zw_r_unit ({ frames := 2, cells := 0, slots := 0, locals := 44 }) (va_Pc [.ref p0] (q_pre (dC, dI) (zW_r_unit p0 f_p0 p0_code c_p0_code b_p0_code p0_codeNumber c_p0_codeNumber b_p0_codeNumber p0_eSign c_p0_eSign b_p0_eSign p0_eWhat c_p0_eWhat b_p0_eWhat p0_text c_p0_text b_p0_text) (zT_r_unit c_p0_code c_p0_codeNumber c_p0_eSign c_p0_eWhat c_p0_text) q_E0 sz)) (q_Qi (dC, dI) (zG_r_unit p0 f_p0 p0_code c_p0_code b_p0_code p0_codeNumber c_p0_codeNumber b_p0_codeNumber p0_eSign c_p0_eSign b_p0_eSign p0_eWhat c_p0_eWhat b_p0_eWhat p0_text c_p0_text b_p0_text at0 en tk siz fk co un wi pi rb bas) (zA_r_unit p0 p0_code p0_codeNumber p0_eSign p0_eWhat p0_text) (va_A (zW_r_unit p0 f_p0 p0_code c_p0_code b_p0_code p0_codeNumber c_p0_codeNumber b_p0_codeNumber p0_eSign c_p0_eSign b_p0_eSign p0_eWhat c_p0_eWhat b_p0_eWhat p0_text c_p0_text b_p0_text) sz)) 0 0 (va_A (zW_r_unit p0 f_p0 p0_code c_p0_code b_p0_code p0_codeNumber c_p0_codeNumber b_p0_codeNumber p0_eSign c_p0_eSign b_p0_eSign p0_eWhat c_p0_eWhat b_p0_eWhat p0_text c_p0_text b_p0_text) sz) := by
  refine Met.ofW (cc := cX9_unit) (maxL := 6) (ret := (some .boolean)) (by decide) rfl ?_
  intro p e s m args below meth c s₁ B hml hv
  obtain ⟨rfl, hsz, hP, hK, hD0, hE⟩ := hv
  have hx := B.exec
  have hb := B.bytes
  have hr := B.returns
  have hts := atoms_spec (ws := zw_r_unit) B.pre
  have hown : s.vm.findClass RX9 = some m.cls := findClass_of_methodNamed B.named
  have hlocks := B.notSynchronized
  subst hsz
  have hD := hD0.self (sz := s.heap.size)
  generalize hAe : va_A (zW_r_unit p0 f_p0 p0_code c_p0_code b_p0_code p0_codeNumber c_p0_codeNumber b_p0_codeNumber p0_eSign c_p0_eSign b_p0_eSign p0_eWhat c_p0_eWhat b_p0_eWhat p0_text c_p0_text b_p0_text) s.heap.size = A at hD hE ⊢
  have hA : ∀ q : Nat, s.heap.size ≤ q → A q := fun q h => by rw [← hAe]; exact Or.inr h
  have hDa : q_DA A (zA_r_unit p0 p0_code p0_codeNumber p0_eSign p0_eWhat p0_text) := q_DA.mk hD za_r_unit
  clear hAe hD0 hD
  have hS : va_S A s.heap s.heap [] := va_S.rf
  have m_0 : (.methodLink RX9 354 yX9_wordHere : Cond) ∈ zw_r_unit := List.mem_append_left _ (List.mem_of_getElem? (i := 1) rfl)
  have k_0 := hts _ m_0
  have m_1 : (.instanceMethod yX9_wordHere : Cond) ∈ zw_r_unit := List.mem_append_left _ (List.mem_of_getElem? (i := 2) rfl)
  have k_1 := hts _ m_1
  have m_2 : (.selects RX9 yX9_wordHere yX9_wordHere : Cond) ∈ zw_r_unit := List.mem_append_left _ (List.mem_of_getElem? (i := 3) rfl)
  have k_2 := hts _ m_2
  have m_3 : (.initialized RX9 : Cond) ∈ zw_r_unit := List.mem_append_left _ (List.mem_of_getElem? (i := 4) rfl)
  have k_3 := hts _ m_3
  have m_4 : (.methodLink RX9 258 yX9_isGood : Cond) ∈ zw_r_unit := List.mem_append_left _ (List.mem_of_getElem? (i := 5) rfl)
  have k_4 := hts _ m_4
  have m_5 : (.instanceMethod yX9_isGood : Cond) ∈ zw_r_unit := List.mem_append_left _ (List.mem_of_getElem? (i := 6) rfl)
  have k_5 := hts _ m_5
  have m_6 : (.selects RX9 yX9_isGood yX9_isGood : Cond) ∈ zw_r_unit := List.mem_append_left _ (List.mem_of_getElem? (i := 7) rfl)
  have k_6 := hts _ m_6
  have m_7 : (.fieldLink RX9 285 "BowWalkModel" "units" "I" : Cond) ∈ zw_r_unit := List.mem_append_left _ (List.mem_of_getElem? (i := 8) rfl)
  have k_7 := hts _ m_7
  have m_8 : (.methodLink RX9 262 yX9_goOn : Cond) ∈ zw_r_unit := List.mem_append_left _ (List.mem_of_getElem? (i := 9) rfl)
  have k_8 := hts _ m_8
  have m_9 : (.instanceMethod yX9_goOn : Cond) ∈ zw_r_unit := List.mem_append_left _ (List.mem_of_getElem? (i := 10) rfl)
  have k_9 := hts _ m_9
  have m_10 : (.selects RX9 yX9_goOn yX9_goOn : Cond) ∈ zw_r_unit := List.mem_append_left _ (List.mem_of_getElem? (i := 11) rfl)
  have k_10 := hts _ m_10
  have m_11 : (.methodLink RX9 345 yX9_pushE : Cond) ∈ zw_r_unit := List.mem_append_left _ (List.mem_of_getElem? (i := 12) rfl)
  have k_11 := hts _ m_11
  have m_12 : (.instanceMethod yX9_pushE : Cond) ∈ zw_r_unit := List.mem_append_left _ (List.mem_of_getElem? (i := 13) rfl)
  have k_12 := hts _ m_12
  have m_13 : (.selects RX9 yX9_pushE yX9_pushE : Cond) ∈ zw_r_unit := List.mem_append_left _ (List.mem_of_getElem? (i := 14) rfl)
  have k_13 := hts _ m_13
  have m_14 : (.fieldLink RX9 342 "BowWalkModel" "within" "I" : Cond) ∈ zw_r_unit := List.mem_append_left _ (List.mem_of_getElem? (i := 15) rfl)
  have k_14 := hts _ m_14
  have m_15 : (.methodLink RX9 358 yX9_emit : Cond) ∈ zw_r_unit := List.mem_append_left _ (List.mem_of_getElem? (i := 16) rfl)
  have k_15 := hts _ m_15
  have m_16 : (.instanceMethod yX9_emit : Cond) ∈ zw_r_unit := List.mem_append_left _ (List.mem_of_getElem? (i := 17) rfl)
  have k_16 := hts _ m_16
  have m_17 : (.selects RX9 yX9_emit yX9_emit : Cond) ∈ zw_r_unit := List.mem_append_left _ (List.mem_of_getElem? (i := 18) rfl)
  have k_17 := hts _ m_17
  have m_18 : (.fieldLink RX9 248 "BowWalkModel" "number" "I" : Cond) ∈ zw_r_unit := List.mem_append_left _ (List.mem_of_getElem? (i := 19) rfl)
  have k_18 := hts _ m_18
  have m_19 : (.methodLink RX9 265 yX9_misplaced : Cond) ∈ zw_r_unit := List.mem_append_left _ (List.mem_of_getElem? (i := 20) rfl)
  have k_19 := hts _ m_19
  have m_20 : (.instanceMethod yX9_misplaced : Cond) ∈ zw_r_unit := List.mem_append_left _ (List.mem_of_getElem? (i := 21) rfl)
  have k_20 := hts _ m_20
  have m_21 : (.selects RX9 yX9_misplaced yX9_misplaced : Cond) ∈ zw_r_unit := List.mem_append_left _ (List.mem_of_getElem? (i := 22) rfl)
  have k_21 := hts _ m_21
  have m_22 : (.fieldLink RX9 230 "BowWalkModel" "token" "I" : Cond) ∈ zw_r_unit := List.mem_append_left _ (List.mem_of_getElem? (i := 23) rfl)
  have k_22 := hts _ m_22
  have m_23 : (.methodLink RX9 322 yX9_is : Cond) ∈ zw_r_unit := List.mem_append_left _ (List.mem_of_getElem? (i := 24) rfl)
  have k_23 := hts _ m_23
  have m_24 : (.instanceMethod yX9_is : Cond) ∈ zw_r_unit := List.mem_append_left _ (List.mem_of_getElem? (i := 25) rfl)
  have k_24 := hts _ m_24
  have m_25 : (.selects RX9 yX9_is yX9_is : Cond) ∈ zw_r_unit := List.mem_append_left _ (List.mem_of_getElem? (i := 26) rfl)
  have k_25 := hts _ m_25
  have m_26 : (.constantLong RX9 210 (7237492) : Cond) ∈ zw_r_unit := List.mem_append_left _ (List.mem_of_getElem? (i := 27) rfl)
  have k_26 := hts _ m_26
  have m_27 : (.methodLink RX9 268 yX9_isWord : Cond) ∈ zw_r_unit := List.mem_append_left _ (List.mem_of_getElem? (i := 28) rfl)
  have k_27 := hts _ m_27
  have m_28 : (.instanceMethod yX9_isWord : Cond) ∈ zw_r_unit := List.mem_append_left _ (List.mem_of_getElem? (i := 29) rfl)
  have k_28 := hts _ m_28
  have m_29 : (.selects RX9 yX9_isWord yX9_isWord : Cond) ∈ zw_r_unit := List.mem_append_left _ (List.mem_of_getElem? (i := 30) rfl)
  have k_29 := hts _ m_29
  have m_30 : (.fieldLink RX9 110 "BowWalkModel" "eWhat" "[I" : Cond) ∈ zw_r_unit := List.mem_append_left _ (List.mem_of_getElem? (i := 31) rfl)
  have k_30 := hts _ m_30
  have m_31 : (.fieldLink RX9 339 "BowWalkModel" "piled" "I" : Cond) ∈ zw_r_unit := List.mem_append_left _ (List.mem_of_getElem? (i := 32) rfl)
  have k_31 := hts _ m_31
  have g_r_wordHere : ∀ w ∈ zw_r_wordHere, w ∈ zw_r_unit := fun w h => List.mem_append_right _ (List.mem_append_left _ h)
  have g_r_isGood : ∀ w ∈ zw_r_isGood, w ∈ zw_r_unit := fun w h => List.mem_append_right _ (List.mem_append_right _ (List.mem_append_left _ h))
  have g_r_goOn : ∀ w ∈ zw_r_goOn, w ∈ zw_r_unit := fun w h => List.mem_append_right _ (List.mem_append_right _ (List.mem_append_right _ (List.mem_append_left _ h)))
  have g_r_pushE : ∀ w ∈ zw_r_pushE, w ∈ zw_r_unit := fun w h => List.mem_append_right _ (List.mem_append_right _ (List.mem_append_right _ (List.mem_append_right _ (List.mem_append_left _ h))))
  have g_r_emit : ∀ w ∈ zw_r_emit, w ∈ zw_r_unit := fun w h => List.mem_append_right _ (List.mem_append_right _ (List.mem_append_right _ (List.mem_append_right _ (List.mem_append_right _ (List.mem_append_left _ h)))))
  have g_r_misplaced : ∀ w ∈ zw_r_misplaced, w ∈ zw_r_unit := fun w h => List.mem_append_right _ (List.mem_append_right _ (List.mem_append_right _ (List.mem_append_right _ (List.mem_append_right _ (List.mem_append_right _ (List.mem_append_left _ h))))))
  have g_r_is : ∀ w ∈ zw_r_is, w ∈ zw_r_unit := fun w h => List.mem_append_right _ (List.mem_append_right _ (List.mem_append_right _ (List.mem_append_right _ (List.mem_append_right _ (List.mem_append_right _ (List.mem_append_right _ (List.mem_append_left _ h)))))))
  have g_r_isWord : ∀ w ∈ zw_r_isWord, w ∈ zw_r_unit := fun w h => List.mem_append_right _ (List.mem_append_right _ (List.mem_append_right _ (List.mem_append_right _ (List.mem_append_right _ (List.mem_append_right _ (List.mem_append_right _ (List.mem_append_right _ (List.mem_append_left _ h))))))))
  have i_X9 : ∀ w ∈ u_ws RX9 TX9 81, w ∈ zw_r_unit := fun w h => List.mem_append_right _ (List.mem_append_right _ (List.mem_append_right _ (List.mem_append_right _ (List.mem_append_right _ (List.mem_append_right _ (List.mem_append_right _ (List.mem_append_right _ (List.mem_append_right _ (List.mem_append_left _ h)))))))))
  have lt_0 : (0 : Int32).toInt = 0 := by decide
  have lt_1 : (1 : Int32).toInt = 1 := by decide
  have lt_3 : (3 : Int32).toInt = 3 := by decide
  have lt_4 : (4 : Int32).toInt = 4 := by decide
  have lt_7 : (7 : Int32).toInt = 7 := by decide
  have lt_40 : (40 : Int32).toInt = 40 := by decide
  have lt_60 : (60 : Int32).toInt = 60 := by decide
  have lt_110 : (110 : Int32).toInt = 110 := by decide
  have lt_126 : (126 : Int32).toInt = 126 := by decide
  have hl := lv_entry ([.ref p0]) (n := 6) (Nat.le_of_ble_eq_true rfl)
  rw [lg_entry_eq]
  generalize (lg_sl ([.ref p0]) ++ List.replicate (6 - (lg_sl ([.ref p0])).length) Slot.unset).toArray = ls at hl ⊢
  have hl : lv_has ls 6 [(0, .ref p0)] := hl
  have tat0 := (OKX9_g6 ho_p0).use pf_at0
  have ten := (OKX9_g7 ho_p0).use pf_en
  have ttk := (OKX9_g8 ho_p0).use pf_tk
  have tsiz := (OKX9_g3 ho_p0).use pf_siz
  have tfk := (OKX9_g4 ho_p0).use pf_fk
  have trb := (OKX9_g44 ho_p0).use pf_rb
  have hbd := hEI.bd
  have jn_2 : ∀ (j_1 : Int32) (H : Heap) (locs : List Loc) (ls : Array Slot) (tj_1 : (0) ≤ j_1.toInt ∧ j_1.toInt ≤ 1), va_P (dC, dI) vwCl (zW_r_unit p0 f_p0 p0_code c_p0_code b_p0_code p0_codeNumber c_p0_codeNumber b_p0_codeNumber p0_eSign c_p0_eSign b_p0_eSign p0_eWhat c_p0_eWhat b_p0_eWhat p0_text c_p0_text b_p0_text) H → va_S A s.heap H locs → lv_has ls 6 [(0, .ref p0)] → W p l e (headSpec zw_r_unit { frames := 2, cells := 0, slots := 0, locals := 44 }).room s m ([.ref p0] : List Value).toArray below meth c H locs 0 0 (MQ below (q_Qi (dC, dI) (zG_r_unit p0 f_p0 p0_code c_p0_code b_p0_code p0_codeNumber c_p0_codeNumber b_p0_codeNumber p0_eSign c_p0_eSign b_p0_eSign p0_eWhat c_p0_eWhat b_p0_eWhat p0_text c_p0_text b_p0_text at0 en tk siz fk co un wi pi rb bas) (zA_r_unit p0 p0_code p0_codeNumber p0_eSign p0_eWhat p0_text) A) ([.ref p0] : List Value).toArray s 0 0 A) (F0 m 36 ls [.int j_1]) := by
    intro j_1 H3 lo3 ls tj_1 hP3 hS3 hl
    refine lv_istore_n (lv' := [(1, .int j_1), (0, .ref p0)]) hx hb dX9_unit_36 rfl hl (by decide) rfl (fun ls hl => ?_)
    have jn_5 : ∀ (j_4 : Int32) (H : Heap) (locs : List Loc) (ls : Array Slot) (tj_4 : (0) ≤ j_4.toInt ∧ j_4.toInt ≤ 1), va_P (dC, dI) vwCl (zW_r_unit p0 f_p0 p0_code c_p0_code b_p0_code p0_codeNumber c_p0_codeNumber b_p0_codeNumber p0_eSign c_p0_eSign b_p0_eSign p0_eWhat c_p0_eWhat b_p0_eWhat p0_text c_p0_text b_p0_text) H → va_S A s.heap H locs → lv_has ls 6 [(1, .int j_1), (0, .ref p0)] → W p l e (headSpec zw_r_unit { frames := 2, cells := 0, slots := 0, locals := 44 }).room s m ([.ref p0] : List Value).toArray below meth c H locs 0 0 (MQ below (q_Qi (dC, dI) (zG_r_unit p0 f_p0 p0_code c_p0_code b_p0_code p0_codeNumber c_p0_codeNumber b_p0_codeNumber p0_eSign c_p0_eSign b_p0_eSign p0_eWhat c_p0_eWhat b_p0_eWhat p0_text c_p0_text b_p0_text at0 en tk siz fk co un wi pi rb bas) (zA_r_unit p0 p0_code p0_codeNumber p0_eSign p0_eWhat p0_text) A) ([.ref p0] : List Value).toArray s 0 0 A) (F0 m 56 ls [.int j_4]) := by
      intro j_4 H6 lo6 ls tj_4 hP6 hS6 hl
      refine lv_istore_n (lv' := [(2, .int j_4), (1, .int j_1), (0, .ref p0)]) hx hb dX9_unit_56 rfl hl (by decide) rfl (fun ls hl => ?_)
      have jn_8 : ∀ (j_7 : Int32) (H : Heap) (locs : List Loc) (ls : Array Slot) (tj_7 : (0) ≤ j_7.toInt ∧ j_7.toInt ≤ 1), va_P (dC, dI) vwCl (zW_r_unit p0 f_p0 p0_code c_p0_code b_p0_code p0_codeNumber c_p0_codeNumber b_p0_codeNumber p0_eSign c_p0_eSign b_p0_eSign p0_eWhat c_p0_eWhat b_p0_eWhat p0_text c_p0_text b_p0_text) H → va_S A s.heap H locs → lv_has ls 6 [(2, .int j_4), (1, .int j_1), (0, .ref p0)] → W p l e (headSpec zw_r_unit { frames := 2, cells := 0, slots := 0, locals := 44 }).room s m ([.ref p0] : List Value).toArray below meth c H locs 0 0 (MQ below (q_Qi (dC, dI) (zG_r_unit p0 f_p0 p0_code c_p0_code b_p0_code p0_codeNumber c_p0_codeNumber b_p0_codeNumber p0_eSign c_p0_eSign b_p0_eSign p0_eWhat c_p0_eWhat b_p0_eWhat p0_text c_p0_text b_p0_text at0 en tk siz fk co un wi pi rb bas) (zA_r_unit p0 p0_code p0_codeNumber p0_eSign p0_eWhat p0_text) A) ([.ref p0] : List Value).toArray s 0 0 A) (F0 m 63 ls [.int j_7]) := by
        intro j_7 H9 lo9 ls tj_7 hP9 hS9 hl
        refine lv_istore_n (lv' := [(3, .int j_7), (2, .int j_4), (1, .int j_1), (0, .ref p0)]) hx hb dX9_unit_63 rfl hl (by decide) rfl (fun ls hl => ?_)
        refine lv_aload_n hx hb dX9_unit_64 rfl (lv_at hl 3 rfl) ?_
        refine q_cVi (As := []) (rest := []) q_w0 trivial hK hP9 hDa za_r_unit hS9 hA [0] [] (by decide +kernel) ⟨hx, hb, hml, hown, hts⟩ (r_wordHere l dC dI H9.size p0 f_p0 ho_p0) rfl rfl (cwV 0 hts (p1_gV m_0 m_1 m_2 m_3 g_r_wordHere gz_r_wordHere) rfl rfl rfl (by decide +kernel) ⟨by decide, by decide⟩) (va_recv hK hP9 (ci := 8) (q0 := 0) rfl rfl) zm_r_wordHere rfl hl.1 rfl (Nat.le_of_ble_eq_true rfl) dX9_unit_65 ⟨by decide, by decide⟩ (fun r_10 H11 lo11 hG11 hS11 => ?_)
        obtain ⟨z_12, hQ11⟩ := hG11
        have hP11 : va_P (dC, dI) vwCl (zW_r_unit p0 f_p0 p0_code c_p0_code b_p0_code p0_codeNumber c_p0_codeNumber b_p0_codeNumber p0_eSign c_p0_eSign b_p0_eSign p0_eWhat c_p0_eWhat b_p0_eWhat p0_text c_p0_text b_p0_text) H11 := hQ11
        clear hQ11 hP9 hS9
        refine lv_istore (lv' := [(4, .int r_10), (3, .int j_7), (2, .int j_4), (1, .int j_1), (0, .ref p0)]) hx hb dX9_unit_68 hl (by decide) rfl (fun ls hl => ?_)
        have jn_13 : ∀ (fz_p0 : List Value) (fkv : Int32) (H : Heap) (locs : List Loc) (ls : Array Slot) (ho_fz_p0 : OKX9 fz_p0) (hf_fz_p0 : q_fr [4, 5, 6, 7, 8, 9, 10, 45, 46, 47, 48] f_p0 fz_p0) (fr_fz_p0_1 : q_rf fz_p0 1 p0_text) (fh_fz_p0_3 : q_if fz_p0 3 siz) (fv_fz_p0_4 : q_if fz_p0 4 fkv) (tfkv : (0) ≤ fkv.toInt ∧ fkv.toInt ≤ 4) (fh_fz_p0_6 : q_if fz_p0 6 at0) (fh_fz_p0_7 : q_if fz_p0 7 en) (fh_fz_p0_8 : q_if fz_p0 8 tk) (fr_fz_p0_38 : q_rf fz_p0 38 p0_code) (fr_fz_p0_39 : q_rf fz_p0 39 p0_codeNumber) (fr_fz_p0_40 : q_rf fz_p0 40 p0_eWhat) (fr_fz_p0_41 : q_rf fz_p0 41 p0_eSign) (fh_fz_p0_44 : q_if fz_p0 44 rb) (fh_fz_p0_45 : q_if fz_p0 45 co) (fh_fz_p0_46 : q_if fz_p0 46 un) (fh_fz_p0_47 : q_if fz_p0 47 wi) (fh_fz_p0_48 : q_if fz_p0 48 pi) (hq0 : 1 ≤ fkv.toInt ∨ (fkv.toInt = fk.toInt ∧ (1 ≤ j_4.toInt ∨ un.toInt ≠ 60) ∧ ((j_4.toInt = 0 ∧ j_7.toInt = 0) ∨ wi.toInt ≠ 7))), va_P (dC, dI) vwCl (zW_r_unit p0 fz_p0 p0_code c_p0_code b_p0_code p0_codeNumber c_p0_codeNumber b_p0_codeNumber p0_eSign c_p0_eSign b_p0_eSign p0_eWhat c_p0_eWhat b_p0_eWhat p0_text c_p0_text b_p0_text) H → va_S A s.heap H locs → lv_has ls 6 [(4, .int r_10), (3, .int j_7), (2, .int j_4), (1, .int j_1), (0, .ref p0)] → W p l e (headSpec zw_r_unit { frames := 2, cells := 0, slots := 0, locals := 44 }).room s m ([.ref p0] : List Value).toArray below meth c H locs 0 0 (MQ below (q_Qi (dC, dI) (zG_r_unit p0 f_p0 p0_code c_p0_code b_p0_code p0_codeNumber c_p0_codeNumber b_p0_codeNumber p0_eSign c_p0_eSign b_p0_eSign p0_eWhat c_p0_eWhat b_p0_eWhat p0_text c_p0_text b_p0_text at0 en tk siz fk co un wi pi rb bas) (zA_r_unit p0 p0_code p0_codeNumber p0_eSign p0_eWhat p0_text) A) ([.ref p0] : List Value).toArray s 0 0 A) (F0 m 121 ls []) := by
          intro fz_p0 fkv H14 lo14 ls ho_fz_p0 hf_fz_p0 fr_fz_p0_1 fh_fz_p0_3 fv_fz_p0_4 tfkv fh_fz_p0_6 fh_fz_p0_7 fh_fz_p0_8 fr_fz_p0_38 fr_fz_p0_39 fr_fz_p0_40 fr_fz_p0_41 fh_fz_p0_44 fh_fz_p0_45 fh_fz_p0_46 fh_fz_p0_47 fh_fz_p0_48 hq0 hP14 hS14 hl
          refine lv_aload_n hx hb dX9_unit_121 rfl (lv_at hl 4 rfl) ?_
          refine q_cVi (As := []) (rest := []) q_w0 trivial hK hP14 hDa za_r_unit hS14 hA [0] [] (by decide +kernel) ⟨hx, hb, hml, hown, hts⟩ (r_isGood l dC dI H14.size p0 fz_p0 fkv ho_fz_p0 fv_fz_p0_4) rfl rfl (cwV 0 hts (p1_gV m_4 m_5 m_6 m_3 g_r_isGood gz_r_isGood) rfl rfl rfl (by decide +kernel) ⟨by decide, by decide⟩) (va_recv hK hP14 (ci := 8) (q0 := 0) rfl rfl) zm_r_isGood rfl hl.1 rfl (Nat.le_of_ble_eq_true rfl) dX9_unit_122 ⟨by decide, by decide⟩ (fun r_15 H16 lo16 hG16 hS16 => ?_)
          obtain ⟨z_17, hQ16⟩ := hG16
          have hP16 : va_P (dC, dI) vwCl (zW_r_unit p0 fz_p0 p0_code c_p0_code b_p0_code p0_codeNumber c_p0_codeNumber b_p0_codeNumber p0_eSign c_p0_eSign b_p0_eSign p0_eWhat c_p0_eWhat b_p0_eWhat p0_text c_p0_text b_p0_text) H16 := hQ16
          clear hQ16 hP14 hS14
          rcases z_17 with ⟨rfl, z_17⟩ | ⟨rfl, z_17⟩
          · refine lv_if_ne (tgt := 130) hx hb dX9_unit_125 (by decide) (fun c_18 => ?_) (fun c_18 => absurd c_18 (by decide))
            refine lv_aload_n hx hb dX9_unit_130 rfl (lv_at hl 4 rfl) (lv_dup hx hb dX9_unit_131 rfl (qg_X9_46 hx hb hts i_X9 hown hK hP16 0 rfl k_7 fh_fz_p0_46 dX9_unit_132 (lv_iload_n hx hb dX9_unit_135 rfl (lv_at hl 2 rfl) ?_)))
            refine lv_if_eq (tgt := 143) hx hb dX9_unit_136 (by decide) (fun c_19 => ?_) (fun c_19 => ?_)
            · have tc_19 := q_eq c_19
              refine lv_iconst (v := 1) hx hb dX9_unit_143 (by decide) (lv_iadd hx hb dX9_unit_144 (lv_topi fun v_20 ev_20 => ?_))
              have tv_20 := q_add ev_20 (by omega) (by omega)
              refine qp_X9_46 hx hb hts i_X9 hown hK hP16 hDa za_r_unit hS16 0 rfl k_7 (OKX9_l ho_fz_p0) dX9_unit_145 (fun H21 lo21 fs21 efs21 (hP21 : va_P (dC, dI) vwCl (zW_r_unit p0 fs21 p0_code c_p0_code b_p0_code p0_codeNumber c_p0_codeNumber b_p0_codeNumber p0_eSign c_p0_eSign b_p0_eSign p0_eWhat c_p0_eWhat b_p0_eWhat p0_text c_p0_text b_p0_text) H21) hS21 => ?_)
              have ho21 := OKX9_p46 ho_fz_p0 efs21
              clear hP16 hS16
              refine lv_iload hx hb dX9_unit_148 (lv_at hl 0 rfl) ?_
              refine lv_if_ne (tgt := 160) hx hb dX9_unit_150 (by decide) (fun c_22 => ?_) (fun c_22 => ?_)
              · have tc_22 := q_ne c_22
                refine lv_iconst (v := 0) hx hb dX9_unit_160 (by decide) (lv_istore (lv' := [(5, .int 0), (4, .int r_10), (3, .int j_7), (2, .int j_4), (1, .int j_1), (0, .ref p0)]) hx hb dX9_unit_161 hl (by decide) rfl (fun ls hl => ?_))
                refine lv_aload_n hx hb dX9_unit_163 rfl (lv_at hl 5 rfl) ?_
                refine q_cVv (As := []) (rest := []) q_w0 trivial hK hP21 hDa za_r_unit hS21 hA [0, 5] [4] (by decide +kernel) ⟨hx, hb, hml, hown, hts⟩ (r_goOn l dC dI H21.size p0 fs21 p0_text c_p0_text b_p0_text en siz ho21 ((q_sn efs21 (by decide) fr_fz_p0_1)) ((q_sn efs21 (by decide) fh_fz_p0_7)) ((q_sn efs21 (by decide) fh_fz_p0_3)) ((by omega))) rfl rfl (cwV 0 hts (p1_gV m_8 m_9 m_10 m_3 g_r_goOn gz_r_goOn) rfl rfl rfl (by decide +kernel) ⟨by decide, by decide⟩) (va_recv hK hP21 (ci := 8) (q0 := 0) rfl rfl) zm_r_goOn rfl hl.1 rfl (Nat.le_of_ble_eq_true rfl) dX9_unit_164 ⟨by decide, by decide⟩ (fun H24 lo24 hG24 hS24 => ?_)
                obtain ⟨o_25, o_26, o_27, o_28, ho_29, hf_30, z_31, z_32, z_33, z_34, hQ24⟩ := hG24
                have to_26 := (OKX9_g6 ho_29).use z_31
                have to_27 := (OKX9_g7 ho_29).use z_32
                have to_28 := (OKX9_g8 ho_29).use z_33
                have hP24 : va_P (dC, dI) vwCl (zW_r_unit p0 o_25 p0_code c_p0_code b_p0_code p0_codeNumber c_p0_codeNumber b_p0_codeNumber p0_eSign c_p0_eSign b_p0_eSign p0_eWhat c_p0_eWhat b_p0_eWhat p0_text c_p0_text b_p0_text) H24 := hQ24
                clear hQ24 hP21 hS21
                refine lv_iload_n hx hb dX9_unit_167 rfl (lv_at hl 3 rfl) ?_
                refine lv_if_ne (tgt := 175) hx hb dX9_unit_168 (by decide) (fun c_35 => ?_) (fun c_35 => ?_)
                · have tc_35 := q_ne c_35
                  refine lv_aload_n hx hb dX9_unit_175 rfl (lv_at hl 5 rfl) (lv_iload_n hx hb dX9_unit_176 rfl (lv_at hl 3 rfl) (lv_if_eq (tgt := 184) hx hb dX9_unit_177 (by decide) (fun c_36 => by exfalso; have t9 := q_eq c_36; omega) (fun c_36 => ?_)))
                  have tc_36 := q_neN c_36
                  refine lv_iconst (v := 3) hx hb dX9_unit_180 (by decide) (lv_goto (tgt := 186) hx hb dX9_unit_181 (by decide) (lv_bipush (v := 126) hx hb dX9_unit_186 (by decide) ?_))
                  refine q_cVv (As := [.int 3, .int 126]) (rest := []) q_w0 trivial hK hP24 hDa za_r_unit hS24 hA [0, 3, 4] [2, 3] (by decide +kernel) ⟨hx, hb, hml, hown, hts⟩ (r_pushE l dC dI H24.size p0 o_25 p0_eSign c_p0_eSign b_p0_eSign p0_eWhat c_p0_eWhat b_p0_eWhat 3 126 pi ho_29 ((hf_30.u (by decide) (q_sn efs21 (by decide) fr_fz_p0_40))) ((hf_30.u (by decide) (q_sn efs21 (by decide) fr_fz_p0_41))) ((hf_30.u (by decide) (q_sn efs21 (by decide) fh_fz_p0_48))) ((by omega))) rfl rfl (cwV 2 hts (p1_gV m_11 m_12 m_13 m_3 g_r_pushE gz_r_pushE) rfl rfl rfl (by decide +kernel) ⟨by decide, by decide⟩) (va_recv hK hP24 (ci := 8) (q0 := 0) rfl rfl) zm_r_pushE rfl hl.1 rfl (Nat.le_of_ble_eq_true rfl) dX9_unit_188 ⟨by decide, by decide⟩ (fun H38 lo38 hG38 hS38 => ?_)
                  obtain ⟨o_39, o_40, o_41, o_42, ho_43, hf_44, z_45, z_46, z_47, z_48, hQ38⟩ := hG38
                  have hP38 : va_P (dC, dI) vwCl (zW_r_unit p0 o_39 p0_code c_p0_code b_p0_code p0_codeNumber c_p0_codeNumber b_p0_codeNumber p0_eSign c_p0_eSign o_40 p0_eWhat c_p0_eWhat o_41 p0_text c_p0_text b_p0_text) H38 := hQ38
                  clear hQ38 hP24 hS24
                  refine lv_aload_n hx hb dX9_unit_191 rfl (lv_at hl 5 rfl) (lv_dup hx hb dX9_unit_192 rfl (qg_X9_47 hx hb hts i_X9 hown hK hP38 0 rfl k_14 (hf_44.u (by decide) (hf_30.u (by decide) (q_sn efs21 (by decide) fh_fz_p0_47))) dX9_unit_193 (lv_iconst (v := 1) hx hb dX9_unit_196 (by decide) (lv_iadd hx hb dX9_unit_197 (lv_topi fun v_49 ev_49 => ?_)))))
                  have tv_49 := q_add ev_49 (by omega) (by omega)
                  refine qp_X9_47 hx hb hts i_X9 hown hK hP38 hDa za_r_unit hS38 0 rfl k_14 (OKX9_l ho_43) dX9_unit_198 (fun H50 lo50 fs50 efs50 (hP50 : va_P (dC, dI) vwCl (zW_r_unit p0 fs50 p0_code c_p0_code b_p0_code p0_codeNumber c_p0_codeNumber b_p0_codeNumber p0_eSign c_p0_eSign o_40 p0_eWhat c_p0_eWhat o_41 p0_text c_p0_text b_p0_text) H50) hS50 => ?_)
                  have ho50 := OKX9_p47 ho_43 efs50
                  clear hP38 hS38
                  refine lv_iconst (v := 1) hx hb dX9_unit_201 (by decide) ?_
                  exact q_zret hx hb hr hlocks (by decide) hS50 dX9_unit_202 ⟨fs50, b_p0_code, b_p0_codeNumber, o_40, o_41, o_26, o_27, o_28, fkv, co, v_20, v_49, o_42, (Or.inl ⟨rfl, Or.inr ⟨by omega, q_EI.cast (hEI.push (un' := v_20.toInt) z_47 z_48 (by unfold q_nb; omega) (by omega) (by omega) (by omega) (by omega)) (by omega) (by omega) (by omega) (by omega), by omega⟩⟩), ho50, ((((hf_fz_p0.st efs21 (by decide)).tr hf_30 (by decide)).tr hf_44 (by decide)).st efs50 (by decide)), (q_sn efs50 (by decide) (hf_44.u (by decide) z_31)), (q_sn efs50 (by decide) (hf_44.u (by decide) z_32)), (q_sn efs50 (by decide) (hf_44.u (by decide) z_33)), (q_sn efs50 (by decide) (hf_44.u (by decide) (hf_30.u (by decide) (q_sn efs21 (by decide) fv_fz_p0_4)))), (q_sn efs50 (by decide) (hf_44.u (by decide) (hf_30.u (by decide) (q_sn efs21 (by decide) fh_fz_p0_45)))), (q_sn efs50 (by decide) (hf_44.u (by decide) (hf_30.u (by decide) (q_sa efs21 (OKX9_l ho_fz_p0) (by decide))))), (q_sa efs50 (OKX9_l ho_43) (by decide)), (q_sn efs50 (by decide) z_45), (by omega), (by omega), (by omega), q_offc.rf, (by omega), (by omega), hP50, za_r_unit⟩
                · have tc_35 := q_eqN c_35
                  refine lv_iload_n hx hb dX9_unit_171 rfl (lv_at hl 2 rfl) ?_
                  refine lv_if_eq (tgt := 203) hx hb dX9_unit_172 (by decide) (fun c_51 => ?_) (fun c_51 => ?_)
                  · have tc_51 := q_eq c_51
                    refine lv_aload_n hx hb dX9_unit_203 rfl (lv_at hl 5 rfl) (lv_iload hx hb dX9_unit_204 (lv_at hl 1 rfl) (lv_if_ne (tgt := 214) hx hb dX9_unit_206 (by decide) (fun c_52 => ?_) (fun c_52 => by exfalso; have t9 := q_eqN c_52; omega)))
                    have tc_52 := q_ne c_52
                    refine lv_iload hx hb dX9_unit_214 (lv_at hl 1 rfl) (lv_iload hx hb dX9_unit_216 (lv_at hl 0 rfl) ?_)
                    refine q_cVv (As := [.int r_10, .int 0]) (rest := []) q_w0 trivial hK hP24 hDa za_r_unit hS24 hA [0, 1, 2] [0, 1] (by decide +kernel) ⟨hx, hb, hml, hown, hts⟩ (r_emit l dC dI H24.size p0 o_25 p0_code c_p0_code b_p0_code p0_codeNumber c_p0_codeNumber b_p0_codeNumber r_10 0 co ho_29 ((hf_30.u (by decide) (q_sn efs21 (by decide) fr_fz_p0_38))) ((hf_30.u (by decide) (q_sn efs21 (by decide) fr_fz_p0_39))) ((hf_30.u (by decide) (q_sn efs21 (by decide) fh_fz_p0_45))) ((by omega))) rfl rfl (cwV 2 hts (p1_gV m_15 m_16 m_17 m_3 g_r_emit gz_r_emit) rfl rfl rfl (by decide +kernel) ⟨by decide, by decide⟩) (va_recv hK hP24 (ci := 8) (q0 := 0) rfl rfl) zm_r_emit rfl hl.1 rfl (Nat.le_of_ble_eq_true rfl) dX9_unit_218 ⟨by decide, by decide⟩ (fun H54 lo54 hG54 hS54 => ?_)
                    obtain ⟨o_55, o_56, o_57, o_58, ho_59, hf_60, z_61, z_62, z_63, hQ54⟩ := hG54
                    have hP54 : va_P (dC, dI) vwCl (zW_r_unit p0 o_55 p0_code c_p0_code o_56 p0_codeNumber c_p0_codeNumber o_57 p0_eSign c_p0_eSign b_p0_eSign p0_eWhat c_p0_eWhat b_p0_eWhat p0_text c_p0_text b_p0_text) H54 := hQ54
                    clear hQ54 hP24 hS24
                    refine lv_iconst (v := 0) hx hb dX9_unit_221 (by decide) ?_
                    exact q_zret hx hb hr hlocks (by decide) hS54 dX9_unit_222 ⟨o_55, o_56, o_57, b_p0_eSign, b_p0_eWhat, o_26, o_27, o_28, fkv, o_58, v_20, wi, pi, (Or.inr ⟨rfl, q_EI.cast (hEI.unit z_63 ⟨by omega, by omega⟩ (by omega)) (by omega) (by omega) (by omega) (by omega), by omega, by omega⟩), ho_59, (((hf_fz_p0.st efs21 (by decide)).tr hf_30 (by decide)).tr hf_60 (by decide)), (hf_60.u (by decide) z_31), (hf_60.u (by decide) z_32), (hf_60.u (by decide) z_33), (hf_60.u (by decide) (hf_30.u (by decide) (q_sn efs21 (by decide) fv_fz_p0_4))), z_61, (hf_60.u (by decide) (hf_30.u (by decide) (q_sa efs21 (OKX9_l ho_fz_p0) (by decide)))), (hf_60.u (by decide) (hf_30.u (by decide) (q_sn efs21 (by decide) fh_fz_p0_47))), (hf_60.u (by decide) (hf_30.u (by decide) (q_sn efs21 (by decide) fh_fz_p0_48))), (by omega), (by omega), (by omega), (q_offc.rf.up z_63 (by omega) (by omega)), (by omega), (by omega), hP54, za_r_unit⟩
                  · have tc_51 := q_neN c_51
                    refine lv_aload_n hx hb dX9_unit_175 rfl (lv_at hl 5 rfl) (lv_iload_n hx hb dX9_unit_176 rfl (lv_at hl 3 rfl) ?_)
                    refine lv_if_eq (tgt := 184) hx hb dX9_unit_177 (by decide) (fun c_64 => ?_) (fun c_64 => ?_)
                    · have tc_64 := q_eq c_64
                      refine lv_bipush (v := 7) hx hb dX9_unit_184 (by decide) (lv_bipush (v := 126) hx hb dX9_unit_186 (by decide) ?_)
                      refine q_cVv (As := [.int 7, .int 126]) (rest := []) q_w0 trivial hK hP24 hDa za_r_unit hS24 hA [0, 3, 4] [2, 3] (by decide +kernel) ⟨hx, hb, hml, hown, hts⟩ (r_pushE l dC dI H24.size p0 o_25 p0_eSign c_p0_eSign b_p0_eSign p0_eWhat c_p0_eWhat b_p0_eWhat 7 126 pi ho_29 ((hf_30.u (by decide) (q_sn efs21 (by decide) fr_fz_p0_40))) ((hf_30.u (by decide) (q_sn efs21 (by decide) fr_fz_p0_41))) ((hf_30.u (by decide) (q_sn efs21 (by decide) fh_fz_p0_48))) ((by omega))) rfl rfl (cwV 2 hts (p1_gV m_11 m_12 m_13 m_3 g_r_pushE gz_r_pushE) rfl rfl rfl (by decide +kernel) ⟨by decide, by decide⟩) (va_recv hK hP24 (ci := 8) (q0 := 0) rfl rfl) zm_r_pushE rfl hl.1 rfl (Nat.le_of_ble_eq_true rfl) dX9_unit_188 ⟨by decide, by decide⟩ (fun H66 lo66 hG66 hS66 => ?_)
                      obtain ⟨o_67, o_68, o_69, o_70, ho_71, hf_72, z_73, z_74, z_75, z_76, hQ66⟩ := hG66
                      have hP66 : va_P (dC, dI) vwCl (zW_r_unit p0 o_67 p0_code c_p0_code b_p0_code p0_codeNumber c_p0_codeNumber b_p0_codeNumber p0_eSign c_p0_eSign o_68 p0_eWhat c_p0_eWhat o_69 p0_text c_p0_text b_p0_text) H66 := hQ66
                      clear hQ66 hP24 hS24
                      refine lv_aload_n hx hb dX9_unit_191 rfl (lv_at hl 5 rfl) (lv_dup hx hb dX9_unit_192 rfl (qg_X9_47 hx hb hts i_X9 hown hK hP66 0 rfl k_14 (hf_72.u (by decide) (hf_30.u (by decide) (q_sn efs21 (by decide) fh_fz_p0_47))) dX9_unit_193 (lv_iconst (v := 1) hx hb dX9_unit_196 (by decide) (lv_iadd hx hb dX9_unit_197 (lv_topi fun v_77 ev_77 => ?_)))))
                      have tv_77 := q_add ev_77 (by omega) (by omega)
                      refine qp_X9_47 hx hb hts i_X9 hown hK hP66 hDa za_r_unit hS66 0 rfl k_14 (OKX9_l ho_71) dX9_unit_198 (fun H78 lo78 fs78 efs78 (hP78 : va_P (dC, dI) vwCl (zW_r_unit p0 fs78 p0_code c_p0_code b_p0_code p0_codeNumber c_p0_codeNumber b_p0_codeNumber p0_eSign c_p0_eSign o_68 p0_eWhat c_p0_eWhat o_69 p0_text c_p0_text b_p0_text) H78) hS78 => ?_)
                      have ho78 := OKX9_p47 ho_71 efs78
                      clear hP66 hS66
                      refine lv_iconst (v := 1) hx hb dX9_unit_201 (by decide) ?_
                      exact q_zret hx hb hr hlocks (by decide) hS78 dX9_unit_202 ⟨fs78, b_p0_code, b_p0_codeNumber, o_68, o_69, o_26, o_27, o_28, fkv, co, v_20, v_77, o_70, (Or.inl ⟨rfl, Or.inr ⟨by omega, q_EI.cast (hEI.push (un' := v_20.toInt) z_75 z_76 (by unfold q_nb; omega) (by omega) (by omega) (by omega) (by omega)) (by omega) (by omega) (by omega) (by omega), by omega⟩⟩), ho78, ((((hf_fz_p0.st efs21 (by decide)).tr hf_30 (by decide)).tr hf_72 (by decide)).st efs78 (by decide)), (q_sn efs78 (by decide) (hf_72.u (by decide) z_31)), (q_sn efs78 (by decide) (hf_72.u (by decide) z_32)), (q_sn efs78 (by decide) (hf_72.u (by decide) z_33)), (q_sn efs78 (by decide) (hf_72.u (by decide) (hf_30.u (by decide) (q_sn efs21 (by decide) fv_fz_p0_4)))), (q_sn efs78 (by decide) (hf_72.u (by decide) (hf_30.u (by decide) (q_sn efs21 (by decide) fh_fz_p0_45)))), (q_sn efs78 (by decide) (hf_72.u (by decide) (hf_30.u (by decide) (q_sa efs21 (OKX9_l ho_fz_p0) (by decide))))), (q_sa efs78 (OKX9_l ho_71) (by decide)), (q_sn efs78 (by decide) z_73), (by omega), (by omega), (by omega), q_offc.rf, (by omega), (by omega), hP78, za_r_unit⟩
                    · have tc_64 := q_neN c_64
                      refine lv_iconst (v := 3) hx hb dX9_unit_180 (by decide) (lv_goto (tgt := 186) hx hb dX9_unit_181 (by decide) (lv_bipush (v := 126) hx hb dX9_unit_186 (by decide) ?_))
                      refine q_cVv (As := [.int 3, .int 126]) (rest := []) q_w0 trivial hK hP24 hDa za_r_unit hS24 hA [0, 3, 4] [2, 3] (by decide +kernel) ⟨hx, hb, hml, hown, hts⟩ (r_pushE l dC dI H24.size p0 o_25 p0_eSign c_p0_eSign b_p0_eSign p0_eWhat c_p0_eWhat b_p0_eWhat 3 126 pi ho_29 ((hf_30.u (by decide) (q_sn efs21 (by decide) fr_fz_p0_40))) ((hf_30.u (by decide) (q_sn efs21 (by decide) fr_fz_p0_41))) ((hf_30.u (by decide) (q_sn efs21 (by decide) fh_fz_p0_48))) ((by omega))) rfl rfl (cwV 2 hts (p1_gV m_11 m_12 m_13 m_3 g_r_pushE gz_r_pushE) rfl rfl rfl (by decide +kernel) ⟨by decide, by decide⟩) (va_recv hK hP24 (ci := 8) (q0 := 0) rfl rfl) zm_r_pushE rfl hl.1 rfl (Nat.le_of_ble_eq_true rfl) dX9_unit_188 ⟨by decide, by decide⟩ (fun H80 lo80 hG80 hS80 => ?_)
                      obtain ⟨o_81, o_82, o_83, o_84, ho_85, hf_86, z_87, z_88, z_89, z_90, hQ80⟩ := hG80
                      have hP80 : va_P (dC, dI) vwCl (zW_r_unit p0 o_81 p0_code c_p0_code b_p0_code p0_codeNumber c_p0_codeNumber b_p0_codeNumber p0_eSign c_p0_eSign o_82 p0_eWhat c_p0_eWhat o_83 p0_text c_p0_text b_p0_text) H80 := hQ80
                      clear hQ80 hP24 hS24
                      refine lv_aload_n hx hb dX9_unit_191 rfl (lv_at hl 5 rfl) (lv_dup hx hb dX9_unit_192 rfl (qg_X9_47 hx hb hts i_X9 hown hK hP80 0 rfl k_14 (hf_86.u (by decide) (hf_30.u (by decide) (q_sn efs21 (by decide) fh_fz_p0_47))) dX9_unit_193 (lv_iconst (v := 1) hx hb dX9_unit_196 (by decide) (lv_iadd hx hb dX9_unit_197 (lv_topi fun v_91 ev_91 => ?_)))))
                      have tv_91 := q_add ev_91 (by omega) (by omega)
                      refine qp_X9_47 hx hb hts i_X9 hown hK hP80 hDa za_r_unit hS80 0 rfl k_14 (OKX9_l ho_85) dX9_unit_198 (fun H92 lo92 fs92 efs92 (hP92 : va_P (dC, dI) vwCl (zW_r_unit p0 fs92 p0_code c_p0_code b_p0_code p0_codeNumber c_p0_codeNumber b_p0_codeNumber p0_eSign c_p0_eSign o_82 p0_eWhat c_p0_eWhat o_83 p0_text c_p0_text b_p0_text) H92) hS92 => ?_)
                      have ho92 := OKX9_p47 ho_85 efs92
                      clear hP80 hS80
                      refine lv_iconst (v := 1) hx hb dX9_unit_201 (by decide) ?_
                      exact q_zret hx hb hr hlocks (by decide) hS92 dX9_unit_202 ⟨fs92, b_p0_code, b_p0_codeNumber, o_82, o_83, o_26, o_27, o_28, fkv, co, v_20, v_91, o_84, (Or.inl ⟨rfl, Or.inr ⟨by omega, q_EI.cast (hEI.push (un' := v_20.toInt) z_89 z_90 (by unfold q_nb; omega) (by omega) (by omega) (by omega) (by omega)) (by omega) (by omega) (by omega) (by omega), by omega⟩⟩), ho92, ((((hf_fz_p0.st efs21 (by decide)).tr hf_30 (by decide)).tr hf_86 (by decide)).st efs92 (by decide)), (q_sn efs92 (by decide) (hf_86.u (by decide) z_31)), (q_sn efs92 (by decide) (hf_86.u (by decide) z_32)), (q_sn efs92 (by decide) (hf_86.u (by decide) z_33)), (q_sn efs92 (by decide) (hf_86.u (by decide) (hf_30.u (by decide) (q_sn efs21 (by decide) fv_fz_p0_4)))), (q_sn efs92 (by decide) (hf_86.u (by decide) (hf_30.u (by decide) (q_sn efs21 (by decide) fh_fz_p0_45)))), (q_sn efs92 (by decide) (hf_86.u (by decide) (hf_30.u (by decide) (q_sa efs21 (OKX9_l ho_fz_p0) (by decide))))), (q_sa efs92 (OKX9_l ho_85) (by decide)), (q_sn efs92 (by decide) z_87), (by omega), (by omega), (by omega), q_offc.rf, (by omega), (by omega), hP92, za_r_unit⟩
              · have tc_22 := q_eqN c_22
                refine lv_aload_n hx hb dX9_unit_153 rfl (lv_at hl 4 rfl) ?_
                obtain ⟨v_93, fv_93⟩ := OKX9_g9 ho21
                refine qg_X9_9 hx hb hts i_X9 hown hK hP21 0 rfl k_18 fv_93 dX9_unit_154 (lv_goto (tgt := 161) hx hb dX9_unit_157 (by decide) (lv_istore (lv' := [(5, .int v_93), (4, .int r_10), (3, .int j_7), (2, .int j_4), (1, .int j_1), (0, .ref p0)]) hx hb dX9_unit_161 hl (by decide) rfl (fun ls hl => ?_)))
                refine lv_aload_n hx hb dX9_unit_163 rfl (lv_at hl 5 rfl) ?_
                refine q_cVv (As := []) (rest := []) q_w0 trivial hK hP21 hDa za_r_unit hS21 hA [0, 5] [4] (by decide +kernel) ⟨hx, hb, hml, hown, hts⟩ (r_goOn l dC dI H21.size p0 fs21 p0_text c_p0_text b_p0_text en siz ho21 ((q_sn efs21 (by decide) fr_fz_p0_1)) ((q_sn efs21 (by decide) fh_fz_p0_7)) ((q_sn efs21 (by decide) fh_fz_p0_3)) ((by omega))) rfl rfl (cwV 0 hts (p1_gV m_8 m_9 m_10 m_3 g_r_goOn gz_r_goOn) rfl rfl rfl (by decide +kernel) ⟨by decide, by decide⟩) (va_recv hK hP21 (ci := 8) (q0 := 0) rfl rfl) zm_r_goOn rfl hl.1 rfl (Nat.le_of_ble_eq_true rfl) dX9_unit_164 ⟨by decide, by decide⟩ (fun H95 lo95 hG95 hS95 => ?_)
                obtain ⟨o_96, o_97, o_98, o_99, ho_100, hf_101, z_102, z_103, z_104, z_105, hQ95⟩ := hG95
                have to_97 := (OKX9_g6 ho_100).use z_102
                have to_98 := (OKX9_g7 ho_100).use z_103
                have to_99 := (OKX9_g8 ho_100).use z_104
                have hP95 : va_P (dC, dI) vwCl (zW_r_unit p0 o_96 p0_code c_p0_code b_p0_code p0_codeNumber c_p0_codeNumber b_p0_codeNumber p0_eSign c_p0_eSign b_p0_eSign p0_eWhat c_p0_eWhat b_p0_eWhat p0_text c_p0_text b_p0_text) H95 := hQ95
                clear hQ95 hP21 hS21
                refine lv_iload_n hx hb dX9_unit_167 rfl (lv_at hl 3 rfl) ?_
                refine lv_if_ne (tgt := 175) hx hb dX9_unit_168 (by decide) (fun c_106 => ?_) (fun c_106 => ?_)
                · have tc_106 := q_ne c_106
                  refine lv_aload_n hx hb dX9_unit_175 rfl (lv_at hl 5 rfl) (lv_iload_n hx hb dX9_unit_176 rfl (lv_at hl 3 rfl) (lv_if_eq (tgt := 184) hx hb dX9_unit_177 (by decide) (fun c_107 => by exfalso; have t9 := q_eq c_107; omega) (fun c_107 => ?_)))
                  have tc_107 := q_neN c_107
                  refine lv_iconst (v := 3) hx hb dX9_unit_180 (by decide) (lv_goto (tgt := 186) hx hb dX9_unit_181 (by decide) (lv_bipush (v := 126) hx hb dX9_unit_186 (by decide) ?_))
                  refine q_cVv (As := [.int 3, .int 126]) (rest := []) q_w0 trivial hK hP95 hDa za_r_unit hS95 hA [0, 3, 4] [2, 3] (by decide +kernel) ⟨hx, hb, hml, hown, hts⟩ (r_pushE l dC dI H95.size p0 o_96 p0_eSign c_p0_eSign b_p0_eSign p0_eWhat c_p0_eWhat b_p0_eWhat 3 126 pi ho_100 ((hf_101.u (by decide) (q_sn efs21 (by decide) fr_fz_p0_40))) ((hf_101.u (by decide) (q_sn efs21 (by decide) fr_fz_p0_41))) ((hf_101.u (by decide) (q_sn efs21 (by decide) fh_fz_p0_48))) ((by omega))) rfl rfl (cwV 2 hts (p1_gV m_11 m_12 m_13 m_3 g_r_pushE gz_r_pushE) rfl rfl rfl (by decide +kernel) ⟨by decide, by decide⟩) (va_recv hK hP95 (ci := 8) (q0 := 0) rfl rfl) zm_r_pushE rfl hl.1 rfl (Nat.le_of_ble_eq_true rfl) dX9_unit_188 ⟨by decide, by decide⟩ (fun H109 lo109 hG109 hS109 => ?_)
                  obtain ⟨o_110, o_111, o_112, o_113, ho_114, hf_115, z_116, z_117, z_118, z_119, hQ109⟩ := hG109
                  have hP109 : va_P (dC, dI) vwCl (zW_r_unit p0 o_110 p0_code c_p0_code b_p0_code p0_codeNumber c_p0_codeNumber b_p0_codeNumber p0_eSign c_p0_eSign o_111 p0_eWhat c_p0_eWhat o_112 p0_text c_p0_text b_p0_text) H109 := hQ109
                  clear hQ109 hP95 hS95
                  refine lv_aload_n hx hb dX9_unit_191 rfl (lv_at hl 5 rfl) (lv_dup hx hb dX9_unit_192 rfl (qg_X9_47 hx hb hts i_X9 hown hK hP109 0 rfl k_14 (hf_115.u (by decide) (hf_101.u (by decide) (q_sn efs21 (by decide) fh_fz_p0_47))) dX9_unit_193 (lv_iconst (v := 1) hx hb dX9_unit_196 (by decide) (lv_iadd hx hb dX9_unit_197 (lv_topi fun v_120 ev_120 => ?_)))))
                  have tv_120 := q_add ev_120 (by omega) (by omega)
                  refine qp_X9_47 hx hb hts i_X9 hown hK hP109 hDa za_r_unit hS109 0 rfl k_14 (OKX9_l ho_114) dX9_unit_198 (fun H121 lo121 fs121 efs121 (hP121 : va_P (dC, dI) vwCl (zW_r_unit p0 fs121 p0_code c_p0_code b_p0_code p0_codeNumber c_p0_codeNumber b_p0_codeNumber p0_eSign c_p0_eSign o_111 p0_eWhat c_p0_eWhat o_112 p0_text c_p0_text b_p0_text) H121) hS121 => ?_)
                  have ho121 := OKX9_p47 ho_114 efs121
                  clear hP109 hS109
                  refine lv_iconst (v := 1) hx hb dX9_unit_201 (by decide) ?_
                  exact q_zret hx hb hr hlocks (by decide) hS121 dX9_unit_202 ⟨fs121, b_p0_code, b_p0_codeNumber, o_111, o_112, o_97, o_98, o_99, fkv, co, v_20, v_120, o_113, (Or.inl ⟨rfl, Or.inr ⟨by omega, q_EI.cast (hEI.push (un' := v_20.toInt) z_118 z_119 (by unfold q_nb; omega) (by omega) (by omega) (by omega) (by omega)) (by omega) (by omega) (by omega) (by omega), by omega⟩⟩), ho121, ((((hf_fz_p0.st efs21 (by decide)).tr hf_101 (by decide)).tr hf_115 (by decide)).st efs121 (by decide)), (q_sn efs121 (by decide) (hf_115.u (by decide) z_102)), (q_sn efs121 (by decide) (hf_115.u (by decide) z_103)), (q_sn efs121 (by decide) (hf_115.u (by decide) z_104)), (q_sn efs121 (by decide) (hf_115.u (by decide) (hf_101.u (by decide) (q_sn efs21 (by decide) fv_fz_p0_4)))), (q_sn efs121 (by decide) (hf_115.u (by decide) (hf_101.u (by decide) (q_sn efs21 (by decide) fh_fz_p0_45)))), (q_sn efs121 (by decide) (hf_115.u (by decide) (hf_101.u (by decide) (q_sa efs21 (OKX9_l ho_fz_p0) (by decide))))), (q_sa efs121 (OKX9_l ho_114) (by decide)), (q_sn efs121 (by decide) z_116), (by omega), (by omega), (by omega), q_offc.rf, (by omega), (by omega), hP121, za_r_unit⟩
                · have tc_106 := q_eqN c_106
                  refine lv_iload_n hx hb dX9_unit_171 rfl (lv_at hl 2 rfl) ?_
                  refine lv_if_eq (tgt := 203) hx hb dX9_unit_172 (by decide) (fun c_122 => ?_) (fun c_122 => ?_)
                  · have tc_122 := q_eq c_122
                    refine lv_aload_n hx hb dX9_unit_203 rfl (lv_at hl 5 rfl) (lv_iload hx hb dX9_unit_204 (lv_at hl 1 rfl) ?_)
                    refine lv_if_ne (tgt := 214) hx hb dX9_unit_206 (by decide) (fun c_123 => ?_) (fun c_123 => ?_)
                    · have tc_123 := q_ne c_123
                      refine lv_iload hx hb dX9_unit_214 (lv_at hl 1 rfl) (lv_iload hx hb dX9_unit_216 (lv_at hl 0 rfl) ?_)
                      refine q_cVv (As := [.int r_10, .int v_93]) (rest := []) q_w0 trivial hK hP95 hDa za_r_unit hS95 hA [0, 1, 2] [0, 1] (by decide +kernel) ⟨hx, hb, hml, hown, hts⟩ (r_emit l dC dI H95.size p0 o_96 p0_code c_p0_code b_p0_code p0_codeNumber c_p0_codeNumber b_p0_codeNumber r_10 v_93 co ho_100 ((hf_101.u (by decide) (q_sn efs21 (by decide) fr_fz_p0_38))) ((hf_101.u (by decide) (q_sn efs21 (by decide) fr_fz_p0_39))) ((hf_101.u (by decide) (q_sn efs21 (by decide) fh_fz_p0_45))) ((by omega))) rfl rfl (cwV 2 hts (p1_gV m_15 m_16 m_17 m_3 g_r_emit gz_r_emit) rfl rfl rfl (by decide +kernel) ⟨by decide, by decide⟩) (va_recv hK hP95 (ci := 8) (q0 := 0) rfl rfl) zm_r_emit rfl hl.1 rfl (Nat.le_of_ble_eq_true rfl) dX9_unit_218 ⟨by decide, by decide⟩ (fun H125 lo125 hG125 hS125 => ?_)
                      obtain ⟨o_126, o_127, o_128, o_129, ho_130, hf_131, z_132, z_133, z_134, hQ125⟩ := hG125
                      have hP125 : va_P (dC, dI) vwCl (zW_r_unit p0 o_126 p0_code c_p0_code o_127 p0_codeNumber c_p0_codeNumber o_128 p0_eSign c_p0_eSign b_p0_eSign p0_eWhat c_p0_eWhat b_p0_eWhat p0_text c_p0_text b_p0_text) H125 := hQ125
                      clear hQ125 hP95 hS95
                      refine lv_iconst (v := 0) hx hb dX9_unit_221 (by decide) ?_
                      exact q_zret hx hb hr hlocks (by decide) hS125 dX9_unit_222 ⟨o_126, o_127, o_128, b_p0_eSign, b_p0_eWhat, o_97, o_98, o_99, fkv, o_129, v_20, wi, pi, (Or.inr ⟨rfl, q_EI.cast (hEI.unit z_134 ⟨by omega, by omega⟩ (by omega)) (by omega) (by omega) (by omega) (by omega), by omega, by omega⟩), ho_130, (((hf_fz_p0.st efs21 (by decide)).tr hf_101 (by decide)).tr hf_131 (by decide)), (hf_131.u (by decide) z_102), (hf_131.u (by decide) z_103), (hf_131.u (by decide) z_104), (hf_131.u (by decide) (hf_101.u (by decide) (q_sn efs21 (by decide) fv_fz_p0_4))), z_132, (hf_131.u (by decide) (hf_101.u (by decide) (q_sa efs21 (OKX9_l ho_fz_p0) (by decide)))), (hf_131.u (by decide) (hf_101.u (by decide) (q_sn efs21 (by decide) fh_fz_p0_47))), (hf_131.u (by decide) (hf_101.u (by decide) (q_sn efs21 (by decide) fh_fz_p0_48))), (by omega), (by omega), (by omega), (q_offc.rf.up z_134 (by omega) (by omega)), (by omega), (by omega), hP125, za_r_unit⟩
                    · have tc_123 := q_eqN c_123
                      refine lv_bipush (v := 110) hx hb dX9_unit_209 (by decide) (lv_goto (tgt := 216) hx hb dX9_unit_211 (by decide) (lv_iload hx hb dX9_unit_216 (lv_at hl 0 rfl) ?_))
                      refine q_cVv (As := [.int 110, .int v_93]) (rest := []) q_w0 trivial hK hP95 hDa za_r_unit hS95 hA [0, 1, 2] [0, 1] (by decide +kernel) ⟨hx, hb, hml, hown, hts⟩ (r_emit l dC dI H95.size p0 o_96 p0_code c_p0_code b_p0_code p0_codeNumber c_p0_codeNumber b_p0_codeNumber 110 v_93 co ho_100 ((hf_101.u (by decide) (q_sn efs21 (by decide) fr_fz_p0_38))) ((hf_101.u (by decide) (q_sn efs21 (by decide) fr_fz_p0_39))) ((hf_101.u (by decide) (q_sn efs21 (by decide) fh_fz_p0_45))) ((by omega))) rfl rfl (cwV 2 hts (p1_gV m_15 m_16 m_17 m_3 g_r_emit gz_r_emit) rfl rfl rfl (by decide +kernel) ⟨by decide, by decide⟩) (va_recv hK hP95 (ci := 8) (q0 := 0) rfl rfl) zm_r_emit rfl hl.1 rfl (Nat.le_of_ble_eq_true rfl) dX9_unit_218 ⟨by decide, by decide⟩ (fun H136 lo136 hG136 hS136 => ?_)
                      obtain ⟨o_137, o_138, o_139, o_140, ho_141, hf_142, z_143, z_144, z_145, hQ136⟩ := hG136
                      have hP136 : va_P (dC, dI) vwCl (zW_r_unit p0 o_137 p0_code c_p0_code o_138 p0_codeNumber c_p0_codeNumber o_139 p0_eSign c_p0_eSign b_p0_eSign p0_eWhat c_p0_eWhat b_p0_eWhat p0_text c_p0_text b_p0_text) H136 := hQ136
                      clear hQ136 hP95 hS95
                      refine lv_iconst (v := 0) hx hb dX9_unit_221 (by decide) ?_
                      exact q_zret hx hb hr hlocks (by decide) hS136 dX9_unit_222 ⟨o_137, o_138, o_139, b_p0_eSign, b_p0_eWhat, o_97, o_98, o_99, fkv, o_140, v_20, wi, pi, (Or.inr ⟨rfl, q_EI.cast (hEI.unit z_145 ⟨by omega, by omega⟩ (by omega)) (by omega) (by omega) (by omega) (by omega), by omega, by omega⟩), ho_141, (((hf_fz_p0.st efs21 (by decide)).tr hf_101 (by decide)).tr hf_142 (by decide)), (hf_142.u (by decide) z_102), (hf_142.u (by decide) z_103), (hf_142.u (by decide) z_104), (hf_142.u (by decide) (hf_101.u (by decide) (q_sn efs21 (by decide) fv_fz_p0_4))), z_143, (hf_142.u (by decide) (hf_101.u (by decide) (q_sa efs21 (OKX9_l ho_fz_p0) (by decide)))), (hf_142.u (by decide) (hf_101.u (by decide) (q_sn efs21 (by decide) fh_fz_p0_47))), (hf_142.u (by decide) (hf_101.u (by decide) (q_sn efs21 (by decide) fh_fz_p0_48))), (by omega), (by omega), (by omega), (q_offc.rf.up z_145 (by omega) (by omega)), (by omega), (by omega), hP136, za_r_unit⟩
                  · have tc_122 := q_neN c_122
                    refine lv_aload_n hx hb dX9_unit_175 rfl (lv_at hl 5 rfl) (lv_iload_n hx hb dX9_unit_176 rfl (lv_at hl 3 rfl) ?_)
                    refine lv_if_eq (tgt := 184) hx hb dX9_unit_177 (by decide) (fun c_146 => ?_) (fun c_146 => ?_)
                    · have tc_146 := q_eq c_146
                      refine lv_bipush (v := 7) hx hb dX9_unit_184 (by decide) (lv_bipush (v := 126) hx hb dX9_unit_186 (by decide) ?_)
                      refine q_cVv (As := [.int 7, .int 126]) (rest := []) q_w0 trivial hK hP95 hDa za_r_unit hS95 hA [0, 3, 4] [2, 3] (by decide +kernel) ⟨hx, hb, hml, hown, hts⟩ (r_pushE l dC dI H95.size p0 o_96 p0_eSign c_p0_eSign b_p0_eSign p0_eWhat c_p0_eWhat b_p0_eWhat 7 126 pi ho_100 ((hf_101.u (by decide) (q_sn efs21 (by decide) fr_fz_p0_40))) ((hf_101.u (by decide) (q_sn efs21 (by decide) fr_fz_p0_41))) ((hf_101.u (by decide) (q_sn efs21 (by decide) fh_fz_p0_48))) ((by omega))) rfl rfl (cwV 2 hts (p1_gV m_11 m_12 m_13 m_3 g_r_pushE gz_r_pushE) rfl rfl rfl (by decide +kernel) ⟨by decide, by decide⟩) (va_recv hK hP95 (ci := 8) (q0 := 0) rfl rfl) zm_r_pushE rfl hl.1 rfl (Nat.le_of_ble_eq_true rfl) dX9_unit_188 ⟨by decide, by decide⟩ (fun H148 lo148 hG148 hS148 => ?_)
                      obtain ⟨o_149, o_150, o_151, o_152, ho_153, hf_154, z_155, z_156, z_157, z_158, hQ148⟩ := hG148
                      have hP148 : va_P (dC, dI) vwCl (zW_r_unit p0 o_149 p0_code c_p0_code b_p0_code p0_codeNumber c_p0_codeNumber b_p0_codeNumber p0_eSign c_p0_eSign o_150 p0_eWhat c_p0_eWhat o_151 p0_text c_p0_text b_p0_text) H148 := hQ148
                      clear hQ148 hP95 hS95
                      refine lv_aload_n hx hb dX9_unit_191 rfl (lv_at hl 5 rfl) (lv_dup hx hb dX9_unit_192 rfl (qg_X9_47 hx hb hts i_X9 hown hK hP148 0 rfl k_14 (hf_154.u (by decide) (hf_101.u (by decide) (q_sn efs21 (by decide) fh_fz_p0_47))) dX9_unit_193 (lv_iconst (v := 1) hx hb dX9_unit_196 (by decide) (lv_iadd hx hb dX9_unit_197 (lv_topi fun v_159 ev_159 => ?_)))))
                      have tv_159 := q_add ev_159 (by omega) (by omega)
                      refine qp_X9_47 hx hb hts i_X9 hown hK hP148 hDa za_r_unit hS148 0 rfl k_14 (OKX9_l ho_153) dX9_unit_198 (fun H160 lo160 fs160 efs160 (hP160 : va_P (dC, dI) vwCl (zW_r_unit p0 fs160 p0_code c_p0_code b_p0_code p0_codeNumber c_p0_codeNumber b_p0_codeNumber p0_eSign c_p0_eSign o_150 p0_eWhat c_p0_eWhat o_151 p0_text c_p0_text b_p0_text) H160) hS160 => ?_)
                      have ho160 := OKX9_p47 ho_153 efs160
                      clear hP148 hS148
                      refine lv_iconst (v := 1) hx hb dX9_unit_201 (by decide) ?_
                      exact q_zret hx hb hr hlocks (by decide) hS160 dX9_unit_202 ⟨fs160, b_p0_code, b_p0_codeNumber, o_150, o_151, o_97, o_98, o_99, fkv, co, v_20, v_159, o_152, (Or.inl ⟨rfl, Or.inr ⟨by omega, q_EI.cast (hEI.push (un' := v_20.toInt) z_157 z_158 (by unfold q_nb; omega) (by omega) (by omega) (by omega) (by omega)) (by omega) (by omega) (by omega) (by omega), by omega⟩⟩), ho160, ((((hf_fz_p0.st efs21 (by decide)).tr hf_101 (by decide)).tr hf_154 (by decide)).st efs160 (by decide)), (q_sn efs160 (by decide) (hf_154.u (by decide) z_102)), (q_sn efs160 (by decide) (hf_154.u (by decide) z_103)), (q_sn efs160 (by decide) (hf_154.u (by decide) z_104)), (q_sn efs160 (by decide) (hf_154.u (by decide) (hf_101.u (by decide) (q_sn efs21 (by decide) fv_fz_p0_4)))), (q_sn efs160 (by decide) (hf_154.u (by decide) (hf_101.u (by decide) (q_sn efs21 (by decide) fh_fz_p0_45)))), (q_sn efs160 (by decide) (hf_154.u (by decide) (hf_101.u (by decide) (q_sa efs21 (OKX9_l ho_fz_p0) (by decide))))), (q_sa efs160 (OKX9_l ho_153) (by decide)), (q_sn efs160 (by decide) z_155), (by omega), (by omega), (by omega), q_offc.rf, (by omega), (by omega), hP160, za_r_unit⟩
                    · have tc_146 := q_neN c_146
                      refine lv_iconst (v := 3) hx hb dX9_unit_180 (by decide) (lv_goto (tgt := 186) hx hb dX9_unit_181 (by decide) (lv_bipush (v := 126) hx hb dX9_unit_186 (by decide) ?_))
                      refine q_cVv (As := [.int 3, .int 126]) (rest := []) q_w0 trivial hK hP95 hDa za_r_unit hS95 hA [0, 3, 4] [2, 3] (by decide +kernel) ⟨hx, hb, hml, hown, hts⟩ (r_pushE l dC dI H95.size p0 o_96 p0_eSign c_p0_eSign b_p0_eSign p0_eWhat c_p0_eWhat b_p0_eWhat 3 126 pi ho_100 ((hf_101.u (by decide) (q_sn efs21 (by decide) fr_fz_p0_40))) ((hf_101.u (by decide) (q_sn efs21 (by decide) fr_fz_p0_41))) ((hf_101.u (by decide) (q_sn efs21 (by decide) fh_fz_p0_48))) ((by omega))) rfl rfl (cwV 2 hts (p1_gV m_11 m_12 m_13 m_3 g_r_pushE gz_r_pushE) rfl rfl rfl (by decide +kernel) ⟨by decide, by decide⟩) (va_recv hK hP95 (ci := 8) (q0 := 0) rfl rfl) zm_r_pushE rfl hl.1 rfl (Nat.le_of_ble_eq_true rfl) dX9_unit_188 ⟨by decide, by decide⟩ (fun H162 lo162 hG162 hS162 => ?_)
                      obtain ⟨o_163, o_164, o_165, o_166, ho_167, hf_168, z_169, z_170, z_171, z_172, hQ162⟩ := hG162
                      have hP162 : va_P (dC, dI) vwCl (zW_r_unit p0 o_163 p0_code c_p0_code b_p0_code p0_codeNumber c_p0_codeNumber b_p0_codeNumber p0_eSign c_p0_eSign o_164 p0_eWhat c_p0_eWhat o_165 p0_text c_p0_text b_p0_text) H162 := hQ162
                      clear hQ162 hP95 hS95
                      refine lv_aload_n hx hb dX9_unit_191 rfl (lv_at hl 5 rfl) (lv_dup hx hb dX9_unit_192 rfl (qg_X9_47 hx hb hts i_X9 hown hK hP162 0 rfl k_14 (hf_168.u (by decide) (hf_101.u (by decide) (q_sn efs21 (by decide) fh_fz_p0_47))) dX9_unit_193 (lv_iconst (v := 1) hx hb dX9_unit_196 (by decide) (lv_iadd hx hb dX9_unit_197 (lv_topi fun v_173 ev_173 => ?_)))))
                      have tv_173 := q_add ev_173 (by omega) (by omega)
                      refine qp_X9_47 hx hb hts i_X9 hown hK hP162 hDa za_r_unit hS162 0 rfl k_14 (OKX9_l ho_167) dX9_unit_198 (fun H174 lo174 fs174 efs174 (hP174 : va_P (dC, dI) vwCl (zW_r_unit p0 fs174 p0_code c_p0_code b_p0_code p0_codeNumber c_p0_codeNumber b_p0_codeNumber p0_eSign c_p0_eSign o_164 p0_eWhat c_p0_eWhat o_165 p0_text c_p0_text b_p0_text) H174) hS174 => ?_)
                      have ho174 := OKX9_p47 ho_167 efs174
                      clear hP162 hS162
                      refine lv_iconst (v := 1) hx hb dX9_unit_201 (by decide) ?_
                      exact q_zret hx hb hr hlocks (by decide) hS174 dX9_unit_202 ⟨fs174, b_p0_code, b_p0_codeNumber, o_164, o_165, o_97, o_98, o_99, fkv, co, v_20, v_173, o_166, (Or.inl ⟨rfl, Or.inr ⟨by omega, q_EI.cast (hEI.push (un' := v_20.toInt) z_171 z_172 (by unfold q_nb; omega) (by omega) (by omega) (by omega) (by omega)) (by omega) (by omega) (by omega) (by omega), by omega⟩⟩), ho174, ((((hf_fz_p0.st efs21 (by decide)).tr hf_101 (by decide)).tr hf_168 (by decide)).st efs174 (by decide)), (q_sn efs174 (by decide) (hf_168.u (by decide) z_102)), (q_sn efs174 (by decide) (hf_168.u (by decide) z_103)), (q_sn efs174 (by decide) (hf_168.u (by decide) z_104)), (q_sn efs174 (by decide) (hf_168.u (by decide) (hf_101.u (by decide) (q_sn efs21 (by decide) fv_fz_p0_4)))), (q_sn efs174 (by decide) (hf_168.u (by decide) (hf_101.u (by decide) (q_sn efs21 (by decide) fh_fz_p0_45)))), (q_sn efs174 (by decide) (hf_168.u (by decide) (hf_101.u (by decide) (q_sa efs21 (OKX9_l ho_fz_p0) (by decide))))), (q_sa efs174 (OKX9_l ho_167) (by decide)), (q_sn efs174 (by decide) z_169), (by omega), (by omega), (by omega), q_offc.rf, (by omega), (by omega), hP174, za_r_unit⟩
            · have tc_19 := q_neN c_19
              refine lv_iconst (v := 0) hx hb dX9_unit_139 (by decide) (lv_goto (tgt := 144) hx hb dX9_unit_140 (by decide) (lv_iadd hx hb dX9_unit_144 (lv_topi fun v_175 ev_175 => ?_)))
              have tv_175 := q_add ev_175 (by omega) (by omega)
              refine qp_X9_46 hx hb hts i_X9 hown hK hP16 hDa za_r_unit hS16 0 rfl k_7 (OKX9_l ho_fz_p0) dX9_unit_145 (fun H176 lo176 fs176 efs176 (hP176 : va_P (dC, dI) vwCl (zW_r_unit p0 fs176 p0_code c_p0_code b_p0_code p0_codeNumber c_p0_codeNumber b_p0_codeNumber p0_eSign c_p0_eSign b_p0_eSign p0_eWhat c_p0_eWhat b_p0_eWhat p0_text c_p0_text b_p0_text) H176) hS176 => ?_)
              have ho176 := OKX9_p46 ho_fz_p0 efs176
              clear hP16 hS16
              refine lv_iload hx hb dX9_unit_148 (lv_at hl 0 rfl) ?_
              refine lv_if_ne (tgt := 160) hx hb dX9_unit_150 (by decide) (fun c_177 => ?_) (fun c_177 => ?_)
              · have tc_177 := q_ne c_177
                refine lv_iconst (v := 0) hx hb dX9_unit_160 (by decide) (lv_istore (lv' := [(5, .int 0), (4, .int r_10), (3, .int j_7), (2, .int j_4), (1, .int j_1), (0, .ref p0)]) hx hb dX9_unit_161 hl (by decide) rfl (fun ls hl => ?_))
                refine lv_aload_n hx hb dX9_unit_163 rfl (lv_at hl 5 rfl) ?_
                refine q_cVv (As := []) (rest := []) q_w0 trivial hK hP176 hDa za_r_unit hS176 hA [0, 5] [4] (by decide +kernel) ⟨hx, hb, hml, hown, hts⟩ (r_goOn l dC dI H176.size p0 fs176 p0_text c_p0_text b_p0_text en siz ho176 ((q_sn efs176 (by decide) fr_fz_p0_1)) ((q_sn efs176 (by decide) fh_fz_p0_7)) ((q_sn efs176 (by decide) fh_fz_p0_3)) ((by omega))) rfl rfl (cwV 0 hts (p1_gV m_8 m_9 m_10 m_3 g_r_goOn gz_r_goOn) rfl rfl rfl (by decide +kernel) ⟨by decide, by decide⟩) (va_recv hK hP176 (ci := 8) (q0 := 0) rfl rfl) zm_r_goOn rfl hl.1 rfl (Nat.le_of_ble_eq_true rfl) dX9_unit_164 ⟨by decide, by decide⟩ (fun H179 lo179 hG179 hS179 => ?_)
                obtain ⟨o_180, o_181, o_182, o_183, ho_184, hf_185, z_186, z_187, z_188, z_189, hQ179⟩ := hG179
                have to_181 := (OKX9_g6 ho_184).use z_186
                have to_182 := (OKX9_g7 ho_184).use z_187
                have to_183 := (OKX9_g8 ho_184).use z_188
                have hP179 : va_P (dC, dI) vwCl (zW_r_unit p0 o_180 p0_code c_p0_code b_p0_code p0_codeNumber c_p0_codeNumber b_p0_codeNumber p0_eSign c_p0_eSign b_p0_eSign p0_eWhat c_p0_eWhat b_p0_eWhat p0_text c_p0_text b_p0_text) H179 := hQ179
                clear hQ179 hP176 hS176
                refine lv_iload_n hx hb dX9_unit_167 rfl (lv_at hl 3 rfl) (lv_if_ne (tgt := 175) hx hb dX9_unit_168 (by decide) (fun c_190 => ?_) (fun c_190 => by exfalso; have t9 := q_eqN c_190; omega))
                have tc_190 := q_ne c_190
                refine lv_aload_n hx hb dX9_unit_175 rfl (lv_at hl 5 rfl) (lv_iload_n hx hb dX9_unit_176 rfl (lv_at hl 3 rfl) (lv_if_eq (tgt := 184) hx hb dX9_unit_177 (by decide) (fun c_191 => by exfalso; have t9 := q_eq c_191; omega) (fun c_191 => ?_)))
                have tc_191 := q_neN c_191
                refine lv_iconst (v := 3) hx hb dX9_unit_180 (by decide) (lv_goto (tgt := 186) hx hb dX9_unit_181 (by decide) (lv_bipush (v := 126) hx hb dX9_unit_186 (by decide) ?_))
                refine q_cVv (As := [.int 3, .int 126]) (rest := []) q_w0 trivial hK hP179 hDa za_r_unit hS179 hA [0, 3, 4] [2, 3] (by decide +kernel) ⟨hx, hb, hml, hown, hts⟩ (r_pushE l dC dI H179.size p0 o_180 p0_eSign c_p0_eSign b_p0_eSign p0_eWhat c_p0_eWhat b_p0_eWhat 3 126 pi ho_184 ((hf_185.u (by decide) (q_sn efs176 (by decide) fr_fz_p0_40))) ((hf_185.u (by decide) (q_sn efs176 (by decide) fr_fz_p0_41))) ((hf_185.u (by decide) (q_sn efs176 (by decide) fh_fz_p0_48))) ((by omega))) rfl rfl (cwV 2 hts (p1_gV m_11 m_12 m_13 m_3 g_r_pushE gz_r_pushE) rfl rfl rfl (by decide +kernel) ⟨by decide, by decide⟩) (va_recv hK hP179 (ci := 8) (q0 := 0) rfl rfl) zm_r_pushE rfl hl.1 rfl (Nat.le_of_ble_eq_true rfl) dX9_unit_188 ⟨by decide, by decide⟩ (fun H193 lo193 hG193 hS193 => ?_)
                obtain ⟨o_194, o_195, o_196, o_197, ho_198, hf_199, z_200, z_201, z_202, z_203, hQ193⟩ := hG193
                have hP193 : va_P (dC, dI) vwCl (zW_r_unit p0 o_194 p0_code c_p0_code b_p0_code p0_codeNumber c_p0_codeNumber b_p0_codeNumber p0_eSign c_p0_eSign o_195 p0_eWhat c_p0_eWhat o_196 p0_text c_p0_text b_p0_text) H193 := hQ193
                clear hQ193 hP179 hS179
                refine lv_aload_n hx hb dX9_unit_191 rfl (lv_at hl 5 rfl) (lv_dup hx hb dX9_unit_192 rfl (qg_X9_47 hx hb hts i_X9 hown hK hP193 0 rfl k_14 (hf_199.u (by decide) (hf_185.u (by decide) (q_sn efs176 (by decide) fh_fz_p0_47))) dX9_unit_193 (lv_iconst (v := 1) hx hb dX9_unit_196 (by decide) (lv_iadd hx hb dX9_unit_197 (lv_topi fun v_204 ev_204 => ?_)))))
                have tv_204 := q_add ev_204 (by omega) (by omega)
                refine qp_X9_47 hx hb hts i_X9 hown hK hP193 hDa za_r_unit hS193 0 rfl k_14 (OKX9_l ho_198) dX9_unit_198 (fun H205 lo205 fs205 efs205 (hP205 : va_P (dC, dI) vwCl (zW_r_unit p0 fs205 p0_code c_p0_code b_p0_code p0_codeNumber c_p0_codeNumber b_p0_codeNumber p0_eSign c_p0_eSign o_195 p0_eWhat c_p0_eWhat o_196 p0_text c_p0_text b_p0_text) H205) hS205 => ?_)
                have ho205 := OKX9_p47 ho_198 efs205
                clear hP193 hS193
                refine lv_iconst (v := 1) hx hb dX9_unit_201 (by decide) ?_
                exact q_zret hx hb hr hlocks (by decide) hS205 dX9_unit_202 ⟨fs205, b_p0_code, b_p0_codeNumber, o_195, o_196, o_181, o_182, o_183, fkv, co, v_175, v_204, o_197, (Or.inl ⟨rfl, Or.inr ⟨by omega, q_EI.cast (hEI.push (un' := v_175.toInt) z_202 z_203 (by unfold q_nb; omega) (by omega) (by omega) (by omega) (by omega)) (by omega) (by omega) (by omega) (by omega), by omega⟩⟩), ho205, ((((hf_fz_p0.st efs176 (by decide)).tr hf_185 (by decide)).tr hf_199 (by decide)).st efs205 (by decide)), (q_sn efs205 (by decide) (hf_199.u (by decide) z_186)), (q_sn efs205 (by decide) (hf_199.u (by decide) z_187)), (q_sn efs205 (by decide) (hf_199.u (by decide) z_188)), (q_sn efs205 (by decide) (hf_199.u (by decide) (hf_185.u (by decide) (q_sn efs176 (by decide) fv_fz_p0_4)))), (q_sn efs205 (by decide) (hf_199.u (by decide) (hf_185.u (by decide) (q_sn efs176 (by decide) fh_fz_p0_45)))), (q_sn efs205 (by decide) (hf_199.u (by decide) (hf_185.u (by decide) (q_sa efs176 (OKX9_l ho_fz_p0) (by decide))))), (q_sa efs205 (OKX9_l ho_198) (by decide)), (q_sn efs205 (by decide) z_200), (by omega), (by omega), (by omega), q_offc.rf, (by omega), (by omega), hP205, za_r_unit⟩
              · have tc_177 := q_eqN c_177
                refine lv_aload_n hx hb dX9_unit_153 rfl (lv_at hl 4 rfl) ?_
                obtain ⟨v_206, fv_206⟩ := OKX9_g9 ho176
                refine qg_X9_9 hx hb hts i_X9 hown hK hP176 0 rfl k_18 fv_206 dX9_unit_154 (lv_goto (tgt := 161) hx hb dX9_unit_157 (by decide) (lv_istore (lv' := [(5, .int v_206), (4, .int r_10), (3, .int j_7), (2, .int j_4), (1, .int j_1), (0, .ref p0)]) hx hb dX9_unit_161 hl (by decide) rfl (fun ls hl => ?_)))
                refine lv_aload_n hx hb dX9_unit_163 rfl (lv_at hl 5 rfl) ?_
                refine q_cVv (As := []) (rest := []) q_w0 trivial hK hP176 hDa za_r_unit hS176 hA [0, 5] [4] (by decide +kernel) ⟨hx, hb, hml, hown, hts⟩ (r_goOn l dC dI H176.size p0 fs176 p0_text c_p0_text b_p0_text en siz ho176 ((q_sn efs176 (by decide) fr_fz_p0_1)) ((q_sn efs176 (by decide) fh_fz_p0_7)) ((q_sn efs176 (by decide) fh_fz_p0_3)) ((by omega))) rfl rfl (cwV 0 hts (p1_gV m_8 m_9 m_10 m_3 g_r_goOn gz_r_goOn) rfl rfl rfl (by decide +kernel) ⟨by decide, by decide⟩) (va_recv hK hP176 (ci := 8) (q0 := 0) rfl rfl) zm_r_goOn rfl hl.1 rfl (Nat.le_of_ble_eq_true rfl) dX9_unit_164 ⟨by decide, by decide⟩ (fun H208 lo208 hG208 hS208 => ?_)
                obtain ⟨o_209, o_210, o_211, o_212, ho_213, hf_214, z_215, z_216, z_217, z_218, hQ208⟩ := hG208
                have to_210 := (OKX9_g6 ho_213).use z_215
                have to_211 := (OKX9_g7 ho_213).use z_216
                have to_212 := (OKX9_g8 ho_213).use z_217
                have hP208 : va_P (dC, dI) vwCl (zW_r_unit p0 o_209 p0_code c_p0_code b_p0_code p0_codeNumber c_p0_codeNumber b_p0_codeNumber p0_eSign c_p0_eSign b_p0_eSign p0_eWhat c_p0_eWhat b_p0_eWhat p0_text c_p0_text b_p0_text) H208 := hQ208
                clear hQ208 hP176 hS176
                refine lv_iload_n hx hb dX9_unit_167 rfl (lv_at hl 3 rfl) (lv_if_ne (tgt := 175) hx hb dX9_unit_168 (by decide) (fun c_219 => ?_) (fun c_219 => by exfalso; have t9 := q_eqN c_219; omega))
                have tc_219 := q_ne c_219
                refine lv_aload_n hx hb dX9_unit_175 rfl (lv_at hl 5 rfl) (lv_iload_n hx hb dX9_unit_176 rfl (lv_at hl 3 rfl) (lv_if_eq (tgt := 184) hx hb dX9_unit_177 (by decide) (fun c_220 => by exfalso; have t9 := q_eq c_220; omega) (fun c_220 => ?_)))
                have tc_220 := q_neN c_220
                refine lv_iconst (v := 3) hx hb dX9_unit_180 (by decide) (lv_goto (tgt := 186) hx hb dX9_unit_181 (by decide) (lv_bipush (v := 126) hx hb dX9_unit_186 (by decide) ?_))
                refine q_cVv (As := [.int 3, .int 126]) (rest := []) q_w0 trivial hK hP208 hDa za_r_unit hS208 hA [0, 3, 4] [2, 3] (by decide +kernel) ⟨hx, hb, hml, hown, hts⟩ (r_pushE l dC dI H208.size p0 o_209 p0_eSign c_p0_eSign b_p0_eSign p0_eWhat c_p0_eWhat b_p0_eWhat 3 126 pi ho_213 ((hf_214.u (by decide) (q_sn efs176 (by decide) fr_fz_p0_40))) ((hf_214.u (by decide) (q_sn efs176 (by decide) fr_fz_p0_41))) ((hf_214.u (by decide) (q_sn efs176 (by decide) fh_fz_p0_48))) ((by omega))) rfl rfl (cwV 2 hts (p1_gV m_11 m_12 m_13 m_3 g_r_pushE gz_r_pushE) rfl rfl rfl (by decide +kernel) ⟨by decide, by decide⟩) (va_recv hK hP208 (ci := 8) (q0 := 0) rfl rfl) zm_r_pushE rfl hl.1 rfl (Nat.le_of_ble_eq_true rfl) dX9_unit_188 ⟨by decide, by decide⟩ (fun H222 lo222 hG222 hS222 => ?_)
                obtain ⟨o_223, o_224, o_225, o_226, ho_227, hf_228, z_229, z_230, z_231, z_232, hQ222⟩ := hG222
                have hP222 : va_P (dC, dI) vwCl (zW_r_unit p0 o_223 p0_code c_p0_code b_p0_code p0_codeNumber c_p0_codeNumber b_p0_codeNumber p0_eSign c_p0_eSign o_224 p0_eWhat c_p0_eWhat o_225 p0_text c_p0_text b_p0_text) H222 := hQ222
                clear hQ222 hP208 hS208
                refine lv_aload_n hx hb dX9_unit_191 rfl (lv_at hl 5 rfl) (lv_dup hx hb dX9_unit_192 rfl (qg_X9_47 hx hb hts i_X9 hown hK hP222 0 rfl k_14 (hf_228.u (by decide) (hf_214.u (by decide) (q_sn efs176 (by decide) fh_fz_p0_47))) dX9_unit_193 (lv_iconst (v := 1) hx hb dX9_unit_196 (by decide) (lv_iadd hx hb dX9_unit_197 (lv_topi fun v_233 ev_233 => ?_)))))
                have tv_233 := q_add ev_233 (by omega) (by omega)
                refine qp_X9_47 hx hb hts i_X9 hown hK hP222 hDa za_r_unit hS222 0 rfl k_14 (OKX9_l ho_227) dX9_unit_198 (fun H234 lo234 fs234 efs234 (hP234 : va_P (dC, dI) vwCl (zW_r_unit p0 fs234 p0_code c_p0_code b_p0_code p0_codeNumber c_p0_codeNumber b_p0_codeNumber p0_eSign c_p0_eSign o_224 p0_eWhat c_p0_eWhat o_225 p0_text c_p0_text b_p0_text) H234) hS234 => ?_)
                have ho234 := OKX9_p47 ho_227 efs234
                clear hP222 hS222
                refine lv_iconst (v := 1) hx hb dX9_unit_201 (by decide) ?_
                exact q_zret hx hb hr hlocks (by decide) hS234 dX9_unit_202 ⟨fs234, b_p0_code, b_p0_codeNumber, o_224, o_225, o_210, o_211, o_212, fkv, co, v_175, v_233, o_226, (Or.inl ⟨rfl, Or.inr ⟨by omega, q_EI.cast (hEI.push (un' := v_175.toInt) z_231 z_232 (by unfold q_nb; omega) (by omega) (by omega) (by omega) (by omega)) (by omega) (by omega) (by omega) (by omega), by omega⟩⟩), ho234, ((((hf_fz_p0.st efs176 (by decide)).tr hf_214 (by decide)).tr hf_228 (by decide)).st efs234 (by decide)), (q_sn efs234 (by decide) (hf_228.u (by decide) z_215)), (q_sn efs234 (by decide) (hf_228.u (by decide) z_216)), (q_sn efs234 (by decide) (hf_228.u (by decide) z_217)), (q_sn efs234 (by decide) (hf_228.u (by decide) (hf_214.u (by decide) (q_sn efs176 (by decide) fv_fz_p0_4)))), (q_sn efs234 (by decide) (hf_228.u (by decide) (hf_214.u (by decide) (q_sn efs176 (by decide) fh_fz_p0_45)))), (q_sn efs234 (by decide) (hf_228.u (by decide) (hf_214.u (by decide) (q_sa efs176 (OKX9_l ho_fz_p0) (by decide))))), (q_sa efs234 (OKX9_l ho_227) (by decide)), (q_sn efs234 (by decide) z_229), (by omega), (by omega), (by omega), q_offc.rf, (by omega), (by omega), hP234, za_r_unit⟩
          · refine lv_if_ne (tgt := 130) hx hb dX9_unit_125 (by decide) (fun c_235 => absurd c_235 (by decide)) (fun c_235 => ?_)
            refine lv_iconst (v := 1) hx hb dX9_unit_128 (by decide) ?_
            exact q_zret hx hb hr hlocks (by decide) hS16 dX9_unit_129 ⟨fz_p0, b_p0_code, b_p0_codeNumber, b_p0_eSign, b_p0_eWhat, at0, en, tk, fkv, co, un, wi, pi, (Or.inl ⟨rfl, Or.inl (by omega)⟩), ho_fz_p0, hf_fz_p0, fh_fz_p0_6, fh_fz_p0_7, fh_fz_p0_8, fv_fz_p0_4, fh_fz_p0_45, fh_fz_p0_46, fh_fz_p0_47, fh_fz_p0_48, (by omega), (by omega), (by omega), q_offc.rf, (by omega), (by omega), hP16, za_r_unit⟩
        refine lv_iload_n hx hb dX9_unit_70 rfl (lv_at hl 2 rfl) ?_
        refine lv_if_ne (tgt := 100) hx hb dX9_unit_71 (by decide) (fun c_236 => ?_) (fun c_236 => ?_)
        · have tc_236 := q_ne c_236
          refine lv_iload_n hx hb dX9_unit_100 rfl (lv_at hl 2 rfl) (lv_if_ne (tgt := 108) hx hb dX9_unit_101 (by decide) (fun c_237 => ?_) (fun c_237 => by exfalso; have t9 := q_eqN c_237; omega))
          have tc_237 := q_ne c_237
          refine lv_aload_n hx hb dX9_unit_108 rfl (lv_at hl 4 rfl) (qg_X9_47 hx hb hts i_X9 hown hK hP11 0 rfl k_14 pf_wi dX9_unit_109 (lv_bipush (v := 7) hx hb dX9_unit_112 (by decide) ?_))
          refine lv_icmp_ne (tgt := 121) hx hb dX9_unit_114 (by decide) (fun c_238 => ?_) (fun c_238 => ?_)
          · have tc_238 := q_ne c_238
            exact jn_13 f_p0 fk _ _ _ ho_p0 q_fr.rf fr_p0_1 pf_siz pf_fk (by omega) pf_at0 pf_en pf_tk fr_p0_38 fr_p0_39 fr_p0_40 fr_p0_41 pf_rb pf_co pf_un pf_wi pf_pi (by omega) hP11 hS11 (lv_sub hl [0, 1, 2, 3, 4] rfl)
          · have tc_238 := q_eqN c_238
            refine lv_aload_n hx hb dX9_unit_117 rfl (lv_at hl 4 rfl) ?_
            refine q_cVv (As := []) (rest := []) q_w0 trivial hK hP11 hDa za_r_unit hS11 hA [0] [] (by decide +kernel) ⟨hx, hb, hml, hown, hts⟩ (r_misplaced l dC dI H11.size p0 f_p0 ho_p0) rfl rfl (cwV 0 hts (p1_gV m_19 m_20 m_21 m_3 g_r_misplaced gz_r_misplaced) rfl rfl rfl (by decide +kernel) ⟨by decide, by decide⟩) (va_recv hK hP11 (ci := 8) (q0 := 0) rfl rfl) zm_r_misplaced rfl hl.1 rfl (Nat.le_of_ble_eq_true rfl) dX9_unit_118 ⟨by decide, by decide⟩ (fun H240 lo240 hG240 hS240 => ?_)
            obtain ⟨o_241, o_242, ho_243, hf_244, z_245, z_246, hQ240⟩ := hG240
            have to_242 := (OKX9_g4 ho_243).use z_245
            have hP240 : va_P (dC, dI) vwCl (zW_r_unit p0 o_241 p0_code c_p0_code b_p0_code p0_codeNumber c_p0_codeNumber b_p0_codeNumber p0_eSign c_p0_eSign b_p0_eSign p0_eWhat c_p0_eWhat b_p0_eWhat p0_text c_p0_text b_p0_text) H240 := hQ240
            clear hQ240 hP11 hS11
            exact jn_13 o_241 o_242 _ _ _ ho_243 (q_fr.rf.tr hf_244 (by decide)) (hf_244.u (by decide) fr_p0_1) (hf_244.u (by decide) pf_siz) z_245 (by omega) (hf_244.u (by decide) pf_at0) (hf_244.u (by decide) pf_en) (hf_244.u (by decide) pf_tk) (hf_244.u (by decide) fr_p0_38) (hf_244.u (by decide) fr_p0_39) (hf_244.u (by decide) fr_p0_40) (hf_244.u (by decide) fr_p0_41) (hf_244.u (by decide) pf_rb) (hf_244.u (by decide) pf_co) (hf_244.u (by decide) pf_un) (hf_244.u (by decide) pf_wi) (hf_244.u (by decide) pf_pi) (by omega) hP240 hS240 (lv_sub hl [0, 1, 2, 3, 4] rfl)
        · have tc_236 := q_eqN c_236
          refine lv_iload hx hb dX9_unit_74 (lv_at hl 0 rfl) ?_
          refine lv_if_ne (tgt := 91) hx hb dX9_unit_76 (by decide) (fun c_247 => ?_) (fun c_247 => ?_)
          · have tc_247 := q_ne c_247
            refine lv_aload_n hx hb dX9_unit_91 rfl (lv_at hl 4 rfl) (qg_X9_46 hx hb hts i_X9 hown hK hP11 0 rfl k_7 pf_un dX9_unit_92 (lv_bipush (v := 60) hx hb dX9_unit_95 (by decide) ?_))
            refine lv_icmp_eq (tgt := 117) hx hb dX9_unit_97 (by decide) (fun c_248 => ?_) (fun c_248 => ?_)
            · have tc_248 := q_eq c_248
              refine lv_aload_n hx hb dX9_unit_117 rfl (lv_at hl 4 rfl) ?_
              refine q_cVv (As := []) (rest := []) q_w0 trivial hK hP11 hDa za_r_unit hS11 hA [0] [] (by decide +kernel) ⟨hx, hb, hml, hown, hts⟩ (r_misplaced l dC dI H11.size p0 f_p0 ho_p0) rfl rfl (cwV 0 hts (p1_gV m_19 m_20 m_21 m_3 g_r_misplaced gz_r_misplaced) rfl rfl rfl (by decide +kernel) ⟨by decide, by decide⟩) (va_recv hK hP11 (ci := 8) (q0 := 0) rfl rfl) zm_r_misplaced rfl hl.1 rfl (Nat.le_of_ble_eq_true rfl) dX9_unit_118 ⟨by decide, by decide⟩ (fun H250 lo250 hG250 hS250 => ?_)
              obtain ⟨o_251, o_252, ho_253, hf_254, z_255, z_256, hQ250⟩ := hG250
              have to_252 := (OKX9_g4 ho_253).use z_255
              have hP250 : va_P (dC, dI) vwCl (zW_r_unit p0 o_251 p0_code c_p0_code b_p0_code p0_codeNumber c_p0_codeNumber b_p0_codeNumber p0_eSign c_p0_eSign b_p0_eSign p0_eWhat c_p0_eWhat b_p0_eWhat p0_text c_p0_text b_p0_text) H250 := hQ250
              clear hQ250 hP11 hS11
              exact jn_13 o_251 o_252 _ _ _ ho_253 (q_fr.rf.tr hf_254 (by decide)) (hf_254.u (by decide) fr_p0_1) (hf_254.u (by decide) pf_siz) z_255 (by omega) (hf_254.u (by decide) pf_at0) (hf_254.u (by decide) pf_en) (hf_254.u (by decide) pf_tk) (hf_254.u (by decide) fr_p0_38) (hf_254.u (by decide) fr_p0_39) (hf_254.u (by decide) fr_p0_40) (hf_254.u (by decide) fr_p0_41) (hf_254.u (by decide) pf_rb) (hf_254.u (by decide) pf_co) (hf_254.u (by decide) pf_un) (hf_254.u (by decide) pf_wi) (hf_254.u (by decide) pf_pi) (by omega) hP250 hS250 (lv_sub hl [0, 1, 2, 3, 4] rfl)
            · have tc_248 := q_neN c_248
              refine lv_iload_n hx hb dX9_unit_100 rfl (lv_at hl 2 rfl) ?_
              refine lv_if_ne (tgt := 108) hx hb dX9_unit_101 (by decide) (fun c_257 => ?_) (fun c_257 => ?_)
              · have tc_257 := q_ne c_257
                refine lv_aload_n hx hb dX9_unit_108 rfl (lv_at hl 4 rfl) (qg_X9_47 hx hb hts i_X9 hown hK hP11 0 rfl k_14 pf_wi dX9_unit_109 (lv_bipush (v := 7) hx hb dX9_unit_112 (by decide) ?_))
                refine lv_icmp_ne (tgt := 121) hx hb dX9_unit_114 (by decide) (fun c_258 => ?_) (fun c_258 => ?_)
                · have tc_258 := q_ne c_258
                  exact jn_13 f_p0 fk _ _ _ ho_p0 q_fr.rf fr_p0_1 pf_siz pf_fk (by omega) pf_at0 pf_en pf_tk fr_p0_38 fr_p0_39 fr_p0_40 fr_p0_41 pf_rb pf_co pf_un pf_wi pf_pi (by omega) hP11 hS11 (lv_sub hl [0, 1, 2, 3, 4] rfl)
                · have tc_258 := q_eqN c_258
                  refine lv_aload_n hx hb dX9_unit_117 rfl (lv_at hl 4 rfl) ?_
                  refine q_cVv (As := []) (rest := []) q_w0 trivial hK hP11 hDa za_r_unit hS11 hA [0] [] (by decide +kernel) ⟨hx, hb, hml, hown, hts⟩ (r_misplaced l dC dI H11.size p0 f_p0 ho_p0) rfl rfl (cwV 0 hts (p1_gV m_19 m_20 m_21 m_3 g_r_misplaced gz_r_misplaced) rfl rfl rfl (by decide +kernel) ⟨by decide, by decide⟩) (va_recv hK hP11 (ci := 8) (q0 := 0) rfl rfl) zm_r_misplaced rfl hl.1 rfl (Nat.le_of_ble_eq_true rfl) dX9_unit_118 ⟨by decide, by decide⟩ (fun H260 lo260 hG260 hS260 => ?_)
                  obtain ⟨o_261, o_262, ho_263, hf_264, z_265, z_266, hQ260⟩ := hG260
                  have to_262 := (OKX9_g4 ho_263).use z_265
                  have hP260 : va_P (dC, dI) vwCl (zW_r_unit p0 o_261 p0_code c_p0_code b_p0_code p0_codeNumber c_p0_codeNumber b_p0_codeNumber p0_eSign c_p0_eSign b_p0_eSign p0_eWhat c_p0_eWhat b_p0_eWhat p0_text c_p0_text b_p0_text) H260 := hQ260
                  clear hQ260 hP11 hS11
                  exact jn_13 o_261 o_262 _ _ _ ho_263 (q_fr.rf.tr hf_264 (by decide)) (hf_264.u (by decide) fr_p0_1) (hf_264.u (by decide) pf_siz) z_265 (by omega) (hf_264.u (by decide) pf_at0) (hf_264.u (by decide) pf_en) (hf_264.u (by decide) pf_tk) (hf_264.u (by decide) fr_p0_38) (hf_264.u (by decide) fr_p0_39) (hf_264.u (by decide) fr_p0_40) (hf_264.u (by decide) fr_p0_41) (hf_264.u (by decide) pf_rb) (hf_264.u (by decide) pf_co) (hf_264.u (by decide) pf_un) (hf_264.u (by decide) pf_wi) (hf_264.u (by decide) pf_pi) (by omega) hP260 hS260 (lv_sub hl [0, 1, 2, 3, 4] rfl)
              · have tc_257 := q_eqN c_257
                refine lv_iload_n hx hb dX9_unit_104 rfl (lv_at hl 1 rfl) ?_
                refine lv_if_eq (tgt := 121) hx hb dX9_unit_105 (by decide) (fun c_267 => ?_) (fun c_267 => ?_)
                · have tc_267 := q_eq c_267
                  exact jn_13 f_p0 fk _ _ _ ho_p0 q_fr.rf fr_p0_1 pf_siz pf_fk (by omega) pf_at0 pf_en pf_tk fr_p0_38 fr_p0_39 fr_p0_40 fr_p0_41 pf_rb pf_co pf_un pf_wi pf_pi (by omega) hP11 hS11 (lv_sub hl [0, 1, 2, 3, 4] rfl)
                · have tc_267 := q_neN c_267
                  refine lv_aload_n hx hb dX9_unit_108 rfl (lv_at hl 4 rfl) (qg_X9_47 hx hb hts i_X9 hown hK hP11 0 rfl k_14 pf_wi dX9_unit_109 (lv_bipush (v := 7) hx hb dX9_unit_112 (by decide) ?_))
                  refine lv_icmp_ne (tgt := 121) hx hb dX9_unit_114 (by decide) (fun c_268 => ?_) (fun c_268 => ?_)
                  · have tc_268 := q_ne c_268
                    exact jn_13 f_p0 fk _ _ _ ho_p0 q_fr.rf fr_p0_1 pf_siz pf_fk (by omega) pf_at0 pf_en pf_tk fr_p0_38 fr_p0_39 fr_p0_40 fr_p0_41 pf_rb pf_co pf_un pf_wi pf_pi (by omega) hP11 hS11 (lv_sub hl [0, 1, 2, 3, 4] rfl)
                  · have tc_268 := q_eqN c_268
                    refine lv_aload_n hx hb dX9_unit_117 rfl (lv_at hl 4 rfl) ?_
                    refine q_cVv (As := []) (rest := []) q_w0 trivial hK hP11 hDa za_r_unit hS11 hA [0] [] (by decide +kernel) ⟨hx, hb, hml, hown, hts⟩ (r_misplaced l dC dI H11.size p0 f_p0 ho_p0) rfl rfl (cwV 0 hts (p1_gV m_19 m_20 m_21 m_3 g_r_misplaced gz_r_misplaced) rfl rfl rfl (by decide +kernel) ⟨by decide, by decide⟩) (va_recv hK hP11 (ci := 8) (q0 := 0) rfl rfl) zm_r_misplaced rfl hl.1 rfl (Nat.le_of_ble_eq_true rfl) dX9_unit_118 ⟨by decide, by decide⟩ (fun H270 lo270 hG270 hS270 => ?_)
                    obtain ⟨o_271, o_272, ho_273, hf_274, z_275, z_276, hQ270⟩ := hG270
                    have to_272 := (OKX9_g4 ho_273).use z_275
                    have hP270 : va_P (dC, dI) vwCl (zW_r_unit p0 o_271 p0_code c_p0_code b_p0_code p0_codeNumber c_p0_codeNumber b_p0_codeNumber p0_eSign c_p0_eSign b_p0_eSign p0_eWhat c_p0_eWhat b_p0_eWhat p0_text c_p0_text b_p0_text) H270 := hQ270
                    clear hQ270 hP11 hS11
                    exact jn_13 o_271 o_272 _ _ _ ho_273 (q_fr.rf.tr hf_274 (by decide)) (hf_274.u (by decide) fr_p0_1) (hf_274.u (by decide) pf_siz) z_275 (by omega) (hf_274.u (by decide) pf_at0) (hf_274.u (by decide) pf_en) (hf_274.u (by decide) pf_tk) (hf_274.u (by decide) fr_p0_38) (hf_274.u (by decide) fr_p0_39) (hf_274.u (by decide) fr_p0_40) (hf_274.u (by decide) fr_p0_41) (hf_274.u (by decide) pf_rb) (hf_274.u (by decide) pf_co) (hf_274.u (by decide) pf_un) (hf_274.u (by decide) pf_wi) (hf_274.u (by decide) pf_pi) (by omega) hP270 hS270 (lv_sub hl [0, 1, 2, 3, 4] rfl)
          · have tc_247 := q_eqN c_247
            refine lv_aload_n hx hb dX9_unit_79 rfl (lv_at hl 4 rfl) (qg_X9_8 hx hb hts i_X9 hown hK hP11 0 rfl k_22 pf_tk dX9_unit_80 (lv_iconst (v := 4) hx hb dX9_unit_83 (by decide) ?_))
            refine lv_icmp_eq (tgt := 91) hx hb dX9_unit_84 (by decide) (fun c_277 => ?_) (fun c_277 => ?_)
            · have tc_277 := q_eq c_277
              refine lv_aload_n hx hb dX9_unit_91 rfl (lv_at hl 4 rfl) (qg_X9_46 hx hb hts i_X9 hown hK hP11 0 rfl k_7 pf_un dX9_unit_92 (lv_bipush (v := 60) hx hb dX9_unit_95 (by decide) ?_))
              refine lv_icmp_eq (tgt := 117) hx hb dX9_unit_97 (by decide) (fun c_278 => ?_) (fun c_278 => ?_)
              · have tc_278 := q_eq c_278
                refine lv_aload_n hx hb dX9_unit_117 rfl (lv_at hl 4 rfl) ?_
                refine q_cVv (As := []) (rest := []) q_w0 trivial hK hP11 hDa za_r_unit hS11 hA [0] [] (by decide +kernel) ⟨hx, hb, hml, hown, hts⟩ (r_misplaced l dC dI H11.size p0 f_p0 ho_p0) rfl rfl (cwV 0 hts (p1_gV m_19 m_20 m_21 m_3 g_r_misplaced gz_r_misplaced) rfl rfl rfl (by decide +kernel) ⟨by decide, by decide⟩) (va_recv hK hP11 (ci := 8) (q0 := 0) rfl rfl) zm_r_misplaced rfl hl.1 rfl (Nat.le_of_ble_eq_true rfl) dX9_unit_118 ⟨by decide, by decide⟩ (fun H280 lo280 hG280 hS280 => ?_)
                obtain ⟨o_281, o_282, ho_283, hf_284, z_285, z_286, hQ280⟩ := hG280
                have to_282 := (OKX9_g4 ho_283).use z_285
                have hP280 : va_P (dC, dI) vwCl (zW_r_unit p0 o_281 p0_code c_p0_code b_p0_code p0_codeNumber c_p0_codeNumber b_p0_codeNumber p0_eSign c_p0_eSign b_p0_eSign p0_eWhat c_p0_eWhat b_p0_eWhat p0_text c_p0_text b_p0_text) H280 := hQ280
                clear hQ280 hP11 hS11
                exact jn_13 o_281 o_282 _ _ _ ho_283 (q_fr.rf.tr hf_284 (by decide)) (hf_284.u (by decide) fr_p0_1) (hf_284.u (by decide) pf_siz) z_285 (by omega) (hf_284.u (by decide) pf_at0) (hf_284.u (by decide) pf_en) (hf_284.u (by decide) pf_tk) (hf_284.u (by decide) fr_p0_38) (hf_284.u (by decide) fr_p0_39) (hf_284.u (by decide) fr_p0_40) (hf_284.u (by decide) fr_p0_41) (hf_284.u (by decide) pf_rb) (hf_284.u (by decide) pf_co) (hf_284.u (by decide) pf_un) (hf_284.u (by decide) pf_wi) (hf_284.u (by decide) pf_pi) (by omega) hP280 hS280 (lv_sub hl [0, 1, 2, 3, 4] rfl)
              · have tc_278 := q_neN c_278
                refine lv_iload_n hx hb dX9_unit_100 rfl (lv_at hl 2 rfl) ?_
                refine lv_if_ne (tgt := 108) hx hb dX9_unit_101 (by decide) (fun c_287 => ?_) (fun c_287 => ?_)
                · have tc_287 := q_ne c_287
                  refine lv_aload_n hx hb dX9_unit_108 rfl (lv_at hl 4 rfl) (qg_X9_47 hx hb hts i_X9 hown hK hP11 0 rfl k_14 pf_wi dX9_unit_109 (lv_bipush (v := 7) hx hb dX9_unit_112 (by decide) ?_))
                  refine lv_icmp_ne (tgt := 121) hx hb dX9_unit_114 (by decide) (fun c_288 => ?_) (fun c_288 => ?_)
                  · have tc_288 := q_ne c_288
                    exact jn_13 f_p0 fk _ _ _ ho_p0 q_fr.rf fr_p0_1 pf_siz pf_fk (by omega) pf_at0 pf_en pf_tk fr_p0_38 fr_p0_39 fr_p0_40 fr_p0_41 pf_rb pf_co pf_un pf_wi pf_pi (by omega) hP11 hS11 (lv_sub hl [0, 1, 2, 3, 4] rfl)
                  · have tc_288 := q_eqN c_288
                    refine lv_aload_n hx hb dX9_unit_117 rfl (lv_at hl 4 rfl) ?_
                    refine q_cVv (As := []) (rest := []) q_w0 trivial hK hP11 hDa za_r_unit hS11 hA [0] [] (by decide +kernel) ⟨hx, hb, hml, hown, hts⟩ (r_misplaced l dC dI H11.size p0 f_p0 ho_p0) rfl rfl (cwV 0 hts (p1_gV m_19 m_20 m_21 m_3 g_r_misplaced gz_r_misplaced) rfl rfl rfl (by decide +kernel) ⟨by decide, by decide⟩) (va_recv hK hP11 (ci := 8) (q0 := 0) rfl rfl) zm_r_misplaced rfl hl.1 rfl (Nat.le_of_ble_eq_true rfl) dX9_unit_118 ⟨by decide, by decide⟩ (fun H290 lo290 hG290 hS290 => ?_)
                    obtain ⟨o_291, o_292, ho_293, hf_294, z_295, z_296, hQ290⟩ := hG290
                    have to_292 := (OKX9_g4 ho_293).use z_295
                    have hP290 : va_P (dC, dI) vwCl (zW_r_unit p0 o_291 p0_code c_p0_code b_p0_code p0_codeNumber c_p0_codeNumber b_p0_codeNumber p0_eSign c_p0_eSign b_p0_eSign p0_eWhat c_p0_eWhat b_p0_eWhat p0_text c_p0_text b_p0_text) H290 := hQ290
                    clear hQ290 hP11 hS11
                    exact jn_13 o_291 o_292 _ _ _ ho_293 (q_fr.rf.tr hf_294 (by decide)) (hf_294.u (by decide) fr_p0_1) (hf_294.u (by decide) pf_siz) z_295 (by omega) (hf_294.u (by decide) pf_at0) (hf_294.u (by decide) pf_en) (hf_294.u (by decide) pf_tk) (hf_294.u (by decide) fr_p0_38) (hf_294.u (by decide) fr_p0_39) (hf_294.u (by decide) fr_p0_40) (hf_294.u (by decide) fr_p0_41) (hf_294.u (by decide) pf_rb) (hf_294.u (by decide) pf_co) (hf_294.u (by decide) pf_un) (hf_294.u (by decide) pf_wi) (hf_294.u (by decide) pf_pi) (by omega) hP290 hS290 (lv_sub hl [0, 1, 2, 3, 4] rfl)
                · have tc_287 := q_eqN c_287
                  refine lv_iload_n hx hb dX9_unit_104 rfl (lv_at hl 1 rfl) ?_
                  refine lv_if_eq (tgt := 121) hx hb dX9_unit_105 (by decide) (fun c_297 => ?_) (fun c_297 => ?_)
                  · have tc_297 := q_eq c_297
                    exact jn_13 f_p0 fk _ _ _ ho_p0 q_fr.rf fr_p0_1 pf_siz pf_fk (by omega) pf_at0 pf_en pf_tk fr_p0_38 fr_p0_39 fr_p0_40 fr_p0_41 pf_rb pf_co pf_un pf_wi pf_pi (by omega) hP11 hS11 (lv_sub hl [0, 1, 2, 3, 4] rfl)
                  · have tc_297 := q_neN c_297
                    refine lv_aload_n hx hb dX9_unit_108 rfl (lv_at hl 4 rfl) (qg_X9_47 hx hb hts i_X9 hown hK hP11 0 rfl k_14 pf_wi dX9_unit_109 (lv_bipush (v := 7) hx hb dX9_unit_112 (by decide) ?_))
                    refine lv_icmp_ne (tgt := 121) hx hb dX9_unit_114 (by decide) (fun c_298 => ?_) (fun c_298 => ?_)
                    · have tc_298 := q_ne c_298
                      exact jn_13 f_p0 fk _ _ _ ho_p0 q_fr.rf fr_p0_1 pf_siz pf_fk (by omega) pf_at0 pf_en pf_tk fr_p0_38 fr_p0_39 fr_p0_40 fr_p0_41 pf_rb pf_co pf_un pf_wi pf_pi (by omega) hP11 hS11 (lv_sub hl [0, 1, 2, 3, 4] rfl)
                    · have tc_298 := q_eqN c_298
                      refine lv_aload_n hx hb dX9_unit_117 rfl (lv_at hl 4 rfl) ?_
                      refine q_cVv (As := []) (rest := []) q_w0 trivial hK hP11 hDa za_r_unit hS11 hA [0] [] (by decide +kernel) ⟨hx, hb, hml, hown, hts⟩ (r_misplaced l dC dI H11.size p0 f_p0 ho_p0) rfl rfl (cwV 0 hts (p1_gV m_19 m_20 m_21 m_3 g_r_misplaced gz_r_misplaced) rfl rfl rfl (by decide +kernel) ⟨by decide, by decide⟩) (va_recv hK hP11 (ci := 8) (q0 := 0) rfl rfl) zm_r_misplaced rfl hl.1 rfl (Nat.le_of_ble_eq_true rfl) dX9_unit_118 ⟨by decide, by decide⟩ (fun H300 lo300 hG300 hS300 => ?_)
                      obtain ⟨o_301, o_302, ho_303, hf_304, z_305, z_306, hQ300⟩ := hG300
                      have to_302 := (OKX9_g4 ho_303).use z_305
                      have hP300 : va_P (dC, dI) vwCl (zW_r_unit p0 o_301 p0_code c_p0_code b_p0_code p0_codeNumber c_p0_codeNumber b_p0_codeNumber p0_eSign c_p0_eSign b_p0_eSign p0_eWhat c_p0_eWhat b_p0_eWhat p0_text c_p0_text b_p0_text) H300 := hQ300
                      clear hQ300 hP11 hS11
                      exact jn_13 o_301 o_302 _ _ _ ho_303 (q_fr.rf.tr hf_304 (by decide)) (hf_304.u (by decide) fr_p0_1) (hf_304.u (by decide) pf_siz) z_305 (by omega) (hf_304.u (by decide) pf_at0) (hf_304.u (by decide) pf_en) (hf_304.u (by decide) pf_tk) (hf_304.u (by decide) fr_p0_38) (hf_304.u (by decide) fr_p0_39) (hf_304.u (by decide) fr_p0_40) (hf_304.u (by decide) fr_p0_41) (hf_304.u (by decide) pf_rb) (hf_304.u (by decide) pf_co) (hf_304.u (by decide) pf_un) (hf_304.u (by decide) pf_wi) (hf_304.u (by decide) pf_pi) (by omega) hP300 hS300 (lv_sub hl [0, 1, 2, 3, 4] rfl)
            · have tc_277 := q_neN c_277
              refine lv_iload_n hx hb dX9_unit_87 rfl (lv_at hl 1 rfl) ?_
              refine lv_if_eq (tgt := 117) hx hb dX9_unit_88 (by decide) (fun c_307 => ?_) (fun c_307 => ?_)
              · have tc_307 := q_eq c_307
                refine lv_aload_n hx hb dX9_unit_117 rfl (lv_at hl 4 rfl) ?_
                refine q_cVv (As := []) (rest := []) q_w0 trivial hK hP11 hDa za_r_unit hS11 hA [0] [] (by decide +kernel) ⟨hx, hb, hml, hown, hts⟩ (r_misplaced l dC dI H11.size p0 f_p0 ho_p0) rfl rfl (cwV 0 hts (p1_gV m_19 m_20 m_21 m_3 g_r_misplaced gz_r_misplaced) rfl rfl rfl (by decide +kernel) ⟨by decide, by decide⟩) (va_recv hK hP11 (ci := 8) (q0 := 0) rfl rfl) zm_r_misplaced rfl hl.1 rfl (Nat.le_of_ble_eq_true rfl) dX9_unit_118 ⟨by decide, by decide⟩ (fun H309 lo309 hG309 hS309 => ?_)
                obtain ⟨o_310, o_311, ho_312, hf_313, z_314, z_315, hQ309⟩ := hG309
                have to_311 := (OKX9_g4 ho_312).use z_314
                have hP309 : va_P (dC, dI) vwCl (zW_r_unit p0 o_310 p0_code c_p0_code b_p0_code p0_codeNumber c_p0_codeNumber b_p0_codeNumber p0_eSign c_p0_eSign b_p0_eSign p0_eWhat c_p0_eWhat b_p0_eWhat p0_text c_p0_text b_p0_text) H309 := hQ309
                clear hQ309 hP11 hS11
                exact jn_13 o_310 o_311 _ _ _ ho_312 (q_fr.rf.tr hf_313 (by decide)) (hf_313.u (by decide) fr_p0_1) (hf_313.u (by decide) pf_siz) z_314 (by omega) (hf_313.u (by decide) pf_at0) (hf_313.u (by decide) pf_en) (hf_313.u (by decide) pf_tk) (hf_313.u (by decide) fr_p0_38) (hf_313.u (by decide) fr_p0_39) (hf_313.u (by decide) fr_p0_40) (hf_313.u (by decide) fr_p0_41) (hf_313.u (by decide) pf_rb) (hf_313.u (by decide) pf_co) (hf_313.u (by decide) pf_un) (hf_313.u (by decide) pf_wi) (hf_313.u (by decide) pf_pi) (by omega) hP309 hS309 (lv_sub hl [0, 1, 2, 3, 4] rfl)
              · have tc_307 := q_neN c_307
                refine lv_aload_n hx hb dX9_unit_91 rfl (lv_at hl 4 rfl) (qg_X9_46 hx hb hts i_X9 hown hK hP11 0 rfl k_7 pf_un dX9_unit_92 (lv_bipush (v := 60) hx hb dX9_unit_95 (by decide) ?_))
                refine lv_icmp_eq (tgt := 117) hx hb dX9_unit_97 (by decide) (fun c_316 => ?_) (fun c_316 => ?_)
                · have tc_316 := q_eq c_316
                  refine lv_aload_n hx hb dX9_unit_117 rfl (lv_at hl 4 rfl) ?_
                  refine q_cVv (As := []) (rest := []) q_w0 trivial hK hP11 hDa za_r_unit hS11 hA [0] [] (by decide +kernel) ⟨hx, hb, hml, hown, hts⟩ (r_misplaced l dC dI H11.size p0 f_p0 ho_p0) rfl rfl (cwV 0 hts (p1_gV m_19 m_20 m_21 m_3 g_r_misplaced gz_r_misplaced) rfl rfl rfl (by decide +kernel) ⟨by decide, by decide⟩) (va_recv hK hP11 (ci := 8) (q0 := 0) rfl rfl) zm_r_misplaced rfl hl.1 rfl (Nat.le_of_ble_eq_true rfl) dX9_unit_118 ⟨by decide, by decide⟩ (fun H318 lo318 hG318 hS318 => ?_)
                  obtain ⟨o_319, o_320, ho_321, hf_322, z_323, z_324, hQ318⟩ := hG318
                  have to_320 := (OKX9_g4 ho_321).use z_323
                  have hP318 : va_P (dC, dI) vwCl (zW_r_unit p0 o_319 p0_code c_p0_code b_p0_code p0_codeNumber c_p0_codeNumber b_p0_codeNumber p0_eSign c_p0_eSign b_p0_eSign p0_eWhat c_p0_eWhat b_p0_eWhat p0_text c_p0_text b_p0_text) H318 := hQ318
                  clear hQ318 hP11 hS11
                  exact jn_13 o_319 o_320 _ _ _ ho_321 (q_fr.rf.tr hf_322 (by decide)) (hf_322.u (by decide) fr_p0_1) (hf_322.u (by decide) pf_siz) z_323 (by omega) (hf_322.u (by decide) pf_at0) (hf_322.u (by decide) pf_en) (hf_322.u (by decide) pf_tk) (hf_322.u (by decide) fr_p0_38) (hf_322.u (by decide) fr_p0_39) (hf_322.u (by decide) fr_p0_40) (hf_322.u (by decide) fr_p0_41) (hf_322.u (by decide) pf_rb) (hf_322.u (by decide) pf_co) (hf_322.u (by decide) pf_un) (hf_322.u (by decide) pf_wi) (hf_322.u (by decide) pf_pi) (by omega) hP318 hS318 (lv_sub hl [0, 1, 2, 3, 4] rfl)
                · have tc_316 := q_neN c_316
                  refine lv_iload_n hx hb dX9_unit_100 rfl (lv_at hl 2 rfl) ?_
                  refine lv_if_ne (tgt := 108) hx hb dX9_unit_101 (by decide) (fun c_325 => ?_) (fun c_325 => ?_)
                  · have tc_325 := q_ne c_325
                    refine lv_aload_n hx hb dX9_unit_108 rfl (lv_at hl 4 rfl) (qg_X9_47 hx hb hts i_X9 hown hK hP11 0 rfl k_14 pf_wi dX9_unit_109 (lv_bipush (v := 7) hx hb dX9_unit_112 (by decide) ?_))
                    refine lv_icmp_ne (tgt := 121) hx hb dX9_unit_114 (by decide) (fun c_326 => ?_) (fun c_326 => ?_)
                    · have tc_326 := q_ne c_326
                      exact jn_13 f_p0 fk _ _ _ ho_p0 q_fr.rf fr_p0_1 pf_siz pf_fk (by omega) pf_at0 pf_en pf_tk fr_p0_38 fr_p0_39 fr_p0_40 fr_p0_41 pf_rb pf_co pf_un pf_wi pf_pi (by omega) hP11 hS11 (lv_sub hl [0, 1, 2, 3, 4] rfl)
                    · have tc_326 := q_eqN c_326
                      refine lv_aload_n hx hb dX9_unit_117 rfl (lv_at hl 4 rfl) ?_
                      refine q_cVv (As := []) (rest := []) q_w0 trivial hK hP11 hDa za_r_unit hS11 hA [0] [] (by decide +kernel) ⟨hx, hb, hml, hown, hts⟩ (r_misplaced l dC dI H11.size p0 f_p0 ho_p0) rfl rfl (cwV 0 hts (p1_gV m_19 m_20 m_21 m_3 g_r_misplaced gz_r_misplaced) rfl rfl rfl (by decide +kernel) ⟨by decide, by decide⟩) (va_recv hK hP11 (ci := 8) (q0 := 0) rfl rfl) zm_r_misplaced rfl hl.1 rfl (Nat.le_of_ble_eq_true rfl) dX9_unit_118 ⟨by decide, by decide⟩ (fun H328 lo328 hG328 hS328 => ?_)
                      obtain ⟨o_329, o_330, ho_331, hf_332, z_333, z_334, hQ328⟩ := hG328
                      have to_330 := (OKX9_g4 ho_331).use z_333
                      have hP328 : va_P (dC, dI) vwCl (zW_r_unit p0 o_329 p0_code c_p0_code b_p0_code p0_codeNumber c_p0_codeNumber b_p0_codeNumber p0_eSign c_p0_eSign b_p0_eSign p0_eWhat c_p0_eWhat b_p0_eWhat p0_text c_p0_text b_p0_text) H328 := hQ328
                      clear hQ328 hP11 hS11
                      exact jn_13 o_329 o_330 _ _ _ ho_331 (q_fr.rf.tr hf_332 (by decide)) (hf_332.u (by decide) fr_p0_1) (hf_332.u (by decide) pf_siz) z_333 (by omega) (hf_332.u (by decide) pf_at0) (hf_332.u (by decide) pf_en) (hf_332.u (by decide) pf_tk) (hf_332.u (by decide) fr_p0_38) (hf_332.u (by decide) fr_p0_39) (hf_332.u (by decide) fr_p0_40) (hf_332.u (by decide) fr_p0_41) (hf_332.u (by decide) pf_rb) (hf_332.u (by decide) pf_co) (hf_332.u (by decide) pf_un) (hf_332.u (by decide) pf_wi) (hf_332.u (by decide) pf_pi) (by omega) hP328 hS328 (lv_sub hl [0, 1, 2, 3, 4] rfl)
                  · have tc_325 := q_eqN c_325
                    refine lv_iload_n hx hb dX9_unit_104 rfl (lv_at hl 1 rfl) (lv_if_eq (tgt := 121) hx hb dX9_unit_105 (by decide) (fun c_335 => by exfalso; have t9 := q_eq c_335; omega) (fun c_335 => ?_))
                    have tc_335 := q_neN c_335
                    refine lv_aload_n hx hb dX9_unit_108 rfl (lv_at hl 4 rfl) (qg_X9_47 hx hb hts i_X9 hown hK hP11 0 rfl k_14 pf_wi dX9_unit_109 (lv_bipush (v := 7) hx hb dX9_unit_112 (by decide) ?_))
                    refine lv_icmp_ne (tgt := 121) hx hb dX9_unit_114 (by decide) (fun c_336 => ?_) (fun c_336 => ?_)
                    · have tc_336 := q_ne c_336
                      exact jn_13 f_p0 fk _ _ _ ho_p0 q_fr.rf fr_p0_1 pf_siz pf_fk (by omega) pf_at0 pf_en pf_tk fr_p0_38 fr_p0_39 fr_p0_40 fr_p0_41 pf_rb pf_co pf_un pf_wi pf_pi (by omega) hP11 hS11 (lv_sub hl [0, 1, 2, 3, 4] rfl)
                    · have tc_336 := q_eqN c_336
                      refine lv_aload_n hx hb dX9_unit_117 rfl (lv_at hl 4 rfl) ?_
                      refine q_cVv (As := []) (rest := []) q_w0 trivial hK hP11 hDa za_r_unit hS11 hA [0] [] (by decide +kernel) ⟨hx, hb, hml, hown, hts⟩ (r_misplaced l dC dI H11.size p0 f_p0 ho_p0) rfl rfl (cwV 0 hts (p1_gV m_19 m_20 m_21 m_3 g_r_misplaced gz_r_misplaced) rfl rfl rfl (by decide +kernel) ⟨by decide, by decide⟩) (va_recv hK hP11 (ci := 8) (q0 := 0) rfl rfl) zm_r_misplaced rfl hl.1 rfl (Nat.le_of_ble_eq_true rfl) dX9_unit_118 ⟨by decide, by decide⟩ (fun H338 lo338 hG338 hS338 => ?_)
                      obtain ⟨o_339, o_340, ho_341, hf_342, z_343, z_344, hQ338⟩ := hG338
                      have to_340 := (OKX9_g4 ho_341).use z_343
                      have hP338 : va_P (dC, dI) vwCl (zW_r_unit p0 o_339 p0_code c_p0_code b_p0_code p0_codeNumber c_p0_codeNumber b_p0_codeNumber p0_eSign c_p0_eSign b_p0_eSign p0_eWhat c_p0_eWhat b_p0_eWhat p0_text c_p0_text b_p0_text) H338 := hQ338
                      clear hQ338 hP11 hS11
                      exact jn_13 o_339 o_340 _ _ _ ho_341 (q_fr.rf.tr hf_342 (by decide)) (hf_342.u (by decide) fr_p0_1) (hf_342.u (by decide) pf_siz) z_343 (by omega) (hf_342.u (by decide) pf_at0) (hf_342.u (by decide) pf_en) (hf_342.u (by decide) pf_tk) (hf_342.u (by decide) fr_p0_38) (hf_342.u (by decide) fr_p0_39) (hf_342.u (by decide) fr_p0_40) (hf_342.u (by decide) fr_p0_41) (hf_342.u (by decide) pf_rb) (hf_342.u (by decide) pf_co) (hf_342.u (by decide) pf_un) (hf_342.u (by decide) pf_wi) (hf_342.u (by decide) pf_pi) (by omega) hP338 hS338 (lv_sub hl [0, 1, 2, 3, 4] rfl)
      refine lv_aload_n hx hb dX9_unit_57 rfl (lv_at hl 2 rfl) (lv_bipush (v := 40) hx hb dX9_unit_58 (by decide) ?_)
      refine q_cVi (As := [.int 40]) (rest := []) q_w0 trivial hK hP6 hDa za_r_unit hS6 hA [0, 5] [4] (by decide +kernel) ⟨hx, hb, hml, hown, hts⟩ (r_is l dC dI H6.size p0 f_p0 p0_text c_p0_text b_p0_text 40 tk at0 siz ho_p0 fr_p0_1 pf_tk pf_at0 pf_siz) rfl rfl (cwV 1 hts (p1_gV m_23 m_24 m_25 m_3 g_r_is gz_r_is) rfl rfl rfl (by decide +kernel) ⟨by decide, by decide⟩) (va_recv hK hP6 (ci := 8) (q0 := 0) rfl rfl) zm_r_is rfl hl.1 rfl (Nat.le_of_ble_eq_true rfl) dX9_unit_60 ⟨by decide, by decide⟩ (fun r_345 H346 lo346 hG346 hS346 => ?_)
      obtain ⟨z_347, hQ346⟩ := hG346
      have hP346 : va_P (dC, dI) vwCl (zW_r_unit p0 f_p0 p0_code c_p0_code b_p0_code p0_codeNumber c_p0_codeNumber b_p0_codeNumber p0_eSign c_p0_eSign b_p0_eSign p0_eWhat c_p0_eWhat b_p0_eWhat p0_text c_p0_text b_p0_text) H346 := hQ346
      clear hQ346 hP6 hS6
      rcases z_347 with ⟨rfl, z_347⟩ | ⟨rfl, z_347⟩
      · exact jn_8 1 _ _ _ (by omega) hP346 hS346 (lv_sub hl [0, 1, 2] rfl)
      · exact jn_8 0 _ _ _ (by omega) hP346 hS346 (lv_sub hl [0, 1, 2] rfl)
    refine lv_iload_n hx hb dX9_unit_37 rfl (lv_at hl 0 rfl) ?_
    refine lv_if_eq (tgt := 55) hx hb dX9_unit_38 (by decide) (fun c_348 => ?_) (fun c_348 => ?_)
    · have tc_348 := q_eq c_348
      refine lv_iconst (v := 0) hx hb dX9_unit_55 (by decide) ?_
      exact jn_5 0 _ _ _ (by omega) hP3 hS3 (lv_sub hl [0, 1] rfl)
    · have tc_348 := q_neN c_348
      refine lv_aload_n hx hb dX9_unit_41 rfl (lv_at hl 1 rfl) (lv_ldc2 (v := 7237492) hx hb hown k_26 dX9_unit_42 ?_)
      obtain ⟨v_349, fv_349⟩ := OKX9_g10 ho_p0
      refine q_cVi (As := [.long 7237492]) (rest := []) q_w0 trivial hK hP3 hDa za_r_unit hS3 hA [0] [] (by decide +kernel) ⟨hx, hb, hml, hown, hts⟩ (r_isWord l dC dI H3.size p0 f_p0 7237492 tk v_349 ho_p0 pf_tk fv_349) rfl rfl (cwV 1 hts (p1_gV m_27 m_28 m_29 m_3 g_r_isWord gz_r_isWord) rfl rfl rfl (by decide +kernel) ⟨by decide, by decide⟩) (va_recv hK hP3 (ci := 8) (q0 := 0) rfl rfl) zm_r_isWord rfl hl.1 rfl (Nat.le_of_ble_eq_true rfl) dX9_unit_45 ⟨by decide, by decide⟩ (fun r_350 H351 lo351 hG351 hS351 => ?_)
      obtain ⟨z_352, hQ351⟩ := hG351
      have hP351 : va_P (dC, dI) vwCl (zW_r_unit p0 f_p0 p0_code c_p0_code b_p0_code p0_codeNumber c_p0_codeNumber b_p0_codeNumber p0_eSign c_p0_eSign b_p0_eSign p0_eWhat c_p0_eWhat b_p0_eWhat p0_text c_p0_text b_p0_text) H351 := hQ351
      clear hQ351 hP3 hS3
      rcases z_352 with ⟨rfl, z_352⟩ | ⟨rfl, z_352⟩
      · refine lv_if_eq (tgt := 55) hx hb dX9_unit_48 (by decide) (fun c_353 => absurd c_353 (by decide)) (fun c_353 => ?_)
        refine lv_iconst (v := 1) hx hb dX9_unit_51 (by decide) (lv_goto (tgt := 56) hx hb dX9_unit_52 (by decide) ?_)
        exact jn_5 1 _ _ _ (by omega) hP351 hS351 (lv_sub hl [0, 1] rfl)
      · refine lv_if_eq (tgt := 55) hx hb dX9_unit_48 (by decide) (fun c_354 => ?_) (fun c_354 => absurd c_354 (by decide))
        refine lv_iconst (v := 0) hx hb dX9_unit_55 (by decide) ?_
        exact jn_5 0 _ _ _ (by omega) hP351 hS351 (lv_sub hl [0, 1] rfl)
  refine lv_aload_n hx hb dX9_unit_0 rfl (lv_at hl 0 rfl) (qg_X9_40 hx hb hts i_X9 hown hK hP 0 rfl k_30 fr_p0_40 dX9_unit_1 (lv_aload_n hx hb dX9_unit_4 rfl (lv_at hl 0 rfl) (qg_X9_48 hx hb hts i_X9 hown hK hP 0 rfl k_31 pf_pi dX9_unit_5 (lv_iconst (v := 1) hx hb dX9_unit_8 (by decide) (lv_isub hx hb dX9_unit_9 (lv_topi fun v_355 ev_355 => ?_))))))
  have tv_355 := q_sub ev_355 (by omega) (by omega)
  refine q_ild hx hb hK hP 4 3 rfl rfl (q_in (by omega) (by omega)) dX9_unit_10 (fun v_356 ev_356 => ?_)
  refine lv_iconst (v := 3) hx hb dX9_unit_11 (by decide) ?_
  refine lv_icmp_le (tgt := 31) hx hb dX9_unit_12 (by decide) (fun c_357 => ?_) (fun c_357 => ?_)
  · have tc_357 := q_le c_357
    refine lv_iconst (v := 1) hx hb dX9_unit_31 (by decide) (lv_goto (tgt := 36) hx hb dX9_unit_32 (by decide) ?_)
    exact jn_2 1 _ _ _ (by omega) hP hS (lv_sub hl [0] rfl)
  · have tc_357 := q_gtN c_357
    refine lv_aload_n hx hb dX9_unit_15 rfl (lv_at hl 0 rfl) (qg_X9_40 hx hb hts i_X9 hown hK hP 0 rfl k_30 fr_p0_40 dX9_unit_16 (lv_aload_n hx hb dX9_unit_19 rfl (lv_at hl 0 rfl) (qg_X9_48 hx hb hts i_X9 hown hK hP 0 rfl k_31 pf_pi dX9_unit_20 (lv_iconst (v := 1) hx hb dX9_unit_23 (by decide) (lv_isub hx hb dX9_unit_24 (lv_topi fun v_358 ev_358 => ?_))))))
    have tv_358 := q_sub ev_358 (by omega) (by omega)
    refine q_ild hx hb hK hP 4 3 rfl rfl (q_in (by omega) (by omega)) dX9_unit_25 (fun v_359 ev_359 => ?_)
    refine lv_bipush (v := 7) hx hb dX9_unit_26 (by decide) ?_
    refine lv_icmp_lt (tgt := 35) hx hb dX9_unit_28 (by decide) (fun c_360 => ?_) (fun c_360 => ?_)
    · have tc_360 := q_lt c_360
      refine lv_iconst (v := 0) hx hb dX9_unit_35 (by decide) ?_
      exact jn_2 0 _ _ _ (by omega) hP hS (lv_sub hl [0] rfl)
    · have tc_360 := q_geN c_360
      refine lv_iconst (v := 1) hx hb dX9_unit_31 (by decide) (lv_goto (tgt := 36) hx hb dX9_unit_32 (by decide) ?_)
      exact jn_2 1 _ _ _ (by omega) hP hS (lv_sub hl [0] rfl)
