def zo_r_sign : List Cond := [.code yX9_sign cX9_sign 2 (some .int), .fieldLink RX9 170 "BowWalkModel" "size" "I", .fieldLink RX9 13 "BowWalkModel" "text" "[B"]
def zw_r_sign : List Cond := zo_r_sign ++ (wsX90 ++ [])
theorem gz_r_sign : zw_r_sign.all goodWord = true := p1_ga (by decide +kernel) (p1_ga gk_X9 p1_g0)
theorem iz_r_sign : ∀ w ∈ zw_r_sign, w ∈ lw_tbl := p1_ia (p1_all [1292, 1040, 1038] (by decide +kernel)) (p1_ia ik_X9 p1_i0)
def zW_r_sign (p0 : Nat) (f_p0 : List Value) (p0_text : Nat) (c_p0_text : ClassId) (b_p0_text : Nat → Int32) : va_W := [(p0, .inr (8, f_p0)), (p0_text, .inl (c_p0_text, 1600, .inl b_p0_text))]
def zT_r_sign (c_p0_text : ClassId) : List (ClassId × FieldType) := [(c_p0_text, .byte)]
def zA_r_sign (p0 : Nat) (p0_text : Nat) : List Nat := [p0, p0_text]
theorem za_r_sign {p0 : Nat} {f_p0 : List Value} {p0_text : Nat} {c_p0_text : ClassId} {b_p0_text : Nat → Int32} : (zW_r_sign p0 f_p0 p0_text c_p0_text b_p0_text).map Prod.fst = (zA_r_sign p0 p0_text) := rfl
def zG_r_sign (p0 : Nat) (f_p0 : List Value) (p0_text : Nat) (c_p0_text : ClassId) (b_p0_text : Nat → Int32) (a1 : Int32) (siz : Int32) (r : Int32) (X : va_W → Prop) : Prop := (r.toInt = (q_sgn b_p0_text siz a1).toInt ∧ 0 ≤ r.toInt ∧ r.toInt ≤ 255 ∧ (r.toInt = 0 ∨ a1.toInt < siz.toInt)) ∧ X (zW_r_sign p0 f_p0 p0_text c_p0_text b_p0_text)
theorem zm_r_sign {p0 : Nat} {f_p0 : List Value} {p0_text : Nat} {c_p0_text : ClassId} {b_p0_text : Nat → Int32} {a1 : Int32} {siz : Int32} : ∀ (r : Int32), ∀ X Y : va_W → Prop, (∀ w, X w → Y w) → zG_r_sign p0 f_p0 p0_text c_p0_text b_p0_text a1 siz r X → zG_r_sign p0 f_p0 p0_text c_p0_text b_p0_text a1 siz r Y := fun r X Y h h1 => by obtain ⟨x0, hx⟩ := h1; exact ⟨x0, h _ hx⟩
set_option maxHeartbeats 4000000 in
set_option maxRecDepth 100000 in
theorem r_sign (l : Launch) (dC : Nat → ClassId) (dI : Nat → Nat → Nat) (sz : Nat) (p0 : Nat) (f_p0 : List Value) (p0_text : Nat) (c_p0_text : ClassId) (b_p0_text : Nat → Int32) (a1 : Int32) (siz : Int32) (ho_p0 : OKX9 f_p0) (fr_p0_1 : q_rf f_p0 1 p0_text) (pf_siz : q_if f_p0 3 siz) (ta1 : (0) ≤ a1.toInt ∧ a1.toInt ≤ 1601) : Met l yX9_sign zw_r_sign ({ frames := 0, cells := 0, slots := 0, locals := 0 }) (va_Pc [.ref p0, .int a1] (q_pre (dC, dI) (zW_r_sign p0 f_p0 p0_text c_p0_text b_p0_text) (zT_r_sign c_p0_text) q_E0 sz)) (q_Qi (dC, dI) (zG_r_sign p0 f_p0 p0_text c_p0_text b_p0_text a1 siz) (zA_r_sign p0 p0_text) (va_A (zW_r_sign p0 f_p0 p0_text c_p0_text b_p0_text) sz)) 0 0 (va_A (zW_r_sign p0 f_p0 p0_text c_p0_text b_p0_text) sz) := by
  refine Met.ofW (cc := cX9_sign) (maxL := 2) (ret := (some .int)) (by decide) rfl ?_
  intro p e s m args below meth c s₁ B hml hv
  obtain ⟨rfl, hsz, hP, hK, hD0, hE⟩ := hv
  have hx := B.exec
  have hb := B.bytes
  have hr := B.returns
  have hts := atoms_spec (ws := zw_r_sign) B.pre
  have hown : s.vm.findClass RX9 = some m.cls := findClass_of_methodNamed B.named
  have hlocks := B.notSynchronized
  subst hsz
  have hD := hD0.self (sz := s.heap.size)
  generalize hAe : va_A (zW_r_sign p0 f_p0 p0_text c_p0_text b_p0_text) s.heap.size = A at hD hE ⊢
  have hA : ∀ q : Nat, s.heap.size ≤ q → A q := fun q h => by rw [← hAe]; exact Or.inr h
  have hDa : q_DA A (zA_r_sign p0 p0_text) := q_DA.mk hD za_r_sign
  clear hAe hD0 hD
  have hS : va_S A s.heap s.heap [] := va_S.rf
  have m_0 : (.fieldLink RX9 170 "BowWalkModel" "size" "I" : Cond) ∈ zw_r_sign := List.mem_append_left _ (List.mem_of_getElem? (i := 1) rfl)
  have k_0 := hts _ m_0
  have m_1 : (.fieldLink RX9 13 "BowWalkModel" "text" "[B" : Cond) ∈ zw_r_sign := List.mem_append_left _ (List.mem_of_getElem? (i := 2) rfl)
  have k_1 := hts _ m_1
  have i_X9 : ∀ w ∈ u_ws RX9 TX9 81, w ∈ zw_r_sign := fun w h => List.mem_append_right _ (List.mem_append_left _ h)
  have lt_0 : (0 : Int32).toInt = 0 := by decide
  have lt_255 : (255 : Int32).toInt = 255 := by decide
  have hl := lv_entry ([.ref p0, .int a1]) (n := 2) (Nat.le_of_ble_eq_true rfl)
  rw [lg_entry_eq]
  generalize (lg_sl ([.ref p0, .int a1]) ++ List.replicate (2 - (lg_sl ([.ref p0, .int a1])).length) Slot.unset).toArray = ls at hl ⊢
  have hl : lv_has ls 2 [(0, .ref p0), (1, .int a1)] := hl
  have tsiz := (OKX9_g3 ho_p0).use pf_siz
  refine lv_iload_n hx hb dX9_sign_0 rfl (lv_at hl 1 rfl) (lv_aload_n hx hb dX9_sign_1 rfl (lv_at hl 0 rfl) (qg_X9_3 hx hb hts i_X9 hown hK hP 0 rfl k_0 pf_siz dX9_sign_2 ?_))
  refine lv_icmp_ge (tgt := 21) hx hb dX9_sign_5 (by decide) (fun c_1 => ?_) (fun c_1 => ?_)
  · have tc_1 := q_ge c_1
    refine lv_iconst (v := 0) hx hb dX9_sign_21 (by decide) ?_
    exact q_iret hx hb hr hlocks hS dX9_sign_22 ⟨⟨by rw [q_sgn_ge (by omega)], by omega, by omega, by omega⟩, hP, za_r_sign⟩
  · have tc_1 := q_ltN c_1
    refine lv_aload_n hx hb dX9_sign_8 rfl (lv_at hl 0 rfl) (qg_X9_1 hx hb hts i_X9 hown hK hP 0 rfl k_1 fr_p0_1 dX9_sign_9 (lv_iload_n hx hb dX9_sign_12 rfl (lv_at hl 1 rfl) (q_bld hx hb hK hP 1 0 rfl rfl (q_in (by omega) (by omega)) dX9_sign_13 (fun v_2 ev_2 => ?_))))
    refine lv_sipush (v := 255) hx hb dX9_sign_14 (by decide) (lv_iand hx hb dX9_sign_17 (lv_topi fun v_3 ev_3 => ?_))
    have tv_3 := q_and (k := 8) ev_3 (by decide) (by decide)
    refine lv_goto (tgt := 22) hx hb dX9_sign_18 (by decide) ?_
    exact q_iret hx hb hr hlocks hS dX9_sign_22 ⟨⟨by rw [q_sgn_lt (by omega), ← ev_2, ← ev_3], by omega, by omega, by omega⟩, hP, za_r_sign⟩
def zo_r_isDigit : List Cond := [.code yX9_isDigit cX9_isDigit 1 (some .boolean)]
def zw_r_isDigit : List Cond := zo_r_isDigit ++ []
theorem gz_r_isDigit : zw_r_isDigit.all goodWord = true := p1_ga (by decide +kernel) p1_g0
theorem iz_r_isDigit : ∀ w ∈ zw_r_isDigit, w ∈ lw_tbl := p1_ia (p1_all [1323] (by decide +kernel)) p1_i0
def zW_r_isDigit : va_W := []
def zT_r_isDigit : List (ClassId × FieldType) := []
def zA_r_isDigit : List Nat := []
theorem za_r_isDigit : (zW_r_isDigit).map Prod.fst = zA_r_isDigit := rfl
def zG_r_isDigit (a0 : Int32) (r : Int32) (X : va_W → Prop) : Prop := ((r = 1 ∧ (48 ≤ a0.toInt ∧ a0.toInt ≤ 57)) ∨ (r = 0 ∧ (a0.toInt < 48 ∨ 57 < a0.toInt))) ∧ X (zW_r_isDigit)
theorem zm_r_isDigit {a0 : Int32} : ∀ (r : Int32), ∀ X Y : va_W → Prop, (∀ w, X w → Y w) → zG_r_isDigit a0 r X → zG_r_isDigit a0 r Y := fun r X Y h h1 => by obtain ⟨x0, hx⟩ := h1; exact ⟨x0, h _ hx⟩
set_option maxHeartbeats 4000000 in
set_option maxRecDepth 100000 in
theorem r_isDigit (l : Launch) (dC : Nat → ClassId) (dI : Nat → Nat → Nat) (sz : Nat) (a0 : Int32) : Met l yX9_isDigit zw_r_isDigit ({ frames := 0, cells := 0, slots := 0, locals := 0 }) (va_Pc [.int a0] (q_pre (dC, dI) (zW_r_isDigit) (zT_r_isDigit) q_E0 sz)) (q_Qi (dC, dI) (zG_r_isDigit a0) zA_r_isDigit (va_A (zW_r_isDigit) sz)) 0 0 (va_A (zW_r_isDigit) sz) := by
  refine Met.ofW (cc := cX9_isDigit) (maxL := 1) (ret := (some .boolean)) (by decide) rfl ?_
  intro p e s m args below meth c s₁ B hml hv
  obtain ⟨rfl, hsz, hP, hK, hD0, hE⟩ := hv
  have hx := B.exec
  have hb := B.bytes
  have hr := B.returns
  have hts := atoms_spec (ws := zw_r_isDigit) B.pre
  have hown : s.vm.findClass RX9 = some m.cls := findClass_of_methodNamed B.named
  have hlocks := B.notSynchronized
  subst hsz
  have hD := hD0.self (sz := s.heap.size)
  generalize hAe : va_A (zW_r_isDigit) s.heap.size = A at hD hE ⊢
  have hA : ∀ q : Nat, s.heap.size ≤ q → A q := fun q h => by rw [← hAe]; exact Or.inr h
  have hDa : q_DA A zA_r_isDigit := q_DA.mk hD za_r_isDigit
  clear hAe hD0 hD
  have hS : va_S A s.heap s.heap [] := va_S.rf
  have lt_0 : (0 : Int32).toInt = 0 := by decide
  have lt_1 : (1 : Int32).toInt = 1 := by decide
  have lt_48 : (48 : Int32).toInt = 48 := by decide
  have lt_57 : (57 : Int32).toInt = 57 := by decide
  have hl := lv_entry ([.int a0]) (n := 1) (Nat.le_of_ble_eq_true rfl)
  rw [lg_entry_eq]
  generalize (lg_sl ([.int a0]) ++ List.replicate (1 - (lg_sl ([.int a0])).length) Slot.unset).toArray = ls at hl ⊢
  have hl : lv_has ls 1 [(0, .int a0)] := hl
  refine lv_iload_n hx hb dX9_isDigit_0 rfl (lv_at hl 0 rfl) (lv_bipush (v := 48) hx hb dX9_isDigit_1 (by decide) ?_)
  refine lv_icmp_lt (tgt := 16) hx hb dX9_isDigit_3 (by decide) (fun c_1 => ?_) (fun c_1 => ?_)
  · have tc_1 := q_lt c_1
    refine lv_iconst (v := 0) hx hb dX9_isDigit_16 (by decide) ?_
    exact q_zret hx hb hr hlocks (by decide) hS dX9_isDigit_17 ⟨(Or.inr ⟨rfl, by first | trivial | omega⟩), hP, za_r_isDigit⟩
  · have tc_1 := q_geN c_1
    refine lv_iload_n hx hb dX9_isDigit_6 rfl (lv_at hl 0 rfl) (lv_bipush (v := 57) hx hb dX9_isDigit_7 (by decide) ?_)
    refine lv_icmp_gt (tgt := 16) hx hb dX9_isDigit_9 (by decide) (fun c_2 => ?_) (fun c_2 => ?_)
    · have tc_2 := q_gt c_2
      refine lv_iconst (v := 0) hx hb dX9_isDigit_16 (by decide) ?_
      exact q_zret hx hb hr hlocks (by decide) hS dX9_isDigit_17 ⟨(Or.inr ⟨rfl, by first | trivial | omega⟩), hP, za_r_isDigit⟩
    · have tc_2 := q_leN c_2
      refine lv_iconst (v := 1) hx hb dX9_isDigit_12 (by decide) (lv_goto (tgt := 17) hx hb dX9_isDigit_13 (by decide) ?_)
      exact q_zret hx hb hr hlocks (by decide) hS dX9_isDigit_17 ⟨(Or.inl ⟨rfl, by first | trivial | omega⟩), hP, za_r_isDigit⟩
def zo_r_isSign : List Cond := [.code yX9_isSign cX9_isSign 1 (some .boolean)]
def zw_r_isSign : List Cond := zo_r_isSign ++ []
theorem gz_r_isSign : zw_r_isSign.all goodWord = true := p1_ga (by decide +kernel) p1_g0
theorem iz_r_isSign : ∀ w ∈ zw_r_isSign, w ∈ lw_tbl := p1_ia (p1_all [1326] (by decide +kernel)) p1_i0
def zW_r_isSign : va_W := []
def zT_r_isSign : List (ClassId × FieldType) := []
def zA_r_isSign : List Nat := []
theorem za_r_isSign : (zW_r_isSign).map Prod.fst = zA_r_isSign := rfl
def zG_r_isSign (a0 : Int32) (r : Int32) (X : va_W → Prop) : Prop := ((r = 1 ∧ (True)) ∨ (r = 0 ∧ (True))) ∧ X (zW_r_isSign)
theorem zm_r_isSign {a0 : Int32} : ∀ (r : Int32), ∀ X Y : va_W → Prop, (∀ w, X w → Y w) → zG_r_isSign a0 r X → zG_r_isSign a0 r Y := fun r X Y h h1 => by obtain ⟨x0, hx⟩ := h1; exact ⟨x0, h _ hx⟩
set_option maxHeartbeats 4000000 in
set_option maxRecDepth 100000 in
theorem r_isSign (l : Launch) (dC : Nat → ClassId) (dI : Nat → Nat → Nat) (sz : Nat) (a0 : Int32) : Met l yX9_isSign zw_r_isSign ({ frames := 0, cells := 0, slots := 0, locals := 0 }) (va_Pc [.int a0] (q_pre (dC, dI) (zW_r_isSign) (zT_r_isSign) q_E0 sz)) (q_Qi (dC, dI) (zG_r_isSign a0) zA_r_isSign (va_A (zW_r_isSign) sz)) 0 0 (va_A (zW_r_isSign) sz) := by
  refine Met.ofW (cc := cX9_isSign) (maxL := 1) (ret := (some .boolean)) (by decide) rfl ?_
  intro p e s m args below meth c s₁ B hml hv
  obtain ⟨rfl, hsz, hP, hK, hD0, hE⟩ := hv
  have hx := B.exec
  have hb := B.bytes
  have hr := B.returns
  have hts := atoms_spec (ws := zw_r_isSign) B.pre
  have hown : s.vm.findClass RX9 = some m.cls := findClass_of_methodNamed B.named
  have hlocks := B.notSynchronized
  subst hsz
  have hD := hD0.self (sz := s.heap.size)
  generalize hAe : va_A (zW_r_isSign) s.heap.size = A at hD hE ⊢
  have hA : ∀ q : Nat, s.heap.size ≤ q → A q := fun q h => by rw [← hAe]; exact Or.inr h
  have hDa : q_DA A zA_r_isSign := q_DA.mk hD za_r_isSign
  clear hAe hD0 hD
  have hS : va_S A s.heap s.heap [] := va_S.rf
  have lt_0 : (0 : Int32).toInt = 0 := by decide
  have lt_1 : (1 : Int32).toInt = 1 := by decide
  have lt_40 : (40 : Int32).toInt = 40 := by decide
  have lt_41 : (41 : Int32).toInt = 41 := by decide
  have lt_42 : (42 : Int32).toInt = 42 := by decide
  have lt_43 : (43 : Int32).toInt = 43 := by decide
  have lt_45 : (45 : Int32).toInt = 45 := by decide
  have lt_47 : (47 : Int32).toInt = 47 := by decide
  have lt_59 : (59 : Int32).toInt = 59 := by decide
  have lt_60 : (60 : Int32).toInt = 60 := by decide
  have lt_61 : (61 : Int32).toInt = 61 := by decide
  have lt_62 : (62 : Int32).toInt = 62 := by decide
  have hl := lv_entry ([.int a0]) (n := 1) (Nat.le_of_ble_eq_true rfl)
  rw [lg_entry_eq]
  generalize (lg_sl ([.int a0]) ++ List.replicate (1 - (lg_sl ([.int a0])).length) Slot.unset).toArray = ls at hl ⊢
  have hl : lv_has ls 1 [(0, .int a0)] := hl
  refine lv_iload_n hx hb dX9_isSign_0 rfl (lv_at hl 0 rfl) (lv_bipush (v := 59) hx hb dX9_isSign_1 (by decide) ?_)
  refine lv_icmp_eq (tgt := 60) hx hb dX9_isSign_3 (by decide) (fun c_1 => ?_) (fun c_1 => ?_)
  · have tc_1 := q_eq c_1
    refine lv_iconst (v := 1) hx hb dX9_isSign_60 (by decide) (lv_goto (tgt := 65) hx hb dX9_isSign_61 (by decide) ?_)
    exact q_zret hx hb hr hlocks (by decide) hS dX9_isSign_65 ⟨(Or.inl ⟨rfl, by first | trivial | omega⟩), hP, za_r_isSign⟩
  · have tc_1 := q_neN c_1
    refine lv_iload_n hx hb dX9_isSign_6 rfl (lv_at hl 0 rfl) (lv_bipush (v := 40) hx hb dX9_isSign_7 (by decide) ?_)
    refine lv_icmp_eq (tgt := 60) hx hb dX9_isSign_9 (by decide) (fun c_2 => ?_) (fun c_2 => ?_)
    · have tc_2 := q_eq c_2
      refine lv_iconst (v := 1) hx hb dX9_isSign_60 (by decide) (lv_goto (tgt := 65) hx hb dX9_isSign_61 (by decide) ?_)
      exact q_zret hx hb hr hlocks (by decide) hS dX9_isSign_65 ⟨(Or.inl ⟨rfl, by first | trivial | omega⟩), hP, za_r_isSign⟩
    · have tc_2 := q_neN c_2
      refine lv_iload_n hx hb dX9_isSign_12 rfl (lv_at hl 0 rfl) (lv_bipush (v := 41) hx hb dX9_isSign_13 (by decide) ?_)
      refine lv_icmp_eq (tgt := 60) hx hb dX9_isSign_15 (by decide) (fun c_3 => ?_) (fun c_3 => ?_)
      · have tc_3 := q_eq c_3
        refine lv_iconst (v := 1) hx hb dX9_isSign_60 (by decide) (lv_goto (tgt := 65) hx hb dX9_isSign_61 (by decide) ?_)
        exact q_zret hx hb hr hlocks (by decide) hS dX9_isSign_65 ⟨(Or.inl ⟨rfl, by first | trivial | omega⟩), hP, za_r_isSign⟩
      · have tc_3 := q_neN c_3
        refine lv_iload_n hx hb dX9_isSign_18 rfl (lv_at hl 0 rfl) (lv_bipush (v := 60) hx hb dX9_isSign_19 (by decide) ?_)
        refine lv_icmp_eq (tgt := 60) hx hb dX9_isSign_21 (by decide) (fun c_4 => ?_) (fun c_4 => ?_)
        · have tc_4 := q_eq c_4
          refine lv_iconst (v := 1) hx hb dX9_isSign_60 (by decide) (lv_goto (tgt := 65) hx hb dX9_isSign_61 (by decide) ?_)
          exact q_zret hx hb hr hlocks (by decide) hS dX9_isSign_65 ⟨(Or.inl ⟨rfl, by first | trivial | omega⟩), hP, za_r_isSign⟩
        · have tc_4 := q_neN c_4
          refine lv_iload_n hx hb dX9_isSign_24 rfl (lv_at hl 0 rfl) (lv_bipush (v := 62) hx hb dX9_isSign_25 (by decide) ?_)
          refine lv_icmp_eq (tgt := 60) hx hb dX9_isSign_27 (by decide) (fun c_5 => ?_) (fun c_5 => ?_)
          · have tc_5 := q_eq c_5
            refine lv_iconst (v := 1) hx hb dX9_isSign_60 (by decide) (lv_goto (tgt := 65) hx hb dX9_isSign_61 (by decide) ?_)
            exact q_zret hx hb hr hlocks (by decide) hS dX9_isSign_65 ⟨(Or.inl ⟨rfl, by first | trivial | omega⟩), hP, za_r_isSign⟩
          · have tc_5 := q_neN c_5
            refine lv_iload_n hx hb dX9_isSign_30 rfl (lv_at hl 0 rfl) (lv_bipush (v := 61) hx hb dX9_isSign_31 (by decide) ?_)
            refine lv_icmp_eq (tgt := 60) hx hb dX9_isSign_33 (by decide) (fun c_6 => ?_) (fun c_6 => ?_)
            · have tc_6 := q_eq c_6
              refine lv_iconst (v := 1) hx hb dX9_isSign_60 (by decide) (lv_goto (tgt := 65) hx hb dX9_isSign_61 (by decide) ?_)
              exact q_zret hx hb hr hlocks (by decide) hS dX9_isSign_65 ⟨(Or.inl ⟨rfl, by first | trivial | omega⟩), hP, za_r_isSign⟩
            · have tc_6 := q_neN c_6
              refine lv_iload_n hx hb dX9_isSign_36 rfl (lv_at hl 0 rfl) (lv_bipush (v := 43) hx hb dX9_isSign_37 (by decide) ?_)
              refine lv_icmp_eq (tgt := 60) hx hb dX9_isSign_39 (by decide) (fun c_7 => ?_) (fun c_7 => ?_)
              · have tc_7 := q_eq c_7
                refine lv_iconst (v := 1) hx hb dX9_isSign_60 (by decide) (lv_goto (tgt := 65) hx hb dX9_isSign_61 (by decide) ?_)
                exact q_zret hx hb hr hlocks (by decide) hS dX9_isSign_65 ⟨(Or.inl ⟨rfl, by first | trivial | omega⟩), hP, za_r_isSign⟩
              · have tc_7 := q_neN c_7
                refine lv_iload_n hx hb dX9_isSign_42 rfl (lv_at hl 0 rfl) (lv_bipush (v := 45) hx hb dX9_isSign_43 (by decide) ?_)
                refine lv_icmp_eq (tgt := 60) hx hb dX9_isSign_45 (by decide) (fun c_8 => ?_) (fun c_8 => ?_)
                · have tc_8 := q_eq c_8
                  refine lv_iconst (v := 1) hx hb dX9_isSign_60 (by decide) (lv_goto (tgt := 65) hx hb dX9_isSign_61 (by decide) ?_)
                  exact q_zret hx hb hr hlocks (by decide) hS dX9_isSign_65 ⟨(Or.inl ⟨rfl, by first | trivial | omega⟩), hP, za_r_isSign⟩
                · have tc_8 := q_neN c_8
                  refine lv_iload_n hx hb dX9_isSign_48 rfl (lv_at hl 0 rfl) (lv_bipush (v := 42) hx hb dX9_isSign_49 (by decide) ?_)
                  refine lv_icmp_eq (tgt := 60) hx hb dX9_isSign_51 (by decide) (fun c_9 => ?_) (fun c_9 => ?_)
                  · have tc_9 := q_eq c_9
                    refine lv_iconst (v := 1) hx hb dX9_isSign_60 (by decide) (lv_goto (tgt := 65) hx hb dX9_isSign_61 (by decide) ?_)
                    exact q_zret hx hb hr hlocks (by decide) hS dX9_isSign_65 ⟨(Or.inl ⟨rfl, by first | trivial | omega⟩), hP, za_r_isSign⟩
                  · have tc_9 := q_neN c_9
                    refine lv_iload_n hx hb dX9_isSign_54 rfl (lv_at hl 0 rfl) (lv_bipush (v := 47) hx hb dX9_isSign_55 (by decide) ?_)
                    refine lv_icmp_ne (tgt := 64) hx hb dX9_isSign_57 (by decide) (fun c_10 => ?_) (fun c_10 => ?_)
                    · have tc_10 := q_ne c_10
                      refine lv_iconst (v := 0) hx hb dX9_isSign_64 (by decide) ?_
                      exact q_zret hx hb hr hlocks (by decide) hS dX9_isSign_65 ⟨(Or.inr ⟨rfl, by first | trivial | omega⟩), hP, za_r_isSign⟩
                    · have tc_10 := q_eqN c_10
                      refine lv_iconst (v := 1) hx hb dX9_isSign_60 (by decide) (lv_goto (tgt := 65) hx hb dX9_isSign_61 (by decide) ?_)
                      exact q_zret hx hb hr hlocks (by decide) hS dX9_isSign_65 ⟨(Or.inl ⟨rfl, by first | trivial | omega⟩), hP, za_r_isSign⟩
def zo_r_isKept : List Cond := [.code yX9_isKept cX9_isKept 3 (some .boolean), .constantLong RX9 176 (1802399604), .constantLong RX9 178 (1870030194), .constantLong RX9 180 (504363246962), .constantLong RX9 182 (1668248164), .constantLong RX9 184 (126913858204776), .constantLong RX9 186 (131277443786868), .constantLong RX9 188 (1819242087), .constantLong RX9 190 (2002873451), .constantLong RX9 192 (499984590964), .constantLong RX9 194 (1819632491), .constantLong RX9 196 (7102839), .constantLong RX9 198 (7501154), .constantLong RX9 200 (1886743660), .constantLong RX9 202 (2002873972), .constantLong RX9 204 (448545973363), .constantLong RX9 206 (28530), .constantLong RX9 208 (6385252), .constantLong RX9 210 (7237492), .constantLong RX9 212 (1818848101), .constantLong RX9 214 (482854658917), .constantLong RX9 216 (126943972911973), .constantLong RX9 218 (495924637287)]
def zw_r_isKept : List Cond := zo_r_isKept ++ []
theorem gz_r_isKept : zw_r_isKept.all goodWord = true := p1_ga (by decide +kernel) p1_g0
theorem iz_r_isKept : ∀ w ∈ zw_r_isKept, w ∈ lw_tbl := p1_ia (p1_all [1298, 1299, 1300, 1301, 1302, 1303, 1304, 1305, 1306, 1307, 1308, 1309, 1310, 1311, 1312, 1313, 1314, 1315, 1316, 1317, 1318, 1319, 1320] (by decide +kernel)) p1_i0
def zW_r_isKept : va_W := []
def zT_r_isKept : List (ClassId × FieldType) := []
def zA_r_isKept : List Nat := []
theorem za_r_isKept : (zW_r_isKept).map Prod.fst = zA_r_isKept := rfl
def zG_r_isKept (a0 : Int64) (r : Int32) (X : va_W → Prop) : Prop := ((r = 1 ∧ (True)) ∨ (r = 0 ∧ (True))) ∧ X (zW_r_isKept)
theorem zm_r_isKept {a0 : Int64} : ∀ (r : Int32), ∀ X Y : va_W → Prop, (∀ w, X w → Y w) → zG_r_isKept a0 r X → zG_r_isKept a0 r Y := fun r X Y h h1 => by obtain ⟨x0, hx⟩ := h1; exact ⟨x0, h _ hx⟩
set_option maxHeartbeats 4000000 in
set_option maxRecDepth 100000 in
theorem r_isKept (l : Launch) (dC : Nat → ClassId) (dI : Nat → Nat → Nat) (sz : Nat) (a0 : Int64) : Met l yX9_isKept zw_r_isKept ({ frames := 0, cells := 0, slots := 0, locals := 0 }) (va_Pc [.long a0] (q_pre (dC, dI) (zW_r_isKept) (zT_r_isKept) q_E0 sz)) (q_Qi (dC, dI) (zG_r_isKept a0) zA_r_isKept (va_A (zW_r_isKept) sz)) 0 0 (va_A (zW_r_isKept) sz) := by
  refine Met.ofW (cc := cX9_isKept) (maxL := 3) (ret := (some .boolean)) (by decide) rfl ?_
  intro p e s m args below meth c s₁ B hml hv
  obtain ⟨rfl, hsz, hP, hK, hD0, hE⟩ := hv
  have hx := B.exec
  have hb := B.bytes
  have hr := B.returns
  have hts := atoms_spec (ws := zw_r_isKept) B.pre
  have hown : s.vm.findClass RX9 = some m.cls := findClass_of_methodNamed B.named
  have hlocks := B.notSynchronized
  subst hsz
  have hD := hD0.self (sz := s.heap.size)
  generalize hAe : va_A (zW_r_isKept) s.heap.size = A at hD hE ⊢
  have hA : ∀ q : Nat, s.heap.size ≤ q → A q := fun q h => by rw [← hAe]; exact Or.inr h
  have hDa : q_DA A zA_r_isKept := q_DA.mk hD za_r_isKept
  clear hAe hD0 hD
  have hS : va_S A s.heap s.heap [] := va_S.rf
  have m_0 : (.constantLong RX9 176 (1802399604) : Cond) ∈ zw_r_isKept := List.mem_append_left _ (List.mem_of_getElem? (i := 1) rfl)
  have k_0 := hts _ m_0
  have m_1 : (.constantLong RX9 178 (1870030194) : Cond) ∈ zw_r_isKept := List.mem_append_left _ (List.mem_of_getElem? (i := 2) rfl)
  have k_1 := hts _ m_1
  have m_2 : (.constantLong RX9 180 (504363246962) : Cond) ∈ zw_r_isKept := List.mem_append_left _ (List.mem_of_getElem? (i := 3) rfl)
  have k_2 := hts _ m_2
  have m_3 : (.constantLong RX9 182 (1668248164) : Cond) ∈ zw_r_isKept := List.mem_append_left _ (List.mem_of_getElem? (i := 4) rfl)
  have k_3 := hts _ m_3
  have m_4 : (.constantLong RX9 184 (126913858204776) : Cond) ∈ zw_r_isKept := List.mem_append_left _ (List.mem_of_getElem? (i := 5) rfl)
  have k_4 := hts _ m_4
  have m_5 : (.constantLong RX9 186 (131277443786868) : Cond) ∈ zw_r_isKept := List.mem_append_left _ (List.mem_of_getElem? (i := 6) rfl)
  have k_5 := hts _ m_5
  have m_6 : (.constantLong RX9 188 (1819242087) : Cond) ∈ zw_r_isKept := List.mem_append_left _ (List.mem_of_getElem? (i := 7) rfl)
  have k_6 := hts _ m_6
  have m_7 : (.constantLong RX9 190 (2002873451) : Cond) ∈ zw_r_isKept := List.mem_append_left _ (List.mem_of_getElem? (i := 8) rfl)
  have k_7 := hts _ m_7
  have m_8 : (.constantLong RX9 192 (499984590964) : Cond) ∈ zw_r_isKept := List.mem_append_left _ (List.mem_of_getElem? (i := 9) rfl)
  have k_8 := hts _ m_8
  have m_9 : (.constantLong RX9 194 (1819632491) : Cond) ∈ zw_r_isKept := List.mem_append_left _ (List.mem_of_getElem? (i := 10) rfl)
  have k_9 := hts _ m_9
  have m_10 : (.constantLong RX9 196 (7102839) : Cond) ∈ zw_r_isKept := List.mem_append_left _ (List.mem_of_getElem? (i := 11) rfl)
  have k_10 := hts _ m_10
  have m_11 : (.constantLong RX9 198 (7501154) : Cond) ∈ zw_r_isKept := List.mem_append_left _ (List.mem_of_getElem? (i := 12) rfl)
  have k_11 := hts _ m_11
  have m_12 : (.constantLong RX9 200 (1886743660) : Cond) ∈ zw_r_isKept := List.mem_append_left _ (List.mem_of_getElem? (i := 13) rfl)
  have k_12 := hts _ m_12
  have m_13 : (.constantLong RX9 202 (2002873972) : Cond) ∈ zw_r_isKept := List.mem_append_left _ (List.mem_of_getElem? (i := 14) rfl)
  have k_13 := hts _ m_13
  have m_14 : (.constantLong RX9 204 (448545973363) : Cond) ∈ zw_r_isKept := List.mem_append_left _ (List.mem_of_getElem? (i := 15) rfl)
  have k_14 := hts _ m_14
  have m_15 : (.constantLong RX9 206 (28530) : Cond) ∈ zw_r_isKept := List.mem_append_left _ (List.mem_of_getElem? (i := 16) rfl)
  have k_15 := hts _ m_15
  have m_16 : (.constantLong RX9 208 (6385252) : Cond) ∈ zw_r_isKept := List.mem_append_left _ (List.mem_of_getElem? (i := 17) rfl)
  have k_16 := hts _ m_16
  have m_17 : (.constantLong RX9 210 (7237492) : Cond) ∈ zw_r_isKept := List.mem_append_left _ (List.mem_of_getElem? (i := 18) rfl)
  have k_17 := hts _ m_17
  have m_18 : (.constantLong RX9 212 (1818848101) : Cond) ∈ zw_r_isKept := List.mem_append_left _ (List.mem_of_getElem? (i := 19) rfl)
  have k_18 := hts _ m_18
  have m_19 : (.constantLong RX9 214 (482854658917) : Cond) ∈ zw_r_isKept := List.mem_append_left _ (List.mem_of_getElem? (i := 20) rfl)
  have k_19 := hts _ m_19
  have m_20 : (.constantLong RX9 216 (126943972911973) : Cond) ∈ zw_r_isKept := List.mem_append_left _ (List.mem_of_getElem? (i := 21) rfl)
  have k_20 := hts _ m_20
  have m_21 : (.constantLong RX9 218 (495924637287) : Cond) ∈ zw_r_isKept := List.mem_append_left _ (List.mem_of_getElem? (i := 22) rfl)
  have k_21 := hts _ m_21
  have lt_0 : (0 : Int32).toInt = 0 := by decide
  have lt_1 : (1 : Int32).toInt = 1 := by decide
  have hl := lv_entry ([.long a0]) (n := 3) (Nat.le_of_ble_eq_true rfl)
  rw [lg_entry_eq]
  generalize (lg_sl ([.long a0]) ++ List.replicate (3 - (lg_sl ([.long a0])).length) Slot.unset).toArray = ls at hl ⊢
  have hl : lv_has ls 3 [(0, .long a0)] := hl
  refine lv_lload_n hx hb dX9_isKept_0 rfl (lv_at hl 0 rfl) (lv_ldc2 (v := 1802399604) hx hb hown k_0 dX9_isKept_1 (W.lcmp hx hb dX9_isKept_4 (lv_topi fun v_1 ev_1 => ?_)))
  refine lv_if_eq (tgt := 88) hx hb dX9_isKept_5 (by decide) (fun c_2 => ?_) (fun c_2 => ?_)
  · have tc_2 := q_eq c_2
    refine lv_iconst (v := 1) hx hb dX9_isKept_88 (by decide) (lv_goto (tgt := 93) hx hb dX9_isKept_89 (by decide) (lv_istore_n (lv' := [(2, .int 1), (0, .long a0)]) hx hb dX9_isKept_93 rfl hl (by decide) rfl (fun ls hl => ?_)))
    refine lv_iload_n hx hb dX9_isKept_94 rfl (lv_at hl 0 rfl) (lv_if_ne (tgt := 186) hx hb dX9_isKept_95 (by decide) (fun c_3 => ?_) (fun c_3 => absurd c_3 (by decide)))
    refine lv_iconst (v := 1) hx hb dX9_isKept_186 (by decide) (lv_goto (tgt := 191) hx hb dX9_isKept_187 (by decide) ?_)
    exact q_zret hx hb hr hlocks (by decide) hS dX9_isKept_191 ⟨(Or.inl ⟨rfl, by first | trivial | omega⟩), hP, za_r_isKept⟩
  · have tc_2 := q_neN c_2
    refine lv_lload_n hx hb dX9_isKept_8 rfl (lv_at hl 0 rfl) (lv_ldc2 (v := 1870030194) hx hb hown k_1 dX9_isKept_9 (W.lcmp hx hb dX9_isKept_12 (lv_topi fun v_4 ev_4 => ?_)))
    refine lv_if_eq (tgt := 88) hx hb dX9_isKept_13 (by decide) (fun c_5 => ?_) (fun c_5 => ?_)
    · have tc_5 := q_eq c_5
      refine lv_iconst (v := 1) hx hb dX9_isKept_88 (by decide) (lv_goto (tgt := 93) hx hb dX9_isKept_89 (by decide) (lv_istore_n (lv' := [(2, .int 1), (0, .long a0)]) hx hb dX9_isKept_93 rfl hl (by decide) rfl (fun ls hl => ?_)))
      refine lv_iload_n hx hb dX9_isKept_94 rfl (lv_at hl 0 rfl) (lv_if_ne (tgt := 186) hx hb dX9_isKept_95 (by decide) (fun c_6 => ?_) (fun c_6 => absurd c_6 (by decide)))
      refine lv_iconst (v := 1) hx hb dX9_isKept_186 (by decide) (lv_goto (tgt := 191) hx hb dX9_isKept_187 (by decide) ?_)
      exact q_zret hx hb hr hlocks (by decide) hS dX9_isKept_191 ⟨(Or.inl ⟨rfl, by first | trivial | omega⟩), hP, za_r_isKept⟩
    · have tc_5 := q_neN c_5
      refine lv_lload_n hx hb dX9_isKept_16 rfl (lv_at hl 0 rfl) (lv_ldc2 (v := 504363246962) hx hb hown k_2 dX9_isKept_17 (W.lcmp hx hb dX9_isKept_20 (lv_topi fun v_7 ev_7 => ?_)))
      refine lv_if_eq (tgt := 88) hx hb dX9_isKept_21 (by decide) (fun c_8 => ?_) (fun c_8 => ?_)
      · have tc_8 := q_eq c_8
        refine lv_iconst (v := 1) hx hb dX9_isKept_88 (by decide) (lv_goto (tgt := 93) hx hb dX9_isKept_89 (by decide) (lv_istore_n (lv' := [(2, .int 1), (0, .long a0)]) hx hb dX9_isKept_93 rfl hl (by decide) rfl (fun ls hl => ?_)))
        refine lv_iload_n hx hb dX9_isKept_94 rfl (lv_at hl 0 rfl) (lv_if_ne (tgt := 186) hx hb dX9_isKept_95 (by decide) (fun c_9 => ?_) (fun c_9 => absurd c_9 (by decide)))
        refine lv_iconst (v := 1) hx hb dX9_isKept_186 (by decide) (lv_goto (tgt := 191) hx hb dX9_isKept_187 (by decide) ?_)
        exact q_zret hx hb hr hlocks (by decide) hS dX9_isKept_191 ⟨(Or.inl ⟨rfl, by first | trivial | omega⟩), hP, za_r_isKept⟩
      · have tc_8 := q_neN c_8
        refine lv_lload_n hx hb dX9_isKept_24 rfl (lv_at hl 0 rfl) (lv_ldc2 (v := 1668248164) hx hb hown k_3 dX9_isKept_25 (W.lcmp hx hb dX9_isKept_28 (lv_topi fun v_10 ev_10 => ?_)))
        refine lv_if_eq (tgt := 88) hx hb dX9_isKept_29 (by decide) (fun c_11 => ?_) (fun c_11 => ?_)
        · have tc_11 := q_eq c_11
          refine lv_iconst (v := 1) hx hb dX9_isKept_88 (by decide) (lv_goto (tgt := 93) hx hb dX9_isKept_89 (by decide) (lv_istore_n (lv' := [(2, .int 1), (0, .long a0)]) hx hb dX9_isKept_93 rfl hl (by decide) rfl (fun ls hl => ?_)))
          refine lv_iload_n hx hb dX9_isKept_94 rfl (lv_at hl 0 rfl) (lv_if_ne (tgt := 186) hx hb dX9_isKept_95 (by decide) (fun c_12 => ?_) (fun c_12 => absurd c_12 (by decide)))
          refine lv_iconst (v := 1) hx hb dX9_isKept_186 (by decide) (lv_goto (tgt := 191) hx hb dX9_isKept_187 (by decide) ?_)
          exact q_zret hx hb hr hlocks (by decide) hS dX9_isKept_191 ⟨(Or.inl ⟨rfl, by first | trivial | omega⟩), hP, za_r_isKept⟩
        · have tc_11 := q_neN c_11
          refine lv_lload_n hx hb dX9_isKept_32 rfl (lv_at hl 0 rfl) (lv_ldc2 (v := 126913858204776) hx hb hown k_4 dX9_isKept_33 (W.lcmp hx hb dX9_isKept_36 (lv_topi fun v_13 ev_13 => ?_)))
          refine lv_if_eq (tgt := 88) hx hb dX9_isKept_37 (by decide) (fun c_14 => ?_) (fun c_14 => ?_)
          · have tc_14 := q_eq c_14
            refine lv_iconst (v := 1) hx hb dX9_isKept_88 (by decide) (lv_goto (tgt := 93) hx hb dX9_isKept_89 (by decide) (lv_istore_n (lv' := [(2, .int 1), (0, .long a0)]) hx hb dX9_isKept_93 rfl hl (by decide) rfl (fun ls hl => ?_)))
            refine lv_iload_n hx hb dX9_isKept_94 rfl (lv_at hl 0 rfl) (lv_if_ne (tgt := 186) hx hb dX9_isKept_95 (by decide) (fun c_15 => ?_) (fun c_15 => absurd c_15 (by decide)))
            refine lv_iconst (v := 1) hx hb dX9_isKept_186 (by decide) (lv_goto (tgt := 191) hx hb dX9_isKept_187 (by decide) ?_)
            exact q_zret hx hb hr hlocks (by decide) hS dX9_isKept_191 ⟨(Or.inl ⟨rfl, by first | trivial | omega⟩), hP, za_r_isKept⟩
          · have tc_14 := q_neN c_14
            refine lv_lload_n hx hb dX9_isKept_40 rfl (lv_at hl 0 rfl) (lv_ldc2 (v := 131277443786868) hx hb hown k_5 dX9_isKept_41 (W.lcmp hx hb dX9_isKept_44 (lv_topi fun v_16 ev_16 => ?_)))
            refine lv_if_eq (tgt := 88) hx hb dX9_isKept_45 (by decide) (fun c_17 => ?_) (fun c_17 => ?_)
            · have tc_17 := q_eq c_17
              refine lv_iconst (v := 1) hx hb dX9_isKept_88 (by decide) (lv_goto (tgt := 93) hx hb dX9_isKept_89 (by decide) (lv_istore_n (lv' := [(2, .int 1), (0, .long a0)]) hx hb dX9_isKept_93 rfl hl (by decide) rfl (fun ls hl => ?_)))
              refine lv_iload_n hx hb dX9_isKept_94 rfl (lv_at hl 0 rfl) (lv_if_ne (tgt := 186) hx hb dX9_isKept_95 (by decide) (fun c_18 => ?_) (fun c_18 => absurd c_18 (by decide)))
              refine lv_iconst (v := 1) hx hb dX9_isKept_186 (by decide) (lv_goto (tgt := 191) hx hb dX9_isKept_187 (by decide) ?_)
              exact q_zret hx hb hr hlocks (by decide) hS dX9_isKept_191 ⟨(Or.inl ⟨rfl, by first | trivial | omega⟩), hP, za_r_isKept⟩
            · have tc_17 := q_neN c_17
              refine lv_lload_n hx hb dX9_isKept_48 rfl (lv_at hl 0 rfl) (lv_ldc2 (v := 1819242087) hx hb hown k_6 dX9_isKept_49 (W.lcmp hx hb dX9_isKept_52 (lv_topi fun v_19 ev_19 => ?_)))
              refine lv_if_eq (tgt := 88) hx hb dX9_isKept_53 (by decide) (fun c_20 => ?_) (fun c_20 => ?_)
              · have tc_20 := q_eq c_20
                refine lv_iconst (v := 1) hx hb dX9_isKept_88 (by decide) (lv_goto (tgt := 93) hx hb dX9_isKept_89 (by decide) (lv_istore_n (lv' := [(2, .int 1), (0, .long a0)]) hx hb dX9_isKept_93 rfl hl (by decide) rfl (fun ls hl => ?_)))
                refine lv_iload_n hx hb dX9_isKept_94 rfl (lv_at hl 0 rfl) (lv_if_ne (tgt := 186) hx hb dX9_isKept_95 (by decide) (fun c_21 => ?_) (fun c_21 => absurd c_21 (by decide)))
                refine lv_iconst (v := 1) hx hb dX9_isKept_186 (by decide) (lv_goto (tgt := 191) hx hb dX9_isKept_187 (by decide) ?_)
                exact q_zret hx hb hr hlocks (by decide) hS dX9_isKept_191 ⟨(Or.inl ⟨rfl, by first | trivial | omega⟩), hP, za_r_isKept⟩
              · have tc_20 := q_neN c_20
                refine lv_lload_n hx hb dX9_isKept_56 rfl (lv_at hl 0 rfl) (lv_ldc2 (v := 2002873451) hx hb hown k_7 dX9_isKept_57 (W.lcmp hx hb dX9_isKept_60 (lv_topi fun v_22 ev_22 => ?_)))
                refine lv_if_eq (tgt := 88) hx hb dX9_isKept_61 (by decide) (fun c_23 => ?_) (fun c_23 => ?_)
                · have tc_23 := q_eq c_23
                  refine lv_iconst (v := 1) hx hb dX9_isKept_88 (by decide) (lv_goto (tgt := 93) hx hb dX9_isKept_89 (by decide) (lv_istore_n (lv' := [(2, .int 1), (0, .long a0)]) hx hb dX9_isKept_93 rfl hl (by decide) rfl (fun ls hl => ?_)))
                  refine lv_iload_n hx hb dX9_isKept_94 rfl (lv_at hl 0 rfl) (lv_if_ne (tgt := 186) hx hb dX9_isKept_95 (by decide) (fun c_24 => ?_) (fun c_24 => absurd c_24 (by decide)))
                  refine lv_iconst (v := 1) hx hb dX9_isKept_186 (by decide) (lv_goto (tgt := 191) hx hb dX9_isKept_187 (by decide) ?_)
                  exact q_zret hx hb hr hlocks (by decide) hS dX9_isKept_191 ⟨(Or.inl ⟨rfl, by first | trivial | omega⟩), hP, za_r_isKept⟩
                · have tc_23 := q_neN c_23
                  refine lv_lload_n hx hb dX9_isKept_64 rfl (lv_at hl 0 rfl) (lv_ldc2 (v := 499984590964) hx hb hown k_8 dX9_isKept_65 (W.lcmp hx hb dX9_isKept_68 (lv_topi fun v_25 ev_25 => ?_)))
                  refine lv_if_eq (tgt := 88) hx hb dX9_isKept_69 (by decide) (fun c_26 => ?_) (fun c_26 => ?_)
                  · have tc_26 := q_eq c_26
                    refine lv_iconst (v := 1) hx hb dX9_isKept_88 (by decide) (lv_goto (tgt := 93) hx hb dX9_isKept_89 (by decide) (lv_istore_n (lv' := [(2, .int 1), (0, .long a0)]) hx hb dX9_isKept_93 rfl hl (by decide) rfl (fun ls hl => ?_)))
                    refine lv_iload_n hx hb dX9_isKept_94 rfl (lv_at hl 0 rfl) (lv_if_ne (tgt := 186) hx hb dX9_isKept_95 (by decide) (fun c_27 => ?_) (fun c_27 => absurd c_27 (by decide)))
                    refine lv_iconst (v := 1) hx hb dX9_isKept_186 (by decide) (lv_goto (tgt := 191) hx hb dX9_isKept_187 (by decide) ?_)
                    exact q_zret hx hb hr hlocks (by decide) hS dX9_isKept_191 ⟨(Or.inl ⟨rfl, by first | trivial | omega⟩), hP, za_r_isKept⟩
                  · have tc_26 := q_neN c_26
                    refine lv_lload_n hx hb dX9_isKept_72 rfl (lv_at hl 0 rfl) (lv_ldc2 (v := 1819632491) hx hb hown k_9 dX9_isKept_73 (W.lcmp hx hb dX9_isKept_76 (lv_topi fun v_28 ev_28 => ?_)))
                    refine lv_if_eq (tgt := 88) hx hb dX9_isKept_77 (by decide) (fun c_29 => ?_) (fun c_29 => ?_)
                    · have tc_29 := q_eq c_29
                      refine lv_iconst (v := 1) hx hb dX9_isKept_88 (by decide) (lv_goto (tgt := 93) hx hb dX9_isKept_89 (by decide) (lv_istore_n (lv' := [(2, .int 1), (0, .long a0)]) hx hb dX9_isKept_93 rfl hl (by decide) rfl (fun ls hl => ?_)))
                      refine lv_iload_n hx hb dX9_isKept_94 rfl (lv_at hl 0 rfl) (lv_if_ne (tgt := 186) hx hb dX9_isKept_95 (by decide) (fun c_30 => ?_) (fun c_30 => absurd c_30 (by decide)))
                      refine lv_iconst (v := 1) hx hb dX9_isKept_186 (by decide) (lv_goto (tgt := 191) hx hb dX9_isKept_187 (by decide) ?_)
                      exact q_zret hx hb hr hlocks (by decide) hS dX9_isKept_191 ⟨(Or.inl ⟨rfl, by first | trivial | omega⟩), hP, za_r_isKept⟩
                    · have tc_29 := q_neN c_29
                      refine lv_lload_n hx hb dX9_isKept_80 rfl (lv_at hl 0 rfl) (lv_ldc2 (v := 7102839) hx hb hown k_10 dX9_isKept_81 (W.lcmp hx hb dX9_isKept_84 (lv_topi fun v_31 ev_31 => ?_)))
                      refine lv_if_ne (tgt := 92) hx hb dX9_isKept_85 (by decide) (fun c_32 => ?_) (fun c_32 => ?_)
                      · have tc_32 := q_ne c_32
                        refine lv_iconst (v := 0) hx hb dX9_isKept_92 (by decide) (lv_istore_n (lv' := [(2, .int 0), (0, .long a0)]) hx hb dX9_isKept_93 rfl hl (by decide) rfl (fun ls hl => ?_))
                        refine lv_iload_n hx hb dX9_isKept_94 rfl (lv_at hl 0 rfl) (lv_if_ne (tgt := 186) hx hb dX9_isKept_95 (by decide) (fun c_33 => absurd c_33 (by decide)) (fun c_33 => ?_))
                        refine lv_lload_n hx hb dX9_isKept_98 rfl (lv_at hl 1 rfl) (lv_ldc2 (v := 7501154) hx hb hown k_11 dX9_isKept_99 (W.lcmp hx hb dX9_isKept_102 (lv_topi fun v_34 ev_34 => ?_)))
                        refine lv_if_eq (tgt := 186) hx hb dX9_isKept_103 (by decide) (fun c_35 => ?_) (fun c_35 => ?_)
                        · have tc_35 := q_eq c_35
                          refine lv_iconst (v := 1) hx hb dX9_isKept_186 (by decide) (lv_goto (tgt := 191) hx hb dX9_isKept_187 (by decide) ?_)
                          exact q_zret hx hb hr hlocks (by decide) hS dX9_isKept_191 ⟨(Or.inl ⟨rfl, by first | trivial | omega⟩), hP, za_r_isKept⟩
                        · have tc_35 := q_neN c_35
                          refine lv_lload_n hx hb dX9_isKept_106 rfl (lv_at hl 1 rfl) (lv_ldc2 (v := 1886743660) hx hb hown k_12 dX9_isKept_107 (W.lcmp hx hb dX9_isKept_110 (lv_topi fun v_36 ev_36 => ?_)))
                          refine lv_if_eq (tgt := 186) hx hb dX9_isKept_111 (by decide) (fun c_37 => ?_) (fun c_37 => ?_)
                          · have tc_37 := q_eq c_37
                            refine lv_iconst (v := 1) hx hb dX9_isKept_186 (by decide) (lv_goto (tgt := 191) hx hb dX9_isKept_187 (by decide) ?_)
                            exact q_zret hx hb hr hlocks (by decide) hS dX9_isKept_191 ⟨(Or.inl ⟨rfl, by first | trivial | omega⟩), hP, za_r_isKept⟩
                          · have tc_37 := q_neN c_37
                            refine lv_lload_n hx hb dX9_isKept_114 rfl (lv_at hl 1 rfl) (lv_ldc2 (v := 2002873972) hx hb hown k_13 dX9_isKept_115 (W.lcmp hx hb dX9_isKept_118 (lv_topi fun v_38 ev_38 => ?_)))
                            refine lv_if_eq (tgt := 186) hx hb dX9_isKept_119 (by decide) (fun c_39 => ?_) (fun c_39 => ?_)
                            · have tc_39 := q_eq c_39
                              refine lv_iconst (v := 1) hx hb dX9_isKept_186 (by decide) (lv_goto (tgt := 191) hx hb dX9_isKept_187 (by decide) ?_)
                              exact q_zret hx hb hr hlocks (by decide) hS dX9_isKept_191 ⟨(Or.inl ⟨rfl, by first | trivial | omega⟩), hP, za_r_isKept⟩
                            · have tc_39 := q_neN c_39
                              refine lv_lload_n hx hb dX9_isKept_122 rfl (lv_at hl 1 rfl) (lv_ldc2 (v := 448545973363) hx hb hown k_14 dX9_isKept_123 (W.lcmp hx hb dX9_isKept_126 (lv_topi fun v_40 ev_40 => ?_)))
                              refine lv_if_eq (tgt := 186) hx hb dX9_isKept_127 (by decide) (fun c_41 => ?_) (fun c_41 => ?_)
                              · have tc_41 := q_eq c_41
                                refine lv_iconst (v := 1) hx hb dX9_isKept_186 (by decide) (lv_goto (tgt := 191) hx hb dX9_isKept_187 (by decide) ?_)
                                exact q_zret hx hb hr hlocks (by decide) hS dX9_isKept_191 ⟨(Or.inl ⟨rfl, by first | trivial | omega⟩), hP, za_r_isKept⟩
                              · have tc_41 := q_neN c_41
                                refine lv_lload_n hx hb dX9_isKept_130 rfl (lv_at hl 1 rfl) (lv_ldc2 (v := 28530) hx hb hown k_15 dX9_isKept_131 (W.lcmp hx hb dX9_isKept_134 (lv_topi fun v_42 ev_42 => ?_)))
                                refine lv_if_eq (tgt := 186) hx hb dX9_isKept_135 (by decide) (fun c_43 => ?_) (fun c_43 => ?_)
                                · have tc_43 := q_eq c_43
                                  refine lv_iconst (v := 1) hx hb dX9_isKept_186 (by decide) (lv_goto (tgt := 191) hx hb dX9_isKept_187 (by decide) ?_)
                                  exact q_zret hx hb hr hlocks (by decide) hS dX9_isKept_191 ⟨(Or.inl ⟨rfl, by first | trivial | omega⟩), hP, za_r_isKept⟩
                                · have tc_43 := q_neN c_43
                                  refine lv_lload_n hx hb dX9_isKept_138 rfl (lv_at hl 1 rfl) (lv_ldc2 (v := 6385252) hx hb hown k_16 dX9_isKept_139 (W.lcmp hx hb dX9_isKept_142 (lv_topi fun v_44 ev_44 => ?_)))
                                  refine lv_if_eq (tgt := 186) hx hb dX9_isKept_143 (by decide) (fun c_45 => ?_) (fun c_45 => ?_)
                                  · have tc_45 := q_eq c_45
                                    refine lv_iconst (v := 1) hx hb dX9_isKept_186 (by decide) (lv_goto (tgt := 191) hx hb dX9_isKept_187 (by decide) ?_)
                                    exact q_zret hx hb hr hlocks (by decide) hS dX9_isKept_191 ⟨(Or.inl ⟨rfl, by first | trivial | omega⟩), hP, za_r_isKept⟩
                                  · have tc_45 := q_neN c_45
                                    refine lv_lload_n hx hb dX9_isKept_146 rfl (lv_at hl 1 rfl) (lv_ldc2 (v := 7237492) hx hb hown k_17 dX9_isKept_147 (W.lcmp hx hb dX9_isKept_150 (lv_topi fun v_46 ev_46 => ?_)))
                                    refine lv_if_eq (tgt := 186) hx hb dX9_isKept_151 (by decide) (fun c_47 => ?_) (fun c_47 => ?_)
                                    · have tc_47 := q_eq c_47
                                      refine lv_iconst (v := 1) hx hb dX9_isKept_186 (by decide) (lv_goto (tgt := 191) hx hb dX9_isKept_187 (by decide) ?_)
                                      exact q_zret hx hb hr hlocks (by decide) hS dX9_isKept_191 ⟨(Or.inl ⟨rfl, by first | trivial | omega⟩), hP, za_r_isKept⟩
                                    · have tc_47 := q_neN c_47
                                      refine lv_lload_n hx hb dX9_isKept_154 rfl (lv_at hl 1 rfl) (lv_ldc2 (v := 1818848101) hx hb hown k_18 dX9_isKept_155 (W.lcmp hx hb dX9_isKept_158 (lv_topi fun v_48 ev_48 => ?_)))
                                      refine lv_if_eq (tgt := 186) hx hb dX9_isKept_159 (by decide) (fun c_49 => ?_) (fun c_49 => ?_)
                                      · have tc_49 := q_eq c_49
                                        refine lv_iconst (v := 1) hx hb dX9_isKept_186 (by decide) (lv_goto (tgt := 191) hx hb dX9_isKept_187 (by decide) ?_)
                                        exact q_zret hx hb hr hlocks (by decide) hS dX9_isKept_191 ⟨(Or.inl ⟨rfl, by first | trivial | omega⟩), hP, za_r_isKept⟩
                                      · have tc_49 := q_neN c_49
                                        refine lv_lload_n hx hb dX9_isKept_162 rfl (lv_at hl 1 rfl) (lv_ldc2 (v := 482854658917) hx hb hown k_19 dX9_isKept_163 (W.lcmp hx hb dX9_isKept_166 (lv_topi fun v_50 ev_50 => ?_)))
                                        refine lv_if_eq (tgt := 186) hx hb dX9_isKept_167 (by decide) (fun c_51 => ?_) (fun c_51 => ?_)
                                        · have tc_51 := q_eq c_51
                                          refine lv_iconst (v := 1) hx hb dX9_isKept_186 (by decide) (lv_goto (tgt := 191) hx hb dX9_isKept_187 (by decide) ?_)
                                          exact q_zret hx hb hr hlocks (by decide) hS dX9_isKept_191 ⟨(Or.inl ⟨rfl, by first | trivial | omega⟩), hP, za_r_isKept⟩
                                        · have tc_51 := q_neN c_51
                                          refine lv_lload_n hx hb dX9_isKept_170 rfl (lv_at hl 1 rfl) (lv_ldc2 (v := 126943972911973) hx hb hown k_20 dX9_isKept_171 (W.lcmp hx hb dX9_isKept_174 (lv_topi fun v_52 ev_52 => ?_)))
                                          refine lv_if_eq (tgt := 186) hx hb dX9_isKept_175 (by decide) (fun c_53 => ?_) (fun c_53 => ?_)
                                          · have tc_53 := q_eq c_53
                                            refine lv_iconst (v := 1) hx hb dX9_isKept_186 (by decide) (lv_goto (tgt := 191) hx hb dX9_isKept_187 (by decide) ?_)
                                            exact q_zret hx hb hr hlocks (by decide) hS dX9_isKept_191 ⟨(Or.inl ⟨rfl, by first | trivial | omega⟩), hP, za_r_isKept⟩
                                          · have tc_53 := q_neN c_53
                                            refine lv_lload_n hx hb dX9_isKept_178 rfl (lv_at hl 1 rfl) (lv_ldc2 (v := 495924637287) hx hb hown k_21 dX9_isKept_179 (W.lcmp hx hb dX9_isKept_182 (lv_topi fun v_54 ev_54 => ?_)))
                                            refine lv_if_ne (tgt := 190) hx hb dX9_isKept_183 (by decide) (fun c_55 => ?_) (fun c_55 => ?_)
                                            · have tc_55 := q_ne c_55
                                              refine lv_iconst (v := 0) hx hb dX9_isKept_190 (by decide) ?_
                                              exact q_zret hx hb hr hlocks (by decide) hS dX9_isKept_191 ⟨(Or.inr ⟨rfl, by first | trivial | omega⟩), hP, za_r_isKept⟩
                                            · have tc_55 := q_eqN c_55
                                              refine lv_iconst (v := 1) hx hb dX9_isKept_186 (by decide) (lv_goto (tgt := 191) hx hb dX9_isKept_187 (by decide) ?_)
                                              exact q_zret hx hb hr hlocks (by decide) hS dX9_isKept_191 ⟨(Or.inl ⟨rfl, by first | trivial | omega⟩), hP, za_r_isKept⟩
                      · have tc_32 := q_eqN c_32
                        refine lv_iconst (v := 1) hx hb dX9_isKept_88 (by decide) (lv_goto (tgt := 93) hx hb dX9_isKept_89 (by decide) (lv_istore_n (lv' := [(2, .int 1), (0, .long a0)]) hx hb dX9_isKept_93 rfl hl (by decide) rfl (fun ls hl => ?_)))
                        refine lv_iload_n hx hb dX9_isKept_94 rfl (lv_at hl 0 rfl) (lv_if_ne (tgt := 186) hx hb dX9_isKept_95 (by decide) (fun c_56 => ?_) (fun c_56 => absurd c_56 (by decide)))
                        refine lv_iconst (v := 1) hx hb dX9_isKept_186 (by decide) (lv_goto (tgt := 191) hx hb dX9_isKept_187 (by decide) ?_)
                        exact q_zret hx hb hr hlocks (by decide) hS dX9_isKept_191 ⟨(Or.inl ⟨rfl, by first | trivial | omega⟩), hP, za_r_isKept⟩
def zo_r_isGood : List Cond := [.code yX9_isGood cX9_isGood 1 (some .boolean), .fieldLink RX9 173 "BowWalkModel" "faultKind" "I"]
def zw_r_isGood : List Cond := zo_r_isGood ++ (wsX90 ++ [])
theorem gz_r_isGood : zw_r_isGood.all goodWord = true := p1_ga (by decide +kernel) (p1_ga gk_X9 p1_g0)
theorem iz_r_isGood : ∀ w ∈ zw_r_isGood, w ∈ lw_tbl := p1_ia (p1_all [1330, 1041] (by decide +kernel)) (p1_ia ik_X9 p1_i0)
def zW_r_isGood (p0 : Nat) (f_p0 : List Value) : va_W := [(p0, .inr (8, f_p0))]
def zT_r_isGood : List (ClassId × FieldType) := []
def zA_r_isGood (p0 : Nat) : List Nat := [p0]
theorem za_r_isGood {p0 : Nat} {f_p0 : List Value} : (zW_r_isGood p0 f_p0).map Prod.fst = (zA_r_isGood p0) := rfl
def zG_r_isGood (p0 : Nat) (f_p0 : List Value) (fk : Int32) (r : Int32) (X : va_W → Prop) : Prop := ((r = 1 ∧ (fk.toInt = 0)) ∨ (r = 0 ∧ (1 ≤ fk.toInt))) ∧ X (zW_r_isGood p0 f_p0)
theorem zm_r_isGood {p0 : Nat} {f_p0 : List Value} {fk : Int32} : ∀ (r : Int32), ∀ X Y : va_W → Prop, (∀ w, X w → Y w) → zG_r_isGood p0 f_p0 fk r X → zG_r_isGood p0 f_p0 fk r Y := fun r X Y h h1 => by obtain ⟨x0, hx⟩ := h1; exact ⟨x0, h _ hx⟩
set_option maxHeartbeats 4000000 in
set_option maxRecDepth 100000 in
theorem r_isGood (l : Launch) (dC : Nat → ClassId) (dI : Nat → Nat → Nat) (sz : Nat) (p0 : Nat) (f_p0 : List Value) (fk : Int32) (ho_p0 : OKX9 f_p0) (pf_fk : q_if f_p0 4 fk) : Met l yX9_isGood zw_r_isGood ({ frames := 0, cells := 0, slots := 0, locals := 0 }) (va_Pc [.ref p0] (q_pre (dC, dI) (zW_r_isGood p0 f_p0) (zT_r_isGood) q_E0 sz)) (q_Qi (dC, dI) (zG_r_isGood p0 f_p0 fk) (zA_r_isGood p0) (va_A (zW_r_isGood p0 f_p0) sz)) 0 0 (va_A (zW_r_isGood p0 f_p0) sz) := by
  refine Met.ofW (cc := cX9_isGood) (maxL := 1) (ret := (some .boolean)) (by decide) rfl ?_
  intro p e s m args below meth c s₁ B hml hv
  obtain ⟨rfl, hsz, hP, hK, hD0, hE⟩ := hv
  have hx := B.exec
  have hb := B.bytes
  have hr := B.returns
  have hts := atoms_spec (ws := zw_r_isGood) B.pre
  have hown : s.vm.findClass RX9 = some m.cls := findClass_of_methodNamed B.named
  have hlocks := B.notSynchronized
  subst hsz
  have hD := hD0.self (sz := s.heap.size)
  generalize hAe : va_A (zW_r_isGood p0 f_p0) s.heap.size = A at hD hE ⊢
  have hA : ∀ q : Nat, s.heap.size ≤ q → A q := fun q h => by rw [← hAe]; exact Or.inr h
  have hDa : q_DA A (zA_r_isGood p0) := q_DA.mk hD za_r_isGood
  clear hAe hD0 hD
  have hS : va_S A s.heap s.heap [] := va_S.rf
  have m_0 : (.fieldLink RX9 173 "BowWalkModel" "faultKind" "I" : Cond) ∈ zw_r_isGood := List.mem_append_left _ (List.mem_of_getElem? (i := 1) rfl)
  have k_0 := hts _ m_0
  have i_X9 : ∀ w ∈ u_ws RX9 TX9 81, w ∈ zw_r_isGood := fun w h => List.mem_append_right _ (List.mem_append_left _ h)
  have lt_0 : (0 : Int32).toInt = 0 := by decide
  have lt_1 : (1 : Int32).toInt = 1 := by decide
  have hl := lv_entry ([.ref p0]) (n := 1) (Nat.le_of_ble_eq_true rfl)
  rw [lg_entry_eq]
  generalize (lg_sl ([.ref p0]) ++ List.replicate (1 - (lg_sl ([.ref p0])).length) Slot.unset).toArray = ls at hl ⊢
  have hl : lv_has ls 1 [(0, .ref p0)] := hl
  have tfk := (OKX9_g4 ho_p0).use pf_fk
  refine lv_aload_n hx hb dX9_isGood_0 rfl (lv_at hl 0 rfl) (qg_X9_4 hx hb hts i_X9 hown hK hP 0 rfl k_0 pf_fk dX9_isGood_1 ?_)
  refine lv_if_ne (tgt := 11) hx hb dX9_isGood_4 (by decide) (fun c_1 => ?_) (fun c_1 => ?_)
  · have tc_1 := q_ne c_1
    refine lv_iconst (v := 0) hx hb dX9_isGood_11 (by decide) ?_
    exact q_zret hx hb hr hlocks (by decide) hS dX9_isGood_12 ⟨(Or.inr ⟨rfl, by first | trivial | omega⟩), hP, za_r_isGood⟩
  · have tc_1 := q_eqN c_1
    refine lv_iconst (v := 1) hx hb dX9_isGood_7 (by decide) (lv_goto (tgt := 12) hx hb dX9_isGood_8 (by decide) ?_)
    exact q_zret hx hb hr hlocks (by decide) hS dX9_isGood_12 ⟨(Or.inl ⟨rfl, by first | trivial | omega⟩), hP, za_r_isGood⟩
def zo_r_fails : List Cond := [.code yX9_fails cX9_fails 3 none, .fieldLink RX9 173 "BowWalkModel" "faultKind" "I", .fieldLink RX9 16 "BowWalkModel" "faultPlace" "I"]
def zw_r_fails : List Cond := zo_r_fails ++ (wsX90 ++ [])
theorem gz_r_fails : zw_r_fails.all goodWord = true := p1_ga (by decide +kernel) (p1_ga gk_X9 p1_g0)
theorem iz_r_fails : ∀ w ∈ zw_r_fails, w ∈ lw_tbl := p1_ia (p1_all [1350, 1041, 1042] (by decide +kernel)) (p1_ia ik_X9 p1_i0)
def zW_r_fails (p0 : Nat) (f_p0 : List Value) : va_W := [(p0, .inr (8, f_p0))]
def zT_r_fails : List (ClassId × FieldType) := []
def zA_r_fails (p0 : Nat) : List Nat := [p0]
theorem za_r_fails {p0 : Nat} {f_p0 : List Value} : (zW_r_fails p0 f_p0).map Prod.fst = (zA_r_fails p0) := rfl
def zG_r_fails (p0 : Nat) (f_p0 : List Value) (a1 : Int32) (a2 : Int32) (X : va_W → Prop) : Prop := ∃ (y_p0 : List Value) (fk1 : Int32), OKX9 y_p0 ∧ q_fr [4, 5] f_p0 y_p0 ∧ q_if y_p0 4 fk1 ∧ (1 ≤ fk1.toInt) ∧ X (zW_r_fails p0 y_p0)
theorem zm_r_fails {p0 : Nat} {f_p0 : List Value} {a1 : Int32} {a2 : Int32} : ∀ X Y : va_W → Prop, (∀ w, X w → Y w) → zG_r_fails p0 f_p0 a1 a2 X → zG_r_fails p0 f_p0 a1 a2 Y := fun X Y h h1 => by obtain ⟨x0, x1, x2, x3, x4, x5, hx⟩ := h1; exact ⟨x0, x1, x2, x3, x4, x5, h _ hx⟩
set_option maxHeartbeats 4000000 in
set_option maxRecDepth 100000 in
theorem r_fails (l : Launch) (dC : Nat → ClassId) (dI : Nat → Nat → Nat) (sz : Nat) (p0 : Nat) (f_p0 : List Value) (a1 : Int32) (a2 : Int32) (ho_p0 : OKX9 f_p0) (ta1 : (1) ≤ a1.toInt ∧ a1.toInt ≤ 4) : Met l yX9_fails zw_r_fails ({ frames := 0, cells := 0, slots := 0, locals := 0 }) (va_Pc [.ref p0, .int a1, .int a2] (q_pre (dC, dI) (zW_r_fails p0 f_p0) (zT_r_fails) q_E0 sz)) (q_Qv (dC, dI) (zG_r_fails p0 f_p0 a1 a2) (zA_r_fails p0) (va_A (zW_r_fails p0 f_p0) sz)) 0 0 (va_A (zW_r_fails p0 f_p0) sz) := by
  refine Met.ofW (cc := cX9_fails) (maxL := 3) (ret := none) (by decide) rfl ?_
  intro p e s m args below meth c s₁ B hml hv
  obtain ⟨rfl, hsz, hP, hK, hD0, hE⟩ := hv
  have hx := B.exec
  have hb := B.bytes
  have hr := B.returns
  have hts := atoms_spec (ws := zw_r_fails) B.pre
  have hown : s.vm.findClass RX9 = some m.cls := findClass_of_methodNamed B.named
  have hlocks := B.notSynchronized
  subst hsz
  have hD := hD0.self (sz := s.heap.size)
  generalize hAe : va_A (zW_r_fails p0 f_p0) s.heap.size = A at hD hE ⊢
  have hA : ∀ q : Nat, s.heap.size ≤ q → A q := fun q h => by rw [← hAe]; exact Or.inr h
  have hDa : q_DA A (zA_r_fails p0) := q_DA.mk hD za_r_fails
  clear hAe hD0 hD
  have hS : va_S A s.heap s.heap [] := va_S.rf
  have m_0 : (.fieldLink RX9 173 "BowWalkModel" "faultKind" "I" : Cond) ∈ zw_r_fails := List.mem_append_left _ (List.mem_of_getElem? (i := 1) rfl)
  have k_0 := hts _ m_0
  have m_1 : (.fieldLink RX9 16 "BowWalkModel" "faultPlace" "I" : Cond) ∈ zw_r_fails := List.mem_append_left _ (List.mem_of_getElem? (i := 2) rfl)
  have k_1 := hts _ m_1
  have i_X9 : ∀ w ∈ u_ws RX9 TX9 81, w ∈ zw_r_fails := fun w h => List.mem_append_right _ (List.mem_append_left _ h)
  have lt_0 : (0 : Int32).toInt = 0 := by decide
  have hl := lv_entry ([.ref p0, .int a1, .int a2]) (n := 3) (Nat.le_of_ble_eq_true rfl)
  rw [lg_entry_eq]
  generalize (lg_sl ([.ref p0, .int a1, .int a2]) ++ List.replicate (3 - (lg_sl ([.ref p0, .int a1, .int a2])).length) Slot.unset).toArray = ls at hl ⊢
  have hl : lv_has ls 3 [(0, .ref p0), (1, .int a1), (2, .int a2)] := hl
  refine lv_aload_n hx hb dX9_fails_0 rfl (lv_at hl 0 rfl) ?_
  obtain ⟨v_1, fv_1, tv_1⟩ := OKX9_g4 ho_p0
  refine qg_X9_4 hx hb hts i_X9 hown hK hP 0 rfl k_0 fv_1 dX9_fails_1 ?_
  refine lv_if_le (tgt := 8) hx hb dX9_fails_4 (by decide) (fun c_2 => ?_) (fun c_2 => ?_)
  · have tc_2 := q_le c_2
    refine lv_aload_n hx hb dX9_fails_8 rfl (lv_at hl 0 rfl) (lv_iload_n hx hb dX9_fails_9 rfl (lv_at hl 1 rfl) (qp_X9_4 hx hb hts i_X9 hown hK hP hDa za_r_fails hS 0 rfl k_0 (OKX9_l ho_p0) dX9_fails_10 (fun H3 lo3 fs3 efs3 (hP3 : va_P (dC, dI) vwCl (zW_r_fails p0 fs3) H3) hS3 => ?_)))
    have ho3 := OKX9_p4 ho_p0 efs3 ⟨by omega, by omega⟩
    clear hP hS
    refine lv_aload_n hx hb dX9_fails_13 rfl (lv_at hl 0 rfl) (lv_iload_n hx hb dX9_fails_14 rfl (lv_at hl 2 rfl) (qp_X9_5 hx hb hts i_X9 hown hK hP3 hDa za_r_fails hS3 0 rfl k_1 (OKX9_l ho3) dX9_fails_15 (fun H4 lo4 fs4 efs4 (hP4 : va_P (dC, dI) vwCl (zW_r_fails p0 fs4) H4) hS4 => ?_)))
    have ho4 := OKX9_p5 ho3 efs4
    clear hP3 hS3
    exact q_vret hx hb hr hlocks hS4 dX9_fails_18 ⟨fs4, a1, ho4, ((q_fr.rf.st efs3 (by decide)).st efs4 (by decide)), (q_sn efs4 (by decide) (q_sa efs3 (OKX9_l ho_p0) (by decide))), (by omega), hP4, za_r_fails⟩
  · have tc_2 := q_gtN c_2
    exact q_vret hx hb hr hlocks hS dX9_fails_7 ⟨f_p0, v_1, ho_p0, q_fr.rf, fv_1, (by omega), hP, za_r_fails⟩
def zo_r_misplaced : List Cond := [.code yX9_misplaced cX9_misplaced 1 none, .fieldLink RX9 230 "BowWalkModel" "token" "I", .fieldLink RX9 223 "BowWalkModel" "at" "I", .methodLink RX9 254 yX9_fails, .instanceMethod yX9_fails, .selects RX9 yX9_fails yX9_fails, .initialized RX9]
def zw_r_misplaced : List Cond := zo_r_misplaced ++ (zw_r_fails ++ (wsX90 ++ []))
theorem gz_r_misplaced : zw_r_misplaced.all goodWord = true := p1_ga (by decide +kernel) (p1_ga gz_r_fails (p1_ga gk_X9 p1_g0))
theorem iz_r_misplaced : ∀ w ∈ zw_r_misplaced, w ∈ lw_tbl := p1_ia (p1_all [1346, 1045, 1043, 1347, 1349, 51, 116] (by decide +kernel)) (p1_ia iz_r_fails (p1_ia ik_X9 p1_i0))
def zW_r_misplaced (p0 : Nat) (f_p0 : List Value) : va_W := [(p0, .inr (8, f_p0))]
def zT_r_misplaced : List (ClassId × FieldType) := []
def zA_r_misplaced (p0 : Nat) : List Nat := [p0]
theorem za_r_misplaced {p0 : Nat} {f_p0 : List Value} : (zW_r_misplaced p0 f_p0).map Prod.fst = (zA_r_misplaced p0) := rfl
def zG_r_misplaced (p0 : Nat) (f_p0 : List Value) (X : va_W → Prop) : Prop := ∃ (y_p0 : List Value) (fk1 : Int32), OKX9 y_p0 ∧ q_fr [4, 5] f_p0 y_p0 ∧ q_if y_p0 4 fk1 ∧ (1 ≤ fk1.toInt) ∧ X (zW_r_misplaced p0 y_p0)
theorem zm_r_misplaced {p0 : Nat} {f_p0 : List Value} : ∀ X Y : va_W → Prop, (∀ w, X w → Y w) → zG_r_misplaced p0 f_p0 X → zG_r_misplaced p0 f_p0 Y := fun X Y h h1 => by obtain ⟨x0, x1, x2, x3, x4, x5, hx⟩ := h1; exact ⟨x0, x1, x2, x3, x4, x5, h _ hx⟩
set_option maxHeartbeats 4000000 in
set_option maxRecDepth 100000 in
theorem r_misplaced (l : Launch) (dC : Nat → ClassId) (dI : Nat → Nat → Nat) (sz : Nat) (p0 : Nat) (f_p0 : List Value) (ho_p0 : OKX9 f_p0) : Met l yX9_misplaced zw_r_misplaced ({ frames := 1, cells := 0, slots := 0, locals := 22 }) (va_Pc [.ref p0] (q_pre (dC, dI) (zW_r_misplaced p0 f_p0) (zT_r_misplaced) q_E0 sz)) (q_Qv (dC, dI) (zG_r_misplaced p0 f_p0) (zA_r_misplaced p0) (va_A (zW_r_misplaced p0 f_p0) sz)) 0 0 (va_A (zW_r_misplaced p0 f_p0) sz) := by
  refine Met.ofW (cc := cX9_misplaced) (maxL := 1) (ret := none) (by decide) rfl ?_
  intro p e s m args below meth c s₁ B hml hv
  obtain ⟨rfl, hsz, hP, hK, hD0, hE⟩ := hv
  have hx := B.exec
  have hb := B.bytes
  have hr := B.returns
  have hts := atoms_spec (ws := zw_r_misplaced) B.pre
  have hown : s.vm.findClass RX9 = some m.cls := findClass_of_methodNamed B.named
  have hlocks := B.notSynchronized
  subst hsz
  have hD := hD0.self (sz := s.heap.size)
  generalize hAe : va_A (zW_r_misplaced p0 f_p0) s.heap.size = A at hD hE ⊢
  have hA : ∀ q : Nat, s.heap.size ≤ q → A q := fun q h => by rw [← hAe]; exact Or.inr h
  have hDa : q_DA A (zA_r_misplaced p0) := q_DA.mk hD za_r_misplaced
  clear hAe hD0 hD
  have hS : va_S A s.heap s.heap [] := va_S.rf
  have m_0 : (.fieldLink RX9 230 "BowWalkModel" "token" "I" : Cond) ∈ zw_r_misplaced := List.mem_append_left _ (List.mem_of_getElem? (i := 1) rfl)
  have k_0 := hts _ m_0
  have m_1 : (.fieldLink RX9 223 "BowWalkModel" "at" "I" : Cond) ∈ zw_r_misplaced := List.mem_append_left _ (List.mem_of_getElem? (i := 2) rfl)
  have k_1 := hts _ m_1
  have m_2 : (.methodLink RX9 254 yX9_fails : Cond) ∈ zw_r_misplaced := List.mem_append_left _ (List.mem_of_getElem? (i := 3) rfl)
  have k_2 := hts _ m_2
  have m_3 : (.instanceMethod yX9_fails : Cond) ∈ zw_r_misplaced := List.mem_append_left _ (List.mem_of_getElem? (i := 4) rfl)
  have k_3 := hts _ m_3
  have m_4 : (.selects RX9 yX9_fails yX9_fails : Cond) ∈ zw_r_misplaced := List.mem_append_left _ (List.mem_of_getElem? (i := 5) rfl)
  have k_4 := hts _ m_4
  have m_5 : (.initialized RX9 : Cond) ∈ zw_r_misplaced := List.mem_append_left _ (List.mem_of_getElem? (i := 6) rfl)
  have k_5 := hts _ m_5
  have g_r_fails : ∀ w ∈ zw_r_fails, w ∈ zw_r_misplaced := fun w h => List.mem_append_right _ (List.mem_append_left _ h)
  have i_X9 : ∀ w ∈ u_ws RX9 TX9 81, w ∈ zw_r_misplaced := fun w h => List.mem_append_right _ (List.mem_append_right _ (List.mem_append_left _ h))
  have lt_1 : (1 : Int32).toInt = 1 := by decide
  have lt_2 : (2 : Int32).toInt = 2 := by decide
  have hl := lv_entry ([.ref p0]) (n := 1) (Nat.le_of_ble_eq_true rfl)
  rw [lg_entry_eq]
  generalize (lg_sl ([.ref p0]) ++ List.replicate (1 - (lg_sl ([.ref p0])).length) Slot.unset).toArray = ls at hl ⊢
  have hl : lv_has ls 1 [(0, .ref p0)] := hl
  refine lv_aload_n hx hb dX9_misplaced_0 rfl (lv_at hl 0 rfl) (lv_aload_n hx hb dX9_misplaced_1 rfl (lv_at hl 0 rfl) ?_)
  obtain ⟨v_1, fv_1, tv_1⟩ := OKX9_g8 ho_p0
  refine qg_X9_8 hx hb hts i_X9 hown hK hP 0 rfl k_0 fv_1 dX9_misplaced_2 (lv_iconst (v := 1) hx hb dX9_misplaced_5 (by decide) ?_)
  refine lv_icmp_ne (tgt := 13) hx hb dX9_misplaced_6 (by decide) (fun c_2 => ?_) (fun c_2 => ?_)
  · have tc_2 := q_ne c_2
    refine lv_iconst (v := 2) hx hb dX9_misplaced_13 (by decide) (lv_aload_n hx hb dX9_misplaced_14 rfl (lv_at hl 0 rfl) ?_)
    obtain ⟨v_3, fv_3, tv_3⟩ := OKX9_g6 ho_p0
    refine qg_X9_6 hx hb hts i_X9 hown hK hP 0 rfl k_1 fv_3 dX9_misplaced_15 ?_
    refine q_cVv (As := [.int 2, .int v_3]) (rest := []) q_w0 trivial hK hP hDa za_r_misplaced hS hA [0] [] (by decide +kernel) ⟨hx, hb, hml, hown, hts⟩ (r_fails l dC dI s.heap.size p0 f_p0 2 v_3 ho_p0 ((by omega))) rfl rfl (cwV 2 hts (p1_gV m_2 m_3 m_4 m_5 g_r_fails gz_r_fails) rfl rfl rfl (by decide +kernel) ⟨by decide, by decide⟩) (va_recv hK hP (ci := 8) (q0 := 0) rfl rfl) zm_r_fails rfl hl.1 rfl (Nat.le_of_ble_eq_true rfl) dX9_misplaced_18 ⟨by decide, by decide⟩ (fun H5 lo5 hG5 hS5 => ?_)
    obtain ⟨o_6, o_7, ho_8, hf_9, z_10, z_11, hQ5⟩ := hG5
    have to_7 := (OKX9_g4 ho_8).use z_10
    have hP5 : va_P (dC, dI) vwCl (zW_r_misplaced p0 o_6) H5 := hQ5
    clear hQ5 hP hS
    exact q_vret hx hb hr hlocks hS5 dX9_misplaced_21 ⟨o_6, o_7, ho_8, (q_fr.rf.tr hf_9 (by decide)), z_10, (by omega), hP5, za_r_misplaced⟩
  · have tc_2 := q_eqN c_2
    refine lv_iconst (v := 1) hx hb dX9_misplaced_9 (by decide) (lv_goto (tgt := 14) hx hb dX9_misplaced_10 (by decide) (lv_aload_n hx hb dX9_misplaced_14 rfl (lv_at hl 0 rfl) ?_))
    obtain ⟨v_12, fv_12, tv_12⟩ := OKX9_g6 ho_p0
    refine qg_X9_6 hx hb hts i_X9 hown hK hP 0 rfl k_1 fv_12 dX9_misplaced_15 ?_
    refine q_cVv (As := [.int 1, .int v_12]) (rest := []) q_w0 trivial hK hP hDa za_r_misplaced hS hA [0] [] (by decide +kernel) ⟨hx, hb, hml, hown, hts⟩ (r_fails l dC dI s.heap.size p0 f_p0 1 v_12 ho_p0 ((by omega))) rfl rfl (cwV 2 hts (p1_gV m_2 m_3 m_4 m_5 g_r_fails gz_r_fails) rfl rfl rfl (by decide +kernel) ⟨by decide, by decide⟩) (va_recv hK hP (ci := 8) (q0 := 0) rfl rfl) zm_r_fails rfl hl.1 rfl (Nat.le_of_ble_eq_true rfl) dX9_misplaced_18 ⟨by decide, by decide⟩ (fun H14 lo14 hG14 hS14 => ?_)
    obtain ⟨o_15, o_16, ho_17, hf_18, z_19, z_20, hQ14⟩ := hG14
    have to_16 := (OKX9_g4 ho_17).use z_19
    have hP14 : va_P (dC, dI) vwCl (zW_r_misplaced p0 o_15) H14 := hQ14
    clear hQ14 hP hS
    exact q_vret hx hb hr hlocks hS14 dX9_misplaced_21 ⟨o_15, o_16, ho_17, (q_fr.rf.tr hf_18 (by decide)), z_19, (by omega), hP14, za_r_misplaced⟩
def zo_r_is : List Cond := [.code yX9_is cX9_is 2 (some .boolean), .fieldLink RX9 230 "BowWalkModel" "token" "I", .fieldLink RX9 223 "BowWalkModel" "at" "I", .methodLink RX9 226 yX9_sign, .instanceMethod yX9_sign, .selects RX9 yX9_sign yX9_sign, .initialized RX9]
def zw_r_is : List Cond := zo_r_is ++ (zw_r_sign ++ (wsX90 ++ []))
theorem gz_r_is : zw_r_is.all goodWord = true := p1_ga (by decide +kernel) (p1_ga gz_r_sign (p1_ga gk_X9 p1_g0))
theorem iz_r_is : ∀ w ∈ zw_r_is, w ∈ lw_tbl := p1_ia (p1_all [1402, 1045, 1043, 1289, 1291, 45, 116] (by decide +kernel)) (p1_ia iz_r_sign (p1_ia ik_X9 p1_i0))
def zW_r_is (p0 : Nat) (f_p0 : List Value) (p0_text : Nat) (c_p0_text : ClassId) (b_p0_text : Nat → Int32) : va_W := [(p0, .inr (8, f_p0)), (p0_text, .inl (c_p0_text, 1600, .inl b_p0_text))]
def zT_r_is (c_p0_text : ClassId) : List (ClassId × FieldType) := [(c_p0_text, .byte)]
def zA_r_is (p0 : Nat) (p0_text : Nat) : List Nat := [p0, p0_text]
theorem za_r_is {p0 : Nat} {f_p0 : List Value} {p0_text : Nat} {c_p0_text : ClassId} {b_p0_text : Nat → Int32} : (zW_r_is p0 f_p0 p0_text c_p0_text b_p0_text).map Prod.fst = (zA_r_is p0 p0_text) := rfl
def zG_r_is (p0 : Nat) (f_p0 : List Value) (p0_text : Nat) (c_p0_text : ClassId) (b_p0_text : Nat → Int32) (a1 : Int32) (tk : Int32) (at0 : Int32) (siz : Int32) (r : Int32) (X : va_W → Prop) : Prop := ((r = 1 ∧ (tk.toInt = 5 ∧ (q_sgn b_p0_text siz at0).toInt = a1.toInt)) ∨ (r = 0 ∧ (True))) ∧ X (zW_r_is p0 f_p0 p0_text c_p0_text b_p0_text)
theorem zm_r_is {p0 : Nat} {f_p0 : List Value} {p0_text : Nat} {c_p0_text : ClassId} {b_p0_text : Nat → Int32} {a1 : Int32} {tk : Int32} {at0 : Int32} {siz : Int32} : ∀ (r : Int32), ∀ X Y : va_W → Prop, (∀ w, X w → Y w) → zG_r_is p0 f_p0 p0_text c_p0_text b_p0_text a1 tk at0 siz r X → zG_r_is p0 f_p0 p0_text c_p0_text b_p0_text a1 tk at0 siz r Y := fun r X Y h h1 => by obtain ⟨x0, hx⟩ := h1; exact ⟨x0, h _ hx⟩
set_option maxHeartbeats 4000000 in
set_option maxRecDepth 100000 in
theorem r_is (l : Launch) (dC : Nat → ClassId) (dI : Nat → Nat → Nat) (sz : Nat) (p0 : Nat) (f_p0 : List Value) (p0_text : Nat) (c_p0_text : ClassId) (b_p0_text : Nat → Int32) (a1 : Int32) (tk : Int32) (at0 : Int32) (siz : Int32) (ho_p0 : OKX9 f_p0) (fr_p0_1 : q_rf f_p0 1 p0_text) (pf_tk : q_if f_p0 8 tk) (pf_at0 : q_if f_p0 6 at0) (pf_siz : q_if f_p0 3 siz) : Met l yX9_is zw_r_is ({ frames := 1, cells := 0, slots := 0, locals := 21 }) (va_Pc [.ref p0, .int a1] (q_pre (dC, dI) (zW_r_is p0 f_p0 p0_text c_p0_text b_p0_text) (zT_r_is c_p0_text) q_E0 sz)) (q_Qi (dC, dI) (zG_r_is p0 f_p0 p0_text c_p0_text b_p0_text a1 tk at0 siz) (zA_r_is p0 p0_text) (va_A (zW_r_is p0 f_p0 p0_text c_p0_text b_p0_text) sz)) 0 0 (va_A (zW_r_is p0 f_p0 p0_text c_p0_text b_p0_text) sz) := by
  refine Met.ofW (cc := cX9_is) (maxL := 2) (ret := (some .boolean)) (by decide) rfl ?_
  intro p e s m args below meth c s₁ B hml hv
  obtain ⟨rfl, hsz, hP, hK, hD0, hE⟩ := hv
  have hx := B.exec
  have hb := B.bytes
  have hr := B.returns
  have hts := atoms_spec (ws := zw_r_is) B.pre
  have hown : s.vm.findClass RX9 = some m.cls := findClass_of_methodNamed B.named
  have hlocks := B.notSynchronized
  subst hsz
  have hD := hD0.self (sz := s.heap.size)
  generalize hAe : va_A (zW_r_is p0 f_p0 p0_text c_p0_text b_p0_text) s.heap.size = A at hD hE ⊢
  have hA : ∀ q : Nat, s.heap.size ≤ q → A q := fun q h => by rw [← hAe]; exact Or.inr h
  have hDa : q_DA A (zA_r_is p0 p0_text) := q_DA.mk hD za_r_is
  clear hAe hD0 hD
  have hS : va_S A s.heap s.heap [] := va_S.rf
  have m_0 : (.fieldLink RX9 230 "BowWalkModel" "token" "I" : Cond) ∈ zw_r_is := List.mem_append_left _ (List.mem_of_getElem? (i := 1) rfl)
  have k_0 := hts _ m_0
  have m_1 : (.fieldLink RX9 223 "BowWalkModel" "at" "I" : Cond) ∈ zw_r_is := List.mem_append_left _ (List.mem_of_getElem? (i := 2) rfl)
  have k_1 := hts _ m_1
  have m_2 : (.methodLink RX9 226 yX9_sign : Cond) ∈ zw_r_is := List.mem_append_left _ (List.mem_of_getElem? (i := 3) rfl)
  have k_2 := hts _ m_2
  have m_3 : (.instanceMethod yX9_sign : Cond) ∈ zw_r_is := List.mem_append_left _ (List.mem_of_getElem? (i := 4) rfl)
  have k_3 := hts _ m_3
  have m_4 : (.selects RX9 yX9_sign yX9_sign : Cond) ∈ zw_r_is := List.mem_append_left _ (List.mem_of_getElem? (i := 5) rfl)
  have k_4 := hts _ m_4
  have m_5 : (.initialized RX9 : Cond) ∈ zw_r_is := List.mem_append_left _ (List.mem_of_getElem? (i := 6) rfl)
  have k_5 := hts _ m_5
  have g_r_sign : ∀ w ∈ zw_r_sign, w ∈ zw_r_is := fun w h => List.mem_append_right _ (List.mem_append_left _ h)
  have i_X9 : ∀ w ∈ u_ws RX9 TX9 81, w ∈ zw_r_is := fun w h => List.mem_append_right _ (List.mem_append_right _ (List.mem_append_left _ h))
  have lt_0 : (0 : Int32).toInt = 0 := by decide
  have lt_1 : (1 : Int32).toInt = 1 := by decide
  have lt_5 : (5 : Int32).toInt = 5 := by decide
  have hl := lv_entry ([.ref p0, .int a1]) (n := 2) (Nat.le_of_ble_eq_true rfl)
  rw [lg_entry_eq]
  generalize (lg_sl ([.ref p0, .int a1]) ++ List.replicate (2 - (lg_sl ([.ref p0, .int a1])).length) Slot.unset).toArray = ls at hl ⊢
  have hl : lv_has ls 2 [(0, .ref p0), (1, .int a1)] := hl
  have ttk := (OKX9_g8 ho_p0).use pf_tk
  have tat0 := (OKX9_g6 ho_p0).use pf_at0
  have tsiz := (OKX9_g3 ho_p0).use pf_siz
  refine lv_aload_n hx hb dX9_is_0 rfl (lv_at hl 0 rfl) (qg_X9_8 hx hb hts i_X9 hown hK hP 0 rfl k_0 pf_tk dX9_is_1 (lv_iconst (v := 5) hx hb dX9_is_4 (by decide) ?_))
  refine lv_icmp_ne (tgt := 24) hx hb dX9_is_5 (by decide) (fun c_1 => ?_) (fun c_1 => ?_)
  · have tc_1 := q_ne c_1
    refine lv_iconst (v := 0) hx hb dX9_is_24 (by decide) ?_
    exact q_zret hx hb hr hlocks (by decide) hS dX9_is_25 ⟨(Or.inr ⟨rfl, by first | trivial | omega⟩), hP, za_r_is⟩
  · have tc_1 := q_eqN c_1
    refine lv_aload_n hx hb dX9_is_8 rfl (lv_at hl 0 rfl) (lv_aload_n hx hb dX9_is_9 rfl (lv_at hl 0 rfl) (qg_X9_6 hx hb hts i_X9 hown hK hP 0 rfl k_1 pf_at0 dX9_is_10 ?_))
    refine q_cVi (As := [.int at0]) (rest := []) q_w0 trivial hK hP hDa za_r_is hS hA [0, 1] [0] (by decide +kernel) ⟨hx, hb, hml, hown, hts⟩ (r_sign l dC dI s.heap.size p0 f_p0 p0_text c_p0_text b_p0_text at0 siz ho_p0 fr_p0_1 pf_siz ((by omega))) rfl rfl (cwV 1 hts (p1_gV m_2 m_3 m_4 m_5 g_r_sign gz_r_sign) rfl rfl rfl (by decide +kernel) ⟨by decide, by decide⟩) (va_recv hK hP (ci := 8) (q0 := 0) rfl rfl) zm_r_sign rfl hl.1 rfl (Nat.le_of_ble_eq_true rfl) dX9_is_13 ⟨by decide, by decide⟩ (fun r_2 H3 lo3 hG3 hS3 => ?_)
    obtain ⟨z_4, hQ3⟩ := hG3
    have hP3 : va_P (dC, dI) vwCl (zW_r_is p0 f_p0 p0_text c_p0_text b_p0_text) H3 := hQ3
    clear hQ3 hP hS
    refine lv_iload_n hx hb dX9_is_16 rfl (lv_at hl 1 rfl) ?_
    refine lv_icmp_ne (tgt := 24) hx hb dX9_is_17 (by decide) (fun c_5 => ?_) (fun c_5 => ?_)
    · have tc_5 := q_ne c_5
      refine lv_iconst (v := 0) hx hb dX9_is_24 (by decide) ?_
      exact q_zret hx hb hr hlocks (by decide) hS3 dX9_is_25 ⟨(Or.inr ⟨rfl, by first | trivial | omega⟩), hP3, za_r_is⟩
    · have tc_5 := q_eqN c_5
      refine lv_iconst (v := 1) hx hb dX9_is_20 (by decide) (lv_goto (tgt := 25) hx hb dX9_is_21 (by decide) ?_)
      exact q_zret hx hb hr hlocks (by decide) hS3 dX9_is_25 ⟨(Or.inl ⟨rfl, by first | trivial | omega⟩), hP3, za_r_is⟩
