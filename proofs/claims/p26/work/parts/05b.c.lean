def zo_t_lclear : List Cond := [.code yX3_clear cX3_clear 1 none, .fieldLink RX3 21 "BowWalk$Laws" "used" "I", .fieldLink RX3 25 "BowWalk$Laws" "rows" "I", .fieldLink RX3 28 "BowWalk$Laws" "units" "I"]
def zw_t_lclear : List Cond := zo_t_lclear ++ (wsX30 ++ [])
theorem gz_t_lclear : zw_t_lclear.all goodWord = true := p1_ga (by decide +kernel) (p1_ga gk_X3 p1_g0)
theorem iz_t_lclear : ∀ w ∈ zw_t_lclear, w ∈ lw_tbl := p1_ia (p1_all [572, 153, 154, 155] (by decide +kernel)) (p1_ia ik_X3 p1_i0)
def zW_t_lclear (p0 : Nat) (f_p0 : List Value) : va_W := [(p0, .inr (3, f_p0))]
def zT_t_lclear : List (ClassId × FieldType) := []
def zA_t_lclear (p0 : Nat) : List Nat := [p0]
theorem za_t_lclear {p0 : Nat} {f_p0 : List Value} : (zW_t_lclear p0 f_p0).map Prod.fst = (zA_t_lclear p0) := rfl
def zG_t_lclear (p0 : Nat) (f_p0 : List Value) (X : va_W → Prop) : Prop := ∃ (y_p0 : List Value), OKX3 y_p0 ∧ q_fr [3, 4, 5] f_p0 y_p0 ∧ X (zW_t_lclear p0 y_p0)
theorem zm_t_lclear {p0 : Nat} {f_p0 : List Value} : ∀ X Y : va_W → Prop, (∀ w, X w → Y w) → zG_t_lclear p0 f_p0 X → zG_t_lclear p0 f_p0 Y := fun X Y h h1 => by obtain ⟨x0, x1, x2, hx⟩ := h1; exact ⟨x0, x1, x2, h _ hx⟩
set_option maxHeartbeats 4000000 in
set_option maxRecDepth 100000 in
theorem t_lclear (l : Launch) (dC : Nat → ClassId) (dI : Nat → Nat → Nat) (sz : Nat) (p0 : Nat) (f_p0 : List Value) (ho_p0 : OKX3 f_p0) : Met l yX3_clear zw_t_lclear ({ frames := 0, cells := 0, slots := 0, locals := 0 }) (va_Pc [.ref p0] (q_pre (dC, dI) (zW_t_lclear p0 f_p0) (zT_t_lclear) q_E0 sz)) (q_Qv (dC, dI) (zG_t_lclear p0 f_p0) (zA_t_lclear p0) (va_A (zW_t_lclear p0 f_p0) sz)) 0 0 (va_A (zW_t_lclear p0 f_p0) sz) := by
  refine Met.ofW (cc := cX3_clear) (maxL := 1) (ret := none) (by decide) rfl ?_
  intro p e s m args below meth c s₁ B hml hv
  obtain ⟨rfl, hsz, hP, hK, hD0, hE⟩ := hv
  have hx := B.exec
  have hb := B.bytes
  have hr := B.returns
  have hts := atoms_spec (ws := zw_t_lclear) B.pre
  have hown : s.vm.findClass RX3 = some m.cls := findClass_of_methodNamed B.named
  have hlocks := B.notSynchronized
  subst hsz
  have hD := hD0.self (sz := s.heap.size)
  generalize hAe : va_A (zW_t_lclear p0 f_p0) s.heap.size = A at hD hE ⊢
  have hA : ∀ q : Nat, s.heap.size ≤ q → A q := fun q h => by rw [← hAe]; exact Or.inr h
  have hDa : q_DA A (zA_t_lclear p0) := q_DA.mk hD za_t_lclear
  clear hAe hD0 hD
  have hS : va_S A s.heap s.heap [] := va_S.rf
  have m_0 : (.fieldLink RX3 21 "BowWalk$Laws" "used" "I" : Cond) ∈ zw_t_lclear := List.mem_append_left _ (List.mem_of_getElem? (i := 1) rfl)
  have k_0 := hts _ m_0
  have m_1 : (.fieldLink RX3 25 "BowWalk$Laws" "rows" "I" : Cond) ∈ zw_t_lclear := List.mem_append_left _ (List.mem_of_getElem? (i := 2) rfl)
  have k_1 := hts _ m_1
  have m_2 : (.fieldLink RX3 28 "BowWalk$Laws" "units" "I" : Cond) ∈ zw_t_lclear := List.mem_append_left _ (List.mem_of_getElem? (i := 3) rfl)
  have k_2 := hts _ m_2
  have i_X3 : ∀ w ∈ u_ws RX3 TX3 6, w ∈ zw_t_lclear := fun w h => List.mem_append_right _ (List.mem_append_left _ h)
  have lt_0 : (0 : Int32).toInt = 0 := by decide
  have hl := lv_entry ([.ref p0]) (n := 1) (Nat.le_of_ble_eq_true rfl)
  rw [lg_entry_eq]
  generalize (lg_sl ([.ref p0]) ++ List.replicate (1 - (lg_sl ([.ref p0])).length) Slot.unset).toArray = ls at hl ⊢
  have hl : lv_has ls 1 [(0, .ref p0)] := hl
  refine lv_aload_n hx hb dX3_clear_0 rfl (lv_at hl 0 rfl) (lv_iconst (v := 0) hx hb dX3_clear_1 (by decide) (qp_X3_3 hx hb hts i_X3 hown hK hP hDa za_t_lclear hS 0 rfl k_0 (OKX3_l ho_p0) dX3_clear_2 (fun H1 lo1 fs1 efs1 (hP1 : va_P (dC, dI) vwCl (zW_t_lclear p0 fs1) H1) hS1 => ?_)))
  have ho1 := OKX3_p3 ho_p0 efs1 ⟨by omega, by omega⟩
  clear hP hS
  refine lv_aload_n hx hb dX3_clear_5 rfl (lv_at hl 0 rfl) (lv_iconst (v := 0) hx hb dX3_clear_6 (by decide) (qp_X3_4 hx hb hts i_X3 hown hK hP1 hDa za_t_lclear hS1 0 rfl k_1 (OKX3_l ho1) dX3_clear_7 (fun H2 lo2 fs2 efs2 (hP2 : va_P (dC, dI) vwCl (zW_t_lclear p0 fs2) H2) hS2 => ?_)))
  have ho2 := OKX3_p4 ho1 efs2 ⟨by omega, by omega⟩
  clear hP1 hS1
  refine lv_aload_n hx hb dX3_clear_10 rfl (lv_at hl 0 rfl) (lv_iconst (v := 0) hx hb dX3_clear_11 (by decide) (qp_X3_5 hx hb hts i_X3 hown hK hP2 hDa za_t_lclear hS2 0 rfl k_2 (OKX3_l ho2) dX3_clear_12 (fun H3 lo3 fs3 efs3 (hP3 : va_P (dC, dI) vwCl (zW_t_lclear p0 fs3) H3) hS3 => ?_)))
  have ho3 := OKX3_p5 ho2 efs3
  clear hP2 hS2
  exact q_vret hx hb hr hlocks hS3 dX3_clear_15 ⟨fs3, ho3, (((q_fr.rf.st efs1 (by decide)).st efs2 (by decide)).st efs3 (by decide)), hP3, za_t_lclear⟩
def zo_t_put : List Cond := [.code yX3_put cX3_put 2 (some .boolean), .fieldLink RX3 21 "BowWalk$Laws" "used" "I", .fieldLink RX3 9 "BowWalk$Laws" "code" "[I"]
def zw_t_put : List Cond := zo_t_put ++ (wsX30 ++ [])
theorem gz_t_put : zw_t_put.all goodWord = true := p1_ga (by decide +kernel) (p1_ga gk_X3 p1_g0)
theorem iz_t_put : ∀ w ∈ zw_t_put, w ∈ lw_tbl := p1_ia (p1_all [683, 153, 150] (by decide +kernel)) (p1_ia ik_X3 p1_i0)
def zW_t_put (p0 : Nat) (f_p0 : List Value) (p0_code : Nat) (c_p0_code : ClassId) (b_p0_code : Nat → Int32) : va_W := [(p0, .inr (3, f_p0)), (p0_code, .inl (c_p0_code, 600, .inl b_p0_code))]
def zT_t_put (c_p0_code : ClassId) : List (ClassId × FieldType) := [(c_p0_code, .int)]
def zA_t_put (p0 : Nat) (p0_code : Nat) : List Nat := [p0, p0_code]
theorem za_t_put {p0 : Nat} {f_p0 : List Value} {p0_code : Nat} {c_p0_code : ClassId} {b_p0_code : Nat → Int32} : (zW_t_put p0 f_p0 p0_code c_p0_code b_p0_code).map Prod.fst = (zA_t_put p0 p0_code) := rfl
def zG_t_put (p0 : Nat) (f_p0 : List Value) (p0_code : Nat) (c_p0_code : ClassId) (b_p0_code : Nat → Int32) (a1 : Int32) (r : Int32) (X : va_W → Prop) : Prop := ∃ (y_p0 : List Value) (y_p0_code : Nat → Int32), ((r = 1 ∧ (True)) ∨ (r = 0 ∧ (True))) ∧ OKX3 y_p0 ∧ q_fr [3] f_p0 y_p0 ∧ X (zW_t_put p0 y_p0 p0_code c_p0_code y_p0_code)
theorem zm_t_put {p0 : Nat} {f_p0 : List Value} {p0_code : Nat} {c_p0_code : ClassId} {b_p0_code : Nat → Int32} {a1 : Int32} : ∀ (r : Int32), ∀ X Y : va_W → Prop, (∀ w, X w → Y w) → zG_t_put p0 f_p0 p0_code c_p0_code b_p0_code a1 r X → zG_t_put p0 f_p0 p0_code c_p0_code b_p0_code a1 r Y := fun r X Y h h1 => by obtain ⟨x0, x1, x2, x3, x4, hx⟩ := h1; exact ⟨x0, x1, x2, x3, x4, h _ hx⟩
set_option maxHeartbeats 4000000 in
set_option maxRecDepth 100000 in
theorem t_put (l : Launch) (dC : Nat → ClassId) (dI : Nat → Nat → Nat) (sz : Nat) (p0 : Nat) (f_p0 : List Value) (p0_code : Nat) (c_p0_code : ClassId) (b_p0_code : Nat → Int32) (a1 : Int32) (ho_p0 : OKX3 f_p0) (fr_p0_0 : q_rf f_p0 0 p0_code) : Met l yX3_put zw_t_put ({ frames := 0, cells := 0, slots := 0, locals := 0 }) (va_Pc [.ref p0, .int a1] (q_pre (dC, dI) (zW_t_put p0 f_p0 p0_code c_p0_code b_p0_code) (zT_t_put c_p0_code) q_E0 sz)) (q_Qi (dC, dI) (zG_t_put p0 f_p0 p0_code c_p0_code b_p0_code a1) (zA_t_put p0 p0_code) (va_A (zW_t_put p0 f_p0 p0_code c_p0_code b_p0_code) sz)) 0 0 (va_A (zW_t_put p0 f_p0 p0_code c_p0_code b_p0_code) sz) := by
  refine Met.ofW (cc := cX3_put) (maxL := 2) (ret := (some .boolean)) (by decide) rfl ?_
  intro p e s m args below meth c s₁ B hml hv
  obtain ⟨rfl, hsz, hP, hK, hD0, hE⟩ := hv
  have hx := B.exec
  have hb := B.bytes
  have hr := B.returns
  have hts := atoms_spec (ws := zw_t_put) B.pre
  have hown : s.vm.findClass RX3 = some m.cls := findClass_of_methodNamed B.named
  have hlocks := B.notSynchronized
  subst hsz
  have hD := hD0.self (sz := s.heap.size)
  generalize hAe : va_A (zW_t_put p0 f_p0 p0_code c_p0_code b_p0_code) s.heap.size = A at hD hE ⊢
  have hA : ∀ q : Nat, s.heap.size ≤ q → A q := fun q h => by rw [← hAe]; exact Or.inr h
  have hDa : q_DA A (zA_t_put p0 p0_code) := q_DA.mk hD za_t_put
  clear hAe hD0 hD
  have hS : va_S A s.heap s.heap [] := va_S.rf
  have m_0 : (.fieldLink RX3 21 "BowWalk$Laws" "used" "I" : Cond) ∈ zw_t_put := List.mem_append_left _ (List.mem_of_getElem? (i := 1) rfl)
  have k_0 := hts _ m_0
  have m_1 : (.fieldLink RX3 9 "BowWalk$Laws" "code" "[I" : Cond) ∈ zw_t_put := List.mem_append_left _ (List.mem_of_getElem? (i := 2) rfl)
  have k_1 := hts _ m_1
  have i_X3 : ∀ w ∈ u_ws RX3 TX3 6, w ∈ zw_t_put := fun w h => List.mem_append_right _ (List.mem_append_left _ h)
  have lt_0 : (0 : Int32).toInt = 0 := by decide
  have lt_1 : (1 : Int32).toInt = 1 := by decide
  have lt_600 : (600 : Int32).toInt = 600 := by decide
  have hl := lv_entry ([.ref p0, .int a1]) (n := 2) (Nat.le_of_ble_eq_true rfl)
  rw [lg_entry_eq]
  generalize (lg_sl ([.ref p0, .int a1]) ++ List.replicate (2 - (lg_sl ([.ref p0, .int a1])).length) Slot.unset).toArray = ls at hl ⊢
  have hl : lv_has ls 2 [(0, .ref p0), (1, .int a1)] := hl
  refine lv_aload_n hx hb dX3_put_0 rfl (lv_at hl 0 rfl) ?_
  obtain ⟨v_1, fv_1, tv_1⟩ := OKX3_g3 ho_p0
  refine qg_X3_3 hx hb hts i_X3 hown hK hP 0 rfl k_0 fv_1 dX3_put_1 (lv_sipush (v := 600) hx hb dX3_put_4 (by decide) ?_)
  refine lv_icmp_lt (tgt := 12) hx hb dX3_put_7 (by decide) (fun c_2 => ?_) (fun c_2 => ?_)
  · have tc_2 := q_lt c_2
    refine lv_aload_n hx hb dX3_put_12 rfl (lv_at hl 0 rfl) (qg_X3_0 hx hb hts i_X3 hown hK hP 0 rfl k_1 fr_p0_0 dX3_put_13 (lv_aload_n hx hb dX3_put_16 rfl (lv_at hl 0 rfl) (qg_X3_3 hx hb hts i_X3 hown hK hP 0 rfl k_0 fv_1 dX3_put_17 (lv_iload_n hx hb dX3_put_20 rfl (lv_at hl 1 rfl) (q_ist hx hb hK hP hDa za_t_put hS 1 0 rfl rfl (q_in (by omega) (by omega)) dX3_put_21 (fun H3 lo3 g3 eg3 (hP3 : va_P (dC, dI) vwCl (zW_t_put p0 f_p0 p0_code c_p0_code g3) H3) hS3 => ?_))))))
    clear hP hS
    refine lv_aload_n hx hb dX3_put_22 rfl (lv_at hl 0 rfl) (lv_dup hx hb dX3_put_23 rfl (qg_X3_3 hx hb hts i_X3 hown hK hP3 0 rfl k_0 fv_1 dX3_put_24 (lv_iconst (v := 1) hx hb dX3_put_27 (by decide) (lv_iadd hx hb dX3_put_28 (lv_topi fun v_4 ev_4 => ?_)))))
    have tv_4 := q_add ev_4 (by omega) (by omega)
    refine qp_X3_3 hx hb hts i_X3 hown hK hP3 hDa za_t_put hS3 0 rfl k_0 (OKX3_l ho_p0) dX3_put_29 (fun H5 lo5 fs5 efs5 (hP5 : va_P (dC, dI) vwCl (zW_t_put p0 fs5 p0_code c_p0_code g3) H5) hS5 => ?_)
    have ho5 := OKX3_p3 ho_p0 efs5 ⟨by omega, by omega⟩
    clear hP3 hS3
    refine lv_iconst (v := 1) hx hb dX3_put_32 (by decide) ?_
    exact q_zret hx hb hr hlocks (by decide) hS5 dX3_put_33 ⟨fs5, g3, (Or.inl ⟨rfl, by first | trivial | omega⟩), ho5, (q_fr.rf.st efs5 (by decide)), hP5, za_t_put⟩
  · have tc_2 := q_geN c_2
    refine lv_iconst (v := 0) hx hb dX3_put_10 (by decide) ?_
    exact q_zret hx hb hr hlocks (by decide) hS dX3_put_11 ⟨f_p0, b_p0_code, (Or.inr ⟨rfl, by first | trivial | omega⟩), ho_p0, q_fr.rf, hP, za_t_put⟩
def zo_t_endRow : List Cond := [.code yX3_endRow cX3_endRow 1 (some .boolean), .fieldLink RX3 25 "BowWalk$Laws" "rows" "I", .fieldLink RX3 15 "BowWalk$Laws" "behind" "[I", .fieldLink RX3 21 "BowWalk$Laws" "used" "I"]
def zw_t_endRow : List Cond := zo_t_endRow ++ (wsX30 ++ [])
theorem gz_t_endRow : zw_t_endRow.all goodWord = true := p1_ga (by decide +kernel) (p1_ga gk_X3 p1_g0)
theorem iz_t_endRow : ∀ w ∈ zw_t_endRow, w ∈ lw_tbl := p1_ia (p1_all [687, 154, 151, 153] (by decide +kernel)) (p1_ia ik_X3 p1_i0)
def zW_t_endRow (p0 : Nat) (f_p0 : List Value) (p0_behind : Nat) (c_p0_behind : ClassId) (b_p0_behind : Nat → Int32) : va_W := [(p0, .inr (3, f_p0)), (p0_behind, .inl (c_p0_behind, 6, .inl b_p0_behind))]
def zT_t_endRow (c_p0_behind : ClassId) : List (ClassId × FieldType) := [(c_p0_behind, .int)]
def zA_t_endRow (p0 : Nat) (p0_behind : Nat) : List Nat := [p0, p0_behind]
theorem za_t_endRow {p0 : Nat} {f_p0 : List Value} {p0_behind : Nat} {c_p0_behind : ClassId} {b_p0_behind : Nat → Int32} : (zW_t_endRow p0 f_p0 p0_behind c_p0_behind b_p0_behind).map Prod.fst = (zA_t_endRow p0 p0_behind) := rfl
def zG_t_endRow (p0 : Nat) (f_p0 : List Value) (p0_behind : Nat) (c_p0_behind : ClassId) (b_p0_behind : Nat → Int32) (r : Int32) (X : va_W → Prop) : Prop := ∃ (y_p0 : List Value) (y_p0_behind : Nat → Int32), ((r = 1 ∧ (True)) ∨ (r = 0 ∧ (True))) ∧ OKX3 y_p0 ∧ q_fr [4] f_p0 y_p0 ∧ (q_rg 6 (0) 600 y_p0_behind) ∧ X (zW_t_endRow p0 y_p0 p0_behind c_p0_behind y_p0_behind)
theorem zm_t_endRow {p0 : Nat} {f_p0 : List Value} {p0_behind : Nat} {c_p0_behind : ClassId} {b_p0_behind : Nat → Int32} : ∀ (r : Int32), ∀ X Y : va_W → Prop, (∀ w, X w → Y w) → zG_t_endRow p0 f_p0 p0_behind c_p0_behind b_p0_behind r X → zG_t_endRow p0 f_p0 p0_behind c_p0_behind b_p0_behind r Y := fun r X Y h h1 => by obtain ⟨x0, x1, x2, x3, x4, x5, hx⟩ := h1; exact ⟨x0, x1, x2, x3, x4, x5, h _ hx⟩
set_option maxHeartbeats 4000000 in
set_option maxRecDepth 100000 in
theorem t_endRow (l : Launch) (dC : Nat → ClassId) (dI : Nat → Nat → Nat) (sz : Nat) (p0 : Nat) (f_p0 : List Value) (p0_behind : Nat) (c_p0_behind : ClassId) (b_p0_behind : Nat → Int32) (ho_p0 : OKX3 f_p0) (fr_p0_1 : q_rf f_p0 1 p0_behind) (hr_p0_behind : q_rg 6 (0) 600 b_p0_behind) : Met l yX3_endRow zw_t_endRow ({ frames := 0, cells := 0, slots := 0, locals := 0 }) (va_Pc [.ref p0] (q_pre (dC, dI) (zW_t_endRow p0 f_p0 p0_behind c_p0_behind b_p0_behind) (zT_t_endRow c_p0_behind) q_E0 sz)) (q_Qi (dC, dI) (zG_t_endRow p0 f_p0 p0_behind c_p0_behind b_p0_behind) (zA_t_endRow p0 p0_behind) (va_A (zW_t_endRow p0 f_p0 p0_behind c_p0_behind b_p0_behind) sz)) 0 0 (va_A (zW_t_endRow p0 f_p0 p0_behind c_p0_behind b_p0_behind) sz) := by
  refine Met.ofW (cc := cX3_endRow) (maxL := 1) (ret := (some .boolean)) (by decide) rfl ?_
  intro p e s m args below meth c s₁ B hml hv
  obtain ⟨rfl, hsz, hP, hK, hD0, hE⟩ := hv
  have hx := B.exec
  have hb := B.bytes
  have hr := B.returns
  have hts := atoms_spec (ws := zw_t_endRow) B.pre
  have hown : s.vm.findClass RX3 = some m.cls := findClass_of_methodNamed B.named
  have hlocks := B.notSynchronized
  subst hsz
  have hD := hD0.self (sz := s.heap.size)
  generalize hAe : va_A (zW_t_endRow p0 f_p0 p0_behind c_p0_behind b_p0_behind) s.heap.size = A at hD hE ⊢
  have hA : ∀ q : Nat, s.heap.size ≤ q → A q := fun q h => by rw [← hAe]; exact Or.inr h
  have hDa : q_DA A (zA_t_endRow p0 p0_behind) := q_DA.mk hD za_t_endRow
  clear hAe hD0 hD
  have hS : va_S A s.heap s.heap [] := va_S.rf
  have m_0 : (.fieldLink RX3 25 "BowWalk$Laws" "rows" "I" : Cond) ∈ zw_t_endRow := List.mem_append_left _ (List.mem_of_getElem? (i := 1) rfl)
  have k_0 := hts _ m_0
  have m_1 : (.fieldLink RX3 15 "BowWalk$Laws" "behind" "[I" : Cond) ∈ zw_t_endRow := List.mem_append_left _ (List.mem_of_getElem? (i := 2) rfl)
  have k_1 := hts _ m_1
  have m_2 : (.fieldLink RX3 21 "BowWalk$Laws" "used" "I" : Cond) ∈ zw_t_endRow := List.mem_append_left _ (List.mem_of_getElem? (i := 3) rfl)
  have k_2 := hts _ m_2
  have i_X3 : ∀ w ∈ u_ws RX3 TX3 6, w ∈ zw_t_endRow := fun w h => List.mem_append_right _ (List.mem_append_left _ h)
  have lt_0 : (0 : Int32).toInt = 0 := by decide
  have lt_1 : (1 : Int32).toInt = 1 := by decide
  have lt_6 : (6 : Int32).toInt = 6 := by decide
  have hl := lv_entry ([.ref p0]) (n := 1) (Nat.le_of_ble_eq_true rfl)
  rw [lg_entry_eq]
  generalize (lg_sl ([.ref p0]) ++ List.replicate (1 - (lg_sl ([.ref p0])).length) Slot.unset).toArray = ls at hl ⊢
  have hl : lv_has ls 1 [(0, .ref p0)] := hl
  refine lv_aload_n hx hb dX3_endRow_0 rfl (lv_at hl 0 rfl) ?_
  obtain ⟨v_1, fv_1, tv_1⟩ := OKX3_g4 ho_p0
  refine qg_X3_4 hx hb hts i_X3 hown hK hP 0 rfl k_0 fv_1 dX3_endRow_1 (lv_aload_n hx hb dX3_endRow_4 rfl (lv_at hl 0 rfl) (qg_X3_1 hx hb hts i_X3 hown hK hP 0 rfl k_1 fr_p0_1 dX3_endRow_5 (va_alen (v := 6) hx hb hK hP 1 0 rfl rfl rfl dX3_endRow_8 ?_)))
  refine lv_icmp_lt (tgt := 14) hx hb dX3_endRow_9 (by decide) (fun c_2 => ?_) (fun c_2 => ?_)
  · have tc_2 := q_lt c_2
    refine lv_aload_n hx hb dX3_endRow_14 rfl (lv_at hl 0 rfl) (qg_X3_1 hx hb hts i_X3 hown hK hP 0 rfl k_1 fr_p0_1 dX3_endRow_15 (lv_aload_n hx hb dX3_endRow_18 rfl (lv_at hl 0 rfl) (qg_X3_4 hx hb hts i_X3 hown hK hP 0 rfl k_0 fv_1 dX3_endRow_19 (lv_aload_n hx hb dX3_endRow_22 rfl (lv_at hl 0 rfl) ?_))))
    obtain ⟨v_3, fv_3, tv_3⟩ := OKX3_g3 ho_p0
    refine qg_X3_3 hx hb hts i_X3 hown hK hP 0 rfl k_2 fv_3 dX3_endRow_23 (q_ist hx hb hK hP hDa za_t_endRow hS 1 0 rfl rfl (q_in (by omega) (by omega)) dX3_endRow_26 (fun H4 lo4 g4 eg4 (hP4 : va_P (dC, dI) vwCl (zW_t_endRow p0 f_p0 p0_behind c_p0_behind g4) H4) hS4 => ?_))
    clear hP hS
    have hr_g4 := q_up' hr_p0_behind eg4 ⟨by omega, by omega⟩
    refine lv_aload_n hx hb dX3_endRow_27 rfl (lv_at hl 0 rfl) (lv_dup hx hb dX3_endRow_28 rfl (qg_X3_4 hx hb hts i_X3 hown hK hP4 0 rfl k_0 fv_1 dX3_endRow_29 (lv_iconst (v := 1) hx hb dX3_endRow_32 (by decide) (lv_iadd hx hb dX3_endRow_33 (lv_topi fun v_5 ev_5 => ?_)))))
    have tv_5 := q_add ev_5 (by omega) (by omega)
    refine qp_X3_4 hx hb hts i_X3 hown hK hP4 hDa za_t_endRow hS4 0 rfl k_0 (OKX3_l ho_p0) dX3_endRow_34 (fun H6 lo6 fs6 efs6 (hP6 : va_P (dC, dI) vwCl (zW_t_endRow p0 fs6 p0_behind c_p0_behind g4) H6) hS6 => ?_)
    have ho6 := OKX3_p4 ho_p0 efs6 ⟨by omega, by omega⟩
    clear hP4 hS4
    refine lv_iconst (v := 1) hx hb dX3_endRow_37 (by decide) ?_
    exact q_zret hx hb hr hlocks (by decide) hS6 dX3_endRow_38 ⟨fs6, g4, (Or.inl ⟨rfl, by first | trivial | omega⟩), ho6, (q_fr.rf.st efs6 (by decide)), hr_g4, hP6, za_t_endRow⟩
  · have tc_2 := q_geN c_2
    refine lv_iconst (v := 0) hx hb dX3_endRow_12 (by decide) ?_
    exact q_zret hx hb hr hlocks (by decide) hS dX3_endRow_13 ⟨f_p0, b_p0_behind, (Or.inr ⟨rfl, by first | trivial | omega⟩), ho_p0, q_fr.rf, hr_p0_behind, hP, za_t_endRow⟩
def zo_t_ask : List Cond := [.code yX3_ask cX3_ask 8 (some .int), .fieldLink RX3 25 "BowWalk$Laws" "rows" "I", .fieldLink RX3 15 "BowWalk$Laws" "behind" "[I", .fieldLink RX3 18 "BowWalk$Laws" "stack" "[I", .fieldLink RX3 9 "BowWalk$Laws" "code" "[I", .methodLink RX3 45 yX6_isUnitWord, .static yX6_isUnitWord, .initialized RX6, .methodLink RX3 50 yX0_tell, .instanceMethod yX0_tell, .selects RX0 yX0_tell yX0_tell, .initialized RX0, .methodLink RX3 56 yX3_join, .static yX3_join, .initialized RX3]
def zw_t_ask : List Cond := zo_t_ask ++ (zw_t_isUnitWord ++ (zw_t_tell ++ (zw_t_join ++ (wsX30 ++ []))))
theorem gz_t_ask : zw_t_ask.all goodWord = true := p1_ga (by decide +kernel) (p1_ga gz_t_isUnitWord (p1_ga gz_t_tell (p1_ga gz_t_join (p1_ga gk_X3 p1_g0))))
theorem iz_t_ask : ∀ w ∈ zw_t_ask, w ∈ lw_tbl := p1_ia (p1_all [772, 154, 151, 152, 150, 773, 674, 118, 774, 775, 776, 112, 778, 779, 107] (by decide +kernel)) (p1_ia iz_t_isUnitWord (p1_ia iz_t_tell (p1_ia iz_t_join (p1_ia ik_X3 p1_i0))))
def zW_t_ask (p0 : Nat) (f_p0 : List Value) (p0_behind : Nat) (c_p0_behind : ClassId) (b_p0_behind : Nat → Int32) (p0_code : Nat) (c_p0_code : ClassId) (b_p0_code : Nat → Int32) (p0_stack : Nat) (c_p0_stack : ClassId) (b_p0_stack : Nat → Int32) (p2 : Nat) (f_p2 : List Value) (p2_ends : Nat) (c_p2_ends : ClassId) (b_p2_ends : Nat → Int32) (p2_tight : Nat) (c_p2_tight : ClassId) (b_p2_tight : Nat → Int32) : va_W := [(p0, .inr (3, f_p0)), (p0_behind, .inl (c_p0_behind, 6, .inl b_p0_behind)), (p0_code, .inl (c_p0_code, 600, .inl b_p0_code)), (p0_stack, .inl (c_p0_stack, 60, .inl b_p0_stack)), (p2, .inr (0, f_p2)), (p2_ends, .inl (c_p2_ends, 2, .inl b_p2_ends)), (p2_tight, .inl (c_p2_tight, 12, .inl b_p2_tight))]
def zT_t_ask (c_p0_behind : ClassId) (c_p0_code : ClassId) (c_p0_stack : ClassId) (c_p2_ends : ClassId) (c_p2_tight : ClassId) : List (ClassId × FieldType) := [(c_p0_behind, .int), (c_p0_code, .int), (c_p0_stack, .int), (c_p2_ends, .int), (c_p2_tight, .int)]
def zA_t_ask (p0 : Nat) (p0_behind : Nat) (p0_code : Nat) (p0_stack : Nat) (p2 : Nat) (p2_ends : Nat) (p2_tight : Nat) : List Nat := [p0, p0_behind, p0_code, p0_stack, p2, p2_ends, p2_tight]
theorem za_t_ask {p0 : Nat} {f_p0 : List Value} {p0_behind : Nat} {c_p0_behind : ClassId} {b_p0_behind : Nat → Int32} {p0_code : Nat} {c_p0_code : ClassId} {b_p0_code : Nat → Int32} {p0_stack : Nat} {c_p0_stack : ClassId} {b_p0_stack : Nat → Int32} {p2 : Nat} {f_p2 : List Value} {p2_ends : Nat} {c_p2_ends : ClassId} {b_p2_ends : Nat → Int32} {p2_tight : Nat} {c_p2_tight : ClassId} {b_p2_tight : Nat → Int32} : (zW_t_ask p0 f_p0 p0_behind c_p0_behind b_p0_behind p0_code c_p0_code b_p0_code p0_stack c_p0_stack b_p0_stack p2 f_p2 p2_ends c_p2_ends b_p2_ends p2_tight c_p2_tight b_p2_tight).map Prod.fst = (zA_t_ask p0 p0_behind p0_code p0_stack p2 p2_ends p2_tight) := rfl
def zG_t_ask (p0 : Nat) (f_p0 : List Value) (p0_behind : Nat) (c_p0_behind : ClassId) (b_p0_behind : Nat → Int32) (p0_code : Nat) (c_p0_code : ClassId) (b_p0_code : Nat → Int32) (p0_stack : Nat) (c_p0_stack : ClassId) (b_p0_stack : Nat → Int32) (p2 : Nat) (f_p2 : List Value) (p2_ends : Nat) (c_p2_ends : ClassId) (b_p2_ends : Nat → Int32) (p2_tight : Nat) (c_p2_tight : ClassId) (b_p2_tight : Nat → Int32) (a1 : Int32) (a3 : Int32) (r : Int32) (X : va_W → Prop) : Prop := ∃ (y_p0_stack : Nat → Int32), X (zW_t_ask p0 f_p0 p0_behind c_p0_behind b_p0_behind p0_code c_p0_code b_p0_code p0_stack c_p0_stack y_p0_stack p2 f_p2 p2_ends c_p2_ends b_p2_ends p2_tight c_p2_tight b_p2_tight)
theorem zm_t_ask {p0 : Nat} {f_p0 : List Value} {p0_behind : Nat} {c_p0_behind : ClassId} {b_p0_behind : Nat → Int32} {p0_code : Nat} {c_p0_code : ClassId} {b_p0_code : Nat → Int32} {p0_stack : Nat} {c_p0_stack : ClassId} {b_p0_stack : Nat → Int32} {p2 : Nat} {f_p2 : List Value} {p2_ends : Nat} {c_p2_ends : ClassId} {b_p2_ends : Nat → Int32} {p2_tight : Nat} {c_p2_tight : ClassId} {b_p2_tight : Nat → Int32} {a1 : Int32} {a3 : Int32} : ∀ (r : Int32), ∀ X Y : va_W → Prop, (∀ w, X w → Y w) → zG_t_ask p0 f_p0 p0_behind c_p0_behind b_p0_behind p0_code c_p0_code b_p0_code p0_stack c_p0_stack b_p0_stack p2 f_p2 p2_ends c_p2_ends b_p2_ends p2_tight c_p2_tight b_p2_tight a1 a3 r X → zG_t_ask p0 f_p0 p0_behind c_p0_behind b_p0_behind p0_code c_p0_code b_p0_code p0_stack c_p0_stack b_p0_stack p2 f_p2 p2_ends c_p2_ends b_p2_ends p2_tight c_p2_tight b_p2_tight a1 a3 r Y := fun r X Y h h1 => by obtain ⟨x0, hx⟩ := h1; exact ⟨x0, h _ hx⟩
set_option maxHeartbeats 4000000 in
set_option maxRecDepth 100000 in
theorem t_ask (l : Launch) (dC : Nat → ClassId) (dI : Nat → Nat → Nat) (sz : Nat) (p0 : Nat) (f_p0 : List Value) (p0_behind : Nat) (c_p0_behind : ClassId) (b_p0_behind : Nat → Int32) (p0_code : Nat) (c_p0_code : ClassId) (b_p0_code : Nat → Int32) (p0_stack : Nat) (c_p0_stack : ClassId) (b_p0_stack : Nat → Int32) (p2 : Nat) (f_p2 : List Value) (p2_ends : Nat) (c_p2_ends : ClassId) (b_p2_ends : Nat → Int32) (p2_tight : Nat) (c_p2_tight : ClassId) (b_p2_tight : Nat → Int32) (a1 : Int32) (a3 : Int32) (ho_p0 : OKX3 f_p0) (fr_p0_0 : q_rf f_p0 0 p0_code) (fr_p0_1 : q_rf f_p0 1 p0_behind) (fr_p0_2 : q_rf f_p0 2 p0_stack) (hr_p0_behind : q_rg 6 (0) 600 b_p0_behind) (ho_p2 : OKX0 f_p2) (fr_p2_0 : q_rf f_p2 0 p2_tight) (fr_p2_1 : q_rf f_p2 1 p2_ends) (ta3 : (0) ≤ a3.toInt ∧ a3.toInt ≤ 11) : Met l yX3_ask zw_t_ask ({ frames := 1, cells := 0, slots := 0, locals := 22 }) (va_Pc [.ref p0, .int a1, .ref p2, .int a3] (q_pre (dC, dI) (zW_t_ask p0 f_p0 p0_behind c_p0_behind b_p0_behind p0_code c_p0_code b_p0_code p0_stack c_p0_stack b_p0_stack p2 f_p2 p2_ends c_p2_ends b_p2_ends p2_tight c_p2_tight b_p2_tight) (zT_t_ask c_p0_behind c_p0_code c_p0_stack c_p2_ends c_p2_tight) q_E0 sz)) (q_Qi (dC, dI) (zG_t_ask p0 f_p0 p0_behind c_p0_behind b_p0_behind p0_code c_p0_code b_p0_code p0_stack c_p0_stack b_p0_stack p2 f_p2 p2_ends c_p2_ends b_p2_ends p2_tight c_p2_tight b_p2_tight a1 a3) (zA_t_ask p0 p0_behind p0_code p0_stack p2 p2_ends p2_tight) (va_A (zW_t_ask p0 f_p0 p0_behind c_p0_behind b_p0_behind p0_code c_p0_code b_p0_code p0_stack c_p0_stack b_p0_stack p2 f_p2 p2_ends c_p2_ends b_p2_ends p2_tight c_p2_tight b_p2_tight) sz)) 0 0 (va_A (zW_t_ask p0 f_p0 p0_behind c_p0_behind b_p0_behind p0_code c_p0_code b_p0_code p0_stack c_p0_stack b_p0_stack p2 f_p2 p2_ends c_p2_ends b_p2_ends p2_tight c_p2_tight b_p2_tight) sz) := by
  refine Met.ofW (cc := cX3_ask) (maxL := 8) (ret := (some .int)) (by decide) rfl ?_
  intro p e s m args below meth c s₁ B hml hv
  obtain ⟨rfl, hsz, hP, hK, hD0, hE⟩ := hv
  have hx := B.exec
  have hb := B.bytes
  have hr := B.returns
  have hts := atoms_spec (ws := zw_t_ask) B.pre
  have hown : s.vm.findClass RX3 = some m.cls := findClass_of_methodNamed B.named
  have hlocks := B.notSynchronized
  subst hsz
  have hD := hD0.self (sz := s.heap.size)
  generalize hAe : va_A (zW_t_ask p0 f_p0 p0_behind c_p0_behind b_p0_behind p0_code c_p0_code b_p0_code p0_stack c_p0_stack b_p0_stack p2 f_p2 p2_ends c_p2_ends b_p2_ends p2_tight c_p2_tight b_p2_tight) s.heap.size = A at hD hE ⊢
  have hA : ∀ q : Nat, s.heap.size ≤ q → A q := fun q h => by rw [← hAe]; exact Or.inr h
  have hDa : q_DA A (zA_t_ask p0 p0_behind p0_code p0_stack p2 p2_ends p2_tight) := q_DA.mk hD za_t_ask
  clear hAe hD0 hD
  have hS : va_S A s.heap s.heap [] := va_S.rf
  have m_0 : (.fieldLink RX3 25 "BowWalk$Laws" "rows" "I" : Cond) ∈ zw_t_ask := List.mem_append_left _ (List.mem_of_getElem? (i := 1) rfl)
  have k_0 := hts _ m_0
  have m_1 : (.fieldLink RX3 15 "BowWalk$Laws" "behind" "[I" : Cond) ∈ zw_t_ask := List.mem_append_left _ (List.mem_of_getElem? (i := 2) rfl)
  have k_1 := hts _ m_1
  have m_2 : (.fieldLink RX3 18 "BowWalk$Laws" "stack" "[I" : Cond) ∈ zw_t_ask := List.mem_append_left _ (List.mem_of_getElem? (i := 3) rfl)
  have k_2 := hts _ m_2
  have m_3 : (.fieldLink RX3 9 "BowWalk$Laws" "code" "[I" : Cond) ∈ zw_t_ask := List.mem_append_left _ (List.mem_of_getElem? (i := 4) rfl)
  have k_3 := hts _ m_3
  have m_4 : (.methodLink RX3 45 yX6_isUnitWord : Cond) ∈ zw_t_ask := List.mem_append_left _ (List.mem_of_getElem? (i := 5) rfl)
  have k_4 := hts _ m_4
  have m_5 : (.static yX6_isUnitWord : Cond) ∈ zw_t_ask := List.mem_append_left _ (List.mem_of_getElem? (i := 6) rfl)
  have k_5 := hts _ m_5
  have m_6 : (.initialized RX6 : Cond) ∈ zw_t_ask := List.mem_append_left _ (List.mem_of_getElem? (i := 7) rfl)
  have k_6 := hts _ m_6
  have m_7 : (.methodLink RX3 50 yX0_tell : Cond) ∈ zw_t_ask := List.mem_append_left _ (List.mem_of_getElem? (i := 8) rfl)
  have k_7 := hts _ m_7
  have m_8 : (.instanceMethod yX0_tell : Cond) ∈ zw_t_ask := List.mem_append_left _ (List.mem_of_getElem? (i := 9) rfl)
  have k_8 := hts _ m_8
  have m_9 : (.selects RX0 yX0_tell yX0_tell : Cond) ∈ zw_t_ask := List.mem_append_left _ (List.mem_of_getElem? (i := 10) rfl)
  have k_9 := hts _ m_9
  have m_10 : (.initialized RX0 : Cond) ∈ zw_t_ask := List.mem_append_left _ (List.mem_of_getElem? (i := 11) rfl)
  have k_10 := hts _ m_10
  have m_11 : (.methodLink RX3 56 yX3_join : Cond) ∈ zw_t_ask := List.mem_append_left _ (List.mem_of_getElem? (i := 12) rfl)
  have k_11 := hts _ m_11
  have m_12 : (.static yX3_join : Cond) ∈ zw_t_ask := List.mem_append_left _ (List.mem_of_getElem? (i := 13) rfl)
  have k_12 := hts _ m_12
  have m_13 : (.initialized RX3 : Cond) ∈ zw_t_ask := List.mem_append_left _ (List.mem_of_getElem? (i := 14) rfl)
  have k_13 := hts _ m_13
  have g_t_isUnitWord : ∀ w ∈ zw_t_isUnitWord, w ∈ zw_t_ask := fun w h => List.mem_append_right _ (List.mem_append_left _ h)
  have g_t_tell : ∀ w ∈ zw_t_tell, w ∈ zw_t_ask := fun w h => List.mem_append_right _ (List.mem_append_right _ (List.mem_append_left _ h))
  have g_t_join : ∀ w ∈ zw_t_join, w ∈ zw_t_ask := fun w h => List.mem_append_right _ (List.mem_append_right _ (List.mem_append_right _ (List.mem_append_left _ h)))
  have i_X3 : ∀ w ∈ u_ws RX3 TX3 6, w ∈ zw_t_ask := fun w h => List.mem_append_right _ (List.mem_append_right _ (List.mem_append_right _ (List.mem_append_right _ (List.mem_append_left _ h))))
  have lt_m1 : ((-1) : Int32).toInt = -1 := by decide
  have lt_0 : (0 : Int32).toInt = 0 := by decide
  have lt_1 : (1 : Int32).toInt = 1 := by decide
  have lt_60 : (60 : Int32).toInt = 60 := by decide
  have lt_277 : (277 : Int32).toInt = 277 := by decide
  have lt_1000 : (1000 : Int32).toInt = 1000 := by decide
  have hl := lv_entry ([.ref p0, .int a1, .ref p2, .int a3]) (n := 8) (Nat.le_of_ble_eq_true rfl)
  rw [lg_entry_eq]
  generalize (lg_sl ([.ref p0, .int a1, .ref p2, .int a3]) ++ List.replicate (8 - (lg_sl ([.ref p0, .int a1, .ref p2, .int a3])).length) Slot.unset).toArray = ls at hl ⊢
  have hl : lv_has ls 8 [(0, .ref p0), (1, .int a1), (2, .ref p2), (3, .int a3)] := hl
  refine lv_iload_n hx hb dX3_ask_0 rfl (lv_at hl 1 rfl) ?_
  refine lv_if_lt (tgt := 12) hx hb dX3_ask_1 (by decide) (fun c_1 => ?_) (fun c_1 => ?_)
  · have tc_1 := q_lt c_1
    refine lv_iconst (v := 0) hx hb dX3_ask_12 (by decide) ?_
    exact q_iret hx hb hr hlocks hS dX3_ask_13 ⟨b_p0_stack, hP, za_t_ask⟩
  · have tc_1 := q_geN c_1
    refine lv_iload_n hx hb dX3_ask_4 rfl (lv_at hl 1 rfl) (lv_aload_n hx hb dX3_ask_5 rfl (lv_at hl 0 rfl) ?_)
    obtain ⟨v_2, fv_2, tv_2⟩ := OKX3_g4 ho_p0
    refine qg_X3_4 hx hb hts i_X3 hown hK hP 0 rfl k_0 fv_2 dX3_ask_6 ?_
    refine lv_icmp_lt (tgt := 14) hx hb dX3_ask_9 (by decide) (fun c_3 => ?_) (fun c_3 => ?_)
    · have tc_3 := q_lt c_3
      refine lv_iconst (v := 0) hx hb dX3_ask_14 (by decide) (lv_istore (lv' := [(4, .int 0), (0, .ref p0), (1, .int a1), (2, .ref p2), (3, .int a3)]) hx hb dX3_ask_15 hl (by decide) rfl (fun ls hl => ?_))
      refine lv_iload_n hx hb dX3_ask_17 rfl (lv_at hl 2 rfl) ?_
      refine lv_if_ne (tgt := 25) hx hb dX3_ask_18 (by decide) (fun c_4 => ?_) (fun c_4 => ?_)
      · have tc_4 := q_ne c_4
        refine lv_aload_n hx hb dX3_ask_25 rfl (lv_at hl 1 rfl) (qg_X3_1 hx hb hts i_X3 hown hK hP 0 rfl k_1 fr_p0_1 dX3_ask_26 (lv_iload_n hx hb dX3_ask_29 rfl (lv_at hl 2 rfl) (lv_iconst (v := 1) hx hb dX3_ask_30 (by decide) (lv_isub hx hb dX3_ask_31 (lv_topi fun v_5 ev_5 => ?_)))))
        have tv_5 := q_sub ev_5 (by omega) (by omega)
        refine q_ild hx hb hK hP 1 0 rfl rfl (q_in (by omega) (by omega)) dX3_ask_32 (fun v_6 ev_6 => ?_)
        have tv_6 := q_rd' hr_p0_behind (q_in (by omega) (by omega)) ev_6
        refine lv_istore (lv' := [(5, .int v_6), (4, .int 0), (0, .ref p0), (1, .int a1), (2, .ref p2), (3, .int a3)]) hx hb dX3_ask_33 hl (by decide) rfl (fun ls hl => ?_)
        have key35 : ∀ (fu35 : Nat) (top : Int32) (att : Int32) (bz_p0_stack : Nat → Int32) (H : Heap) (locs : List Loc) (ls : Array Slot) (hfu35 : 600 - att.toInt ≤ (fu35 : Int)) (ttop : (0) ≤ top.toInt ∧ top.toInt ≤ 60) (tatt : (0) ≤ att.toInt ∧ att.toInt ≤ 600), va_P (dC, dI) vwCl (zW_t_ask p0 f_p0 p0_behind c_p0_behind b_p0_behind p0_code c_p0_code b_p0_code p0_stack c_p0_stack bz_p0_stack p2 f_p2 p2_ends c_p2_ends b_p2_ends p2_tight c_p2_tight b_p2_tight) H → va_S A s.heap H locs → lv_has ls 8 [(5, .int att), (4, .int top), (0, .ref p0), (1, .int a1), (2, .ref p2), (3, .int a3)] → W p l e (headSpec zw_t_ask { frames := 1, cells := 0, slots := 0, locals := 22 }).room s m ([.ref p0, .int a1, .ref p2, .int a3] : List Value).toArray below meth c H locs 0 0 (MQ below (q_Qi (dC, dI) (zG_t_ask p0 f_p0 p0_behind c_p0_behind b_p0_behind p0_code c_p0_code b_p0_code p0_stack c_p0_stack b_p0_stack p2 f_p2 p2_ends c_p2_ends b_p2_ends p2_tight c_p2_tight b_p2_tight a1 a3) (zA_t_ask p0 p0_behind p0_code p0_stack p2 p2_ends p2_tight) A) ([.ref p0, .int a1, .ref p2, .int a3] : List Value).toArray s 0 0 A) (F0 m 35 ls []) := by
          intro fu35
          induction fu35 using Nat.strongRecOn with
          | ind fu35 ih35 =>
            intro top att bz_p0_stack H7 lo7 ls hfu35 ttop tatt hP7 hS7 hl
            refine lv_iload hx hb dX3_ask_35 (lv_at hl 0 rfl) (lv_aload_n hx hb dX3_ask_37 rfl (lv_at hl 2 rfl) (qg_X3_1 hx hb hts i_X3 hown hK hP7 0 rfl k_1 fr_p0_1 dX3_ask_38 (lv_iload_n hx hb dX3_ask_41 rfl (lv_at hl 3 rfl) (q_ild hx hb hK hP7 1 0 rfl rfl (q_in (by omega) (by omega)) dX3_ask_42 (fun v_8 ev_8 => ?_)))))
            have tv_8 := q_rd' hr_p0_behind (q_in (by omega) (by omega)) ev_8
            refine lv_icmp_ge (tgt := 211) hx hb dX3_ask_43 (by decide) (fun c_9 => ?_) (fun c_9 => ?_)
            · have tc_9 := q_ge c_9
              refine lv_aload_n hx hb dX3_ask_211 rfl (lv_at hl 2 rfl) (qg_X3_2 hx hb hts i_X3 hown hK hP7 0 rfl k_2 fr_p0_2 dX3_ask_212 (lv_iconst (v := 0) hx hb dX3_ask_215 (by decide) (q_ild hx hb hK hP7 3 2 rfl rfl (p1_in (i := 0) (n := 60) (by decide)) dX3_ask_216 (fun v_10 ev_10 => ?_))))
              exact q_iret hx hb hr hlocks hS7 dX3_ask_217 ⟨bz_p0_stack, hP7, za_t_ask⟩
            · have tc_9 := q_ltN c_9
              refine lv_aload_n hx hb dX3_ask_46 rfl (lv_at hl 2 rfl) (qg_X3_0 hx hb hts i_X3 hown hK hP7 0 rfl k_3 fr_p0_0 dX3_ask_47 (lv_iload hx hb dX3_ask_50 (lv_at hl 0 rfl) (q_ild hx hb hK hP7 2 1 rfl rfl (q_in (by omega) (by omega)) dX3_ask_52 (fun v_11 ev_11 => ?_))))
              refine lv_istore (lv' := [(6, .int v_11), (5, .int att), (4, .int top), (0, .ref p0), (1, .int a1), (2, .ref p2), (3, .int a3)]) hx hb dX3_ask_53 hl (by decide) rfl (fun ls hl => ?_)
              refine lv_iload hx hb dX3_ask_55 (lv_at hl 0 rfl) (lv_sipush (v := 1000) hx hb dX3_ask_57 (by decide) ?_)
              refine lv_icmp_lt (tgt := 67) hx hb dX3_ask_60 (by decide) (fun c_12 => ?_) (fun c_12 => ?_)
              · have tc_12 := q_lt c_12
                refine lv_iconst (v := 0) hx hb dX3_ask_67 (by decide) (lv_istore (lv' := [(7, .int 0), (6, .int v_11), (5, .int att), (4, .int top), (0, .ref p0), (1, .int a1), (2, .ref p2), (3, .int a3)]) hx hb dX3_ask_68 hl (by decide) rfl (fun ls hl => ?_))
                refine lv_iload hx hb dX3_ask_70 (lv_at hl 0 rfl) (lv_if_ne (tgt := 83) hx hb dX3_ask_72 (by decide) (fun c_13 => absurd c_13 (by decide)) (fun c_13 => ?_))
                refine lv_iload hx hb dX3_ask_75 (lv_at hl 1 rfl) ?_
                refine q_cSi (As := [.int v_11]) (rest := []) q_w0 trivial hK hP7 hDa za_t_ask hS7 hA [] [] (by decide +kernel) ⟨hx, hb, hml, hown, hts⟩ (t_isUnitWord l dC dI H7.size v_11) rfl rfl (va_cwS 1 hts (p1_gS m_4 m_5 m_6 g_t_isUnitWord gz_t_isUnitWord) rfl rfl rfl (by decide +kernel) ⟨by decide, by decide⟩) zm_t_isUnitWord rfl hl.1 rfl (Nat.le_of_ble_eq_true rfl) dX3_ask_77 ⟨by decide, by decide⟩ (fun r_14 H15 lo15 hG15 hS15 => ?_)
                obtain ⟨z_16, hQ15⟩ := hG15
                have hP15 : va_P (dC, dI) vwCl (zW_t_ask p0 f_p0 p0_behind c_p0_behind b_p0_behind p0_code c_p0_code b_p0_code p0_stack c_p0_stack bz_p0_stack p2 f_p2 p2_ends c_p2_ends b_p2_ends p2_tight c_p2_tight b_p2_tight) H15 := hQ15
                clear hQ15 hP7 hS7
                rcases z_16 with ⟨rfl, z_16⟩ | ⟨rfl, z_16⟩
                · refine lv_if_eq (tgt := 124) hx hb dX3_ask_80 (by decide) (fun c_17 => absurd c_17 (by decide)) (fun c_17 => ?_)
                  refine lv_iload hx hb dX3_ask_83 (lv_at hl 3 rfl) (lv_bipush (v := 60) hx hb dX3_ask_85 (by decide) ?_)
                  refine lv_icmp_ge (tgt := 205) hx hb dX3_ask_87 (by decide) (fun c_18 => ?_) (fun c_18 => ?_)
                  · have tc_18 := q_ge c_18
                    obtain ⟨v_19, ev_19⟩ : ∃ y : Int32, y = att + 1 := ⟨_, rfl⟩
                    have tv_19 := q_add ev_19 (by omega) (by omega)
                    refine lv_iinc (v := v_19) (lv' := [(5, .int v_19), (7, .int 0), (6, .int v_11), (4, .int top), (0, .ref p0), (1, .int a1), (2, .ref p2), (3, .int a3)]) hx hb dX3_ask_205 hl (k := 2) rfl (by rw [ev_19]; rfl) (by decide) rfl (fun ls hl => ?_)
                    refine lv_goto (tgt := 35) hx hb dX3_ask_208 (by decide) ?_
                    exact ih35 (fu35 - 1) (by omega) top v_19 bz_p0_stack _ _ _ (by omega) (by omega) (by omega) hP15 hS15 (lv_sub hl [0, 3, 4, 5, 6, 7] rfl)
                  · have tc_18 := q_ltN c_18
                    refine lv_aload_n hx hb dX3_ask_90 rfl (lv_at hl 4 rfl) (qg_X3_2 hx hb hts i_X3 hown hK hP15 0 rfl k_2 fr_p0_2 dX3_ask_91 (lv_iload hx hb dX3_ask_94 (lv_at hl 3 rfl) (lv_iload hx hb dX3_ask_96 (lv_at hl 0 rfl) (lv_if_eq (tgt := 110) hx hb dX3_ask_98 (by decide) (fun c_20 => ?_) (fun c_20 => absurd c_20 (by decide))))))
                    refine lv_aload_n hx hb dX3_ask_110 rfl (lv_at hl 6 rfl) (lv_iload hx hb dX3_ask_111 (lv_at hl 1 rfl) (lv_iload_n hx hb dX3_ask_113 rfl (lv_at hl 7 rfl) ?_))
                    refine q_cVi (As := [.int v_11, .int a3]) (rest := [.int top, .ref p0_stack]) q_w0 trivial hK hP15 hDa za_t_ask hS15 hA [4, 5, 6] [3, 4] (by decide +kernel) ⟨hx, hb, hml, hown, hts⟩ (t_tell l dC dI H15.size p2 f_p2 p2_ends c_p2_ends b_p2_ends p2_tight c_p2_tight b_p2_tight v_11 a3 ho_p2 fr_p2_0 fr_p2_1 ((by omega))) rfl rfl (cwV 2 hts (p1_gV m_7 m_8 m_9 m_10 g_t_tell gz_t_tell) rfl rfl rfl (by decide +kernel) ⟨by decide, by decide⟩) (va_recv hK hP15 (ci := 0) (q0 := 4) rfl rfl) zm_t_tell rfl hl.1 rfl (Nat.le_of_ble_eq_true rfl) dX3_ask_114 ⟨by decide, by decide⟩ (fun r_21 H22 lo22 hG22 hS22 => ?_)
                    have hQ22 := hG22
                    have hP22 : va_P (dC, dI) vwCl (zW_t_ask p0 f_p0 p0_behind c_p0_behind b_p0_behind p0_code c_p0_code b_p0_code p0_stack c_p0_stack bz_p0_stack p2 f_p2 p2_ends c_p2_ends b_p2_ends p2_tight c_p2_tight b_p2_tight) H22 := hQ22
                    clear hQ22 hP15 hS15
                    refine q_ist hx hb hK hP22 hDa za_t_ask hS22 3 2 rfl rfl (q_in (by omega) (by omega)) dX3_ask_117 (fun H23 lo23 g23 eg23 (hP23 : va_P (dC, dI) vwCl (zW_t_ask p0 f_p0 p0_behind c_p0_behind b_p0_behind p0_code c_p0_code b_p0_code p0_stack c_p0_stack g23 p2 f_p2 p2_ends c_p2_ends b_p2_ends p2_tight c_p2_tight b_p2_tight) H23) hS23 => ?_)
                    clear hP22 hS22
                    obtain ⟨v_24, ev_24⟩ : ∃ y : Int32, y = top + 1 := ⟨_, rfl⟩
                    have tv_24 := q_add ev_24 (by omega) (by omega)
                    refine lv_iinc (v := v_24) (lv' := [(4, .int v_24), (7, .int 0), (6, .int v_11), (5, .int att), (0, .ref p0), (1, .int a1), (2, .ref p2), (3, .int a3)]) hx hb dX3_ask_118 hl (k := 3) rfl (by rw [ev_24]; rfl) (by decide) rfl (fun ls hl => ?_)
                    refine lv_goto (tgt := 205) hx hb dX3_ask_121 (by decide) ?_
                    obtain ⟨v_25, ev_25⟩ : ∃ y : Int32, y = att + 1 := ⟨_, rfl⟩
                    have tv_25 := q_add ev_25 (by omega) (by omega)
                    refine lv_iinc (v := v_25) (lv' := [(5, .int v_25), (4, .int v_24), (7, .int 0), (6, .int v_11), (0, .ref p0), (1, .int a1), (2, .ref p2), (3, .int a3)]) hx hb dX3_ask_205 hl (k := 3) rfl (by rw [ev_25]; rfl) (by decide) rfl (fun ls hl => ?_)
                    refine lv_goto (tgt := 35) hx hb dX3_ask_208 (by decide) ?_
                    exact ih35 (fu35 - 1) (by omega) v_24 v_25 g23 _ _ _ (by omega) (by omega) (by omega) hP23 hS23 (lv_sub hl [0, 1, 4, 5, 6, 7] rfl)
                · refine lv_if_eq (tgt := 124) hx hb dX3_ask_80 (by decide) (fun c_26 => ?_) (fun c_26 => absurd c_26 (by decide))
                  refine lv_iload hx hb dX3_ask_124 (lv_at hl 1 rfl) (lv_sipush (v := 277) hx hb dX3_ask_126 (by decide) ?_)
                  refine lv_icmp_ne (tgt := 166) hx hb dX3_ask_129 (by decide) (fun c_27 => ?_) (fun c_27 => ?_)
                  · have tc_27 := q_ne c_27
                    refine lv_iload hx hb dX3_ask_166 (lv_at hl 3 rfl) (lv_iconst (v := 1) hx hb dX3_ask_168 (by decide) ?_)
                    refine lv_icmp_le (tgt := 205) hx hb dX3_ask_169 (by decide) (fun c_28 => ?_) (fun c_28 => ?_)
                    · have tc_28 := q_le c_28
                      obtain ⟨v_29, ev_29⟩ : ∃ y : Int32, y = att + 1 := ⟨_, rfl⟩
                      have tv_29 := q_add ev_29 (by omega) (by omega)
                      refine lv_iinc (v := v_29) (lv' := [(5, .int v_29), (7, .int 0), (6, .int v_11), (4, .int top), (0, .ref p0), (1, .int a1), (2, .ref p2), (3, .int a3)]) hx hb dX3_ask_205 hl (k := 2) rfl (by rw [ev_29]; rfl) (by decide) rfl (fun ls hl => ?_)
                      refine lv_goto (tgt := 35) hx hb dX3_ask_208 (by decide) ?_
                      exact ih35 (fu35 - 1) (by omega) top v_29 bz_p0_stack _ _ _ (by omega) (by omega) (by omega) hP15 hS15 (lv_sub hl [0, 3, 4, 5, 6, 7] rfl)
                    · have tc_28 := q_gtN c_28
                      obtain ⟨v_30, ev_30⟩ : ∃ y : Int32, y = top + (-1) := ⟨_, rfl⟩
                      have tv_30 := q_add ev_30 (by omega) (by omega)
                      refine lv_iinc (v := v_30) (lv' := [(4, .int v_30), (7, .int 0), (6, .int v_11), (5, .int att), (0, .ref p0), (1, .int a1), (2, .ref p2), (3, .int a3)]) hx hb dX3_ask_172 hl (k := 3) rfl (by rw [ev_30]; rfl) (by decide) rfl (fun ls hl => ?_)
                      refine lv_aload_n hx hb dX3_ask_175 rfl (lv_at hl 4 rfl) (qg_X3_2 hx hb hts i_X3 hown hK hP15 0 rfl k_2 fr_p0_2 dX3_ask_176 (lv_iload hx hb dX3_ask_179 (lv_at hl 0 rfl) (lv_iconst (v := 1) hx hb dX3_ask_181 (by decide) (lv_isub hx hb dX3_ask_182 (lv_topi fun v_31 ev_31 => ?_)))))
                      have tv_31 := q_sub ev_31 (by omega) (by omega)
                      refine lv_iload hx hb dX3_ask_183 (lv_at hl 2 rfl) (lv_aload_n hx hb dX3_ask_185 rfl (lv_at hl 4 rfl) (qg_X3_2 hx hb hts i_X3 hown hK hP15 0 rfl k_2 fr_p0_2 dX3_ask_186 (lv_iload hx hb dX3_ask_189 (lv_at hl 0 rfl) (lv_iconst (v := 1) hx hb dX3_ask_191 (by decide) (lv_isub hx hb dX3_ask_192 (lv_topi fun v_32 ev_32 => ?_))))))
                      have tv_32 := q_sub ev_32 (by omega) (by omega)
                      refine q_ild hx hb hK hP15 3 2 rfl rfl (q_in (by omega) (by omega)) dX3_ask_193 (fun v_33 ev_33 => ?_)
                      refine lv_aload_n hx hb dX3_ask_194 rfl (lv_at hl 4 rfl) (qg_X3_2 hx hb hts i_X3 hown hK hP15 0 rfl k_2 fr_p0_2 dX3_ask_195 (lv_iload hx hb dX3_ask_198 (lv_at hl 0 rfl) (q_ild hx hb hK hP15 3 2 rfl rfl (q_in (by omega) (by omega)) dX3_ask_200 (fun v_34 ev_34 => ?_))))
                      refine q_cSi (As := [.int v_11, .int v_33, .int v_34]) (rest := [.int v_31, .ref p0_stack]) q_w0 trivial hK hP15 hDa za_t_ask hS15 hA [] [] (by decide +kernel) ⟨hx, hb, hml, hown, hts⟩ (t_join l dC dI H15.size v_11 v_33 v_34) rfl rfl (va_cwS 3 hts (p1_gS m_11 m_12 m_13 g_t_join gz_t_join) rfl rfl rfl (by decide +kernel) ⟨by decide, by decide⟩) zm_t_join rfl hl.1 rfl (Nat.le_of_ble_eq_true rfl) dX3_ask_201 ⟨by decide, by decide⟩ (fun r_35 H36 lo36 hG36 hS36 => ?_)
                      have hQ36 := hG36
                      have hP36 : va_P (dC, dI) vwCl (zW_t_ask p0 f_p0 p0_behind c_p0_behind b_p0_behind p0_code c_p0_code b_p0_code p0_stack c_p0_stack bz_p0_stack p2 f_p2 p2_ends c_p2_ends b_p2_ends p2_tight c_p2_tight b_p2_tight) H36 := hQ36
                      clear hQ36 hP15 hS15
                      refine q_ist hx hb hK hP36 hDa za_t_ask hS36 3 2 rfl rfl (q_in (by omega) (by omega)) dX3_ask_204 (fun H37 lo37 g37 eg37 (hP37 : va_P (dC, dI) vwCl (zW_t_ask p0 f_p0 p0_behind c_p0_behind b_p0_behind p0_code c_p0_code b_p0_code p0_stack c_p0_stack g37 p2 f_p2 p2_ends c_p2_ends b_p2_ends p2_tight c_p2_tight b_p2_tight) H37) hS37 => ?_)
                      clear hP36 hS36
                      obtain ⟨v_38, ev_38⟩ : ∃ y : Int32, y = att + 1 := ⟨_, rfl⟩
                      have tv_38 := q_add ev_38 (by omega) (by omega)
                      refine lv_iinc (v := v_38) (lv' := [(5, .int v_38), (4, .int v_30), (7, .int 0), (6, .int v_11), (0, .ref p0), (1, .int a1), (2, .ref p2), (3, .int a3)]) hx hb dX3_ask_205 hl (k := 3) rfl (by rw [ev_38]; rfl) (by decide) rfl (fun ls hl => ?_)
                      refine lv_goto (tgt := 35) hx hb dX3_ask_208 (by decide) ?_
                      exact ih35 (fu35 - 1) (by omega) v_30 v_38 g37 _ _ _ (by omega) (by omega) (by omega) hP37 hS37 (lv_sub hl [0, 1, 4, 5, 6, 7] rfl)
                  · have tc_27 := q_eqN c_27
                    refine lv_iload hx hb dX3_ask_132 (lv_at hl 3 rfl) ?_
                    refine lv_if_le (tgt := 205) hx hb dX3_ask_134 (by decide) (fun c_39 => ?_) (fun c_39 => ?_)
                    · have tc_39 := q_le c_39
                      obtain ⟨v_40, ev_40⟩ : ∃ y : Int32, y = att + 1 := ⟨_, rfl⟩
                      have tv_40 := q_add ev_40 (by omega) (by omega)
                      refine lv_iinc (v := v_40) (lv' := [(5, .int v_40), (7, .int 0), (6, .int v_11), (4, .int top), (0, .ref p0), (1, .int a1), (2, .ref p2), (3, .int a3)]) hx hb dX3_ask_205 hl (k := 2) rfl (by rw [ev_40]; rfl) (by decide) rfl (fun ls hl => ?_)
                      refine lv_goto (tgt := 35) hx hb dX3_ask_208 (by decide) ?_
                      exact ih35 (fu35 - 1) (by omega) top v_40 bz_p0_stack _ _ _ (by omega) (by omega) (by omega) hP15 hS15 (lv_sub hl [0, 3, 4, 5, 6, 7] rfl)
                    · have tc_39 := q_gtN c_39
                      refine lv_aload_n hx hb dX3_ask_137 rfl (lv_at hl 4 rfl) (qg_X3_2 hx hb hts i_X3 hown hK hP15 0 rfl k_2 fr_p0_2 dX3_ask_138 (lv_iload hx hb dX3_ask_141 (lv_at hl 3 rfl) (lv_iconst (v := 1) hx hb dX3_ask_143 (by decide) (lv_isub hx hb dX3_ask_144 (lv_topi fun v_41 ev_41 => ?_)))))
                      have tv_41 := q_sub ev_41 (by omega) (by omega)
                      refine lv_aload_n hx hb dX3_ask_145 rfl (lv_at hl 4 rfl) (qg_X3_2 hx hb hts i_X3 hown hK hP15 0 rfl k_2 fr_p0_2 dX3_ask_146 (lv_iload hx hb dX3_ask_149 (lv_at hl 3 rfl) (lv_iconst (v := 1) hx hb dX3_ask_151 (by decide) (lv_isub hx hb dX3_ask_152 (lv_topi fun v_42 ev_42 => ?_)))))
                      have tv_42 := q_sub ev_42 (by omega) (by omega)
                      refine q_ild hx hb hK hP15 3 2 rfl rfl (q_in (by omega) (by omega)) dX3_ask_153 (fun v_43 ev_43 => ?_)
                      refine lv_if_ne (tgt := 161) hx hb dX3_ask_154 (by decide) (fun c_44 => ?_) (fun c_44 => ?_)
                      · have tc_44 := q_ne c_44
                        refine lv_iconst (v := 0) hx hb dX3_ask_161 (by decide) (q_ist hx hb hK hP15 hDa za_t_ask hS15 3 2 rfl rfl (q_in (by omega) (by omega)) dX3_ask_162 (fun H45 lo45 g45 eg45 (hP45 : va_P (dC, dI) vwCl (zW_t_ask p0 f_p0 p0_behind c_p0_behind b_p0_behind p0_code c_p0_code b_p0_code p0_stack c_p0_stack g45 p2 f_p2 p2_ends c_p2_ends b_p2_ends p2_tight c_p2_tight b_p2_tight) H45) hS45 => ?_))
                        clear hP15 hS15
                        refine lv_goto (tgt := 205) hx hb dX3_ask_163 (by decide) ?_
                        obtain ⟨v_46, ev_46⟩ : ∃ y : Int32, y = att + 1 := ⟨_, rfl⟩
                        have tv_46 := q_add ev_46 (by omega) (by omega)
                        refine lv_iinc (v := v_46) (lv' := [(5, .int v_46), (7, .int 0), (6, .int v_11), (4, .int top), (0, .ref p0), (1, .int a1), (2, .ref p2), (3, .int a3)]) hx hb dX3_ask_205 hl (k := 2) rfl (by rw [ev_46]; rfl) (by decide) rfl (fun ls hl => ?_)
                        refine lv_goto (tgt := 35) hx hb dX3_ask_208 (by decide) ?_
                        exact ih35 (fu35 - 1) (by omega) top v_46 g45 _ _ _ (by omega) (by omega) (by omega) hP45 hS45 (lv_sub hl [0, 3, 4, 5, 6, 7] rfl)
                      · have tc_44 := q_eqN c_44
                        refine lv_iconst (v := 1) hx hb dX3_ask_157 (by decide) (lv_goto (tgt := 162) hx hb dX3_ask_158 (by decide) (q_ist hx hb hK hP15 hDa za_t_ask hS15 3 2 rfl rfl (q_in (by omega) (by omega)) dX3_ask_162 (fun H47 lo47 g47 eg47 (hP47 : va_P (dC, dI) vwCl (zW_t_ask p0 f_p0 p0_behind c_p0_behind b_p0_behind p0_code c_p0_code b_p0_code p0_stack c_p0_stack g47 p2 f_p2 p2_ends c_p2_ends b_p2_ends p2_tight c_p2_tight b_p2_tight) H47) hS47 => ?_)))
                        clear hP15 hS15
                        refine lv_goto (tgt := 205) hx hb dX3_ask_163 (by decide) ?_
                        obtain ⟨v_48, ev_48⟩ : ∃ y : Int32, y = att + 1 := ⟨_, rfl⟩
                        have tv_48 := q_add ev_48 (by omega) (by omega)
                        refine lv_iinc (v := v_48) (lv' := [(5, .int v_48), (7, .int 0), (6, .int v_11), (4, .int top), (0, .ref p0), (1, .int a1), (2, .ref p2), (3, .int a3)]) hx hb dX3_ask_205 hl (k := 2) rfl (by rw [ev_48]; rfl) (by decide) rfl (fun ls hl => ?_)
                        refine lv_goto (tgt := 35) hx hb dX3_ask_208 (by decide) ?_
                        exact ih35 (fu35 - 1) (by omega) top v_48 g47 _ _ _ (by omega) (by omega) (by omega) hP47 hS47 (lv_sub hl [0, 3, 4, 5, 6, 7] rfl)
              · have tc_12 := q_geN c_12
                refine lv_iconst (v := 1) hx hb dX3_ask_63 (by decide) (lv_goto (tgt := 68) hx hb dX3_ask_64 (by decide) (lv_istore (lv' := [(7, .int 1), (6, .int v_11), (5, .int att), (4, .int top), (0, .ref p0), (1, .int a1), (2, .ref p2), (3, .int a3)]) hx hb dX3_ask_68 hl (by decide) rfl (fun ls hl => ?_)))
                refine lv_iload hx hb dX3_ask_70 (lv_at hl 0 rfl) (lv_if_ne (tgt := 83) hx hb dX3_ask_72 (by decide) (fun c_49 => ?_) (fun c_49 => absurd c_49 (by decide)))
                refine lv_iload hx hb dX3_ask_83 (lv_at hl 3 rfl) (lv_bipush (v := 60) hx hb dX3_ask_85 (by decide) ?_)
                refine lv_icmp_ge (tgt := 205) hx hb dX3_ask_87 (by decide) (fun c_50 => ?_) (fun c_50 => ?_)
                · have tc_50 := q_ge c_50
                  obtain ⟨v_51, ev_51⟩ : ∃ y : Int32, y = att + 1 := ⟨_, rfl⟩
                  have tv_51 := q_add ev_51 (by omega) (by omega)
                  refine lv_iinc (v := v_51) (lv' := [(5, .int v_51), (7, .int 1), (6, .int v_11), (4, .int top), (0, .ref p0), (1, .int a1), (2, .ref p2), (3, .int a3)]) hx hb dX3_ask_205 hl (k := 2) rfl (by rw [ev_51]; rfl) (by decide) rfl (fun ls hl => ?_)
                  refine lv_goto (tgt := 35) hx hb dX3_ask_208 (by decide) ?_
                  exact ih35 (fu35 - 1) (by omega) top v_51 bz_p0_stack _ _ _ (by omega) (by omega) (by omega) hP7 hS7 (lv_sub hl [0, 3, 4, 5, 6, 7] rfl)
                · have tc_50 := q_ltN c_50
                  refine lv_aload_n hx hb dX3_ask_90 rfl (lv_at hl 4 rfl) (qg_X3_2 hx hb hts i_X3 hown hK hP7 0 rfl k_2 fr_p0_2 dX3_ask_91 (lv_iload hx hb dX3_ask_94 (lv_at hl 3 rfl) (lv_iload hx hb dX3_ask_96 (lv_at hl 0 rfl) (lv_if_eq (tgt := 110) hx hb dX3_ask_98 (by decide) (fun c_52 => absurd c_52 (by decide)) (fun c_52 => ?_)))))
                  refine lv_iload hx hb dX3_ask_101 (lv_at hl 1 rfl) (lv_sipush (v := 1000) hx hb dX3_ask_103 (by decide) (lv_isub hx hb dX3_ask_106 (lv_topi fun v_53 ev_53 => ?_)))
                  have tv_53 := q_sub ev_53 (by have z0 := q_rng v_11; omega) (by have z0 := q_rng v_11; omega)
                  refine lv_goto (tgt := 117) hx hb dX3_ask_107 (by decide) (q_ist hx hb hK hP7 hDa za_t_ask hS7 3 2 rfl rfl (q_in (by omega) (by omega)) dX3_ask_117 (fun H54 lo54 g54 eg54 (hP54 : va_P (dC, dI) vwCl (zW_t_ask p0 f_p0 p0_behind c_p0_behind b_p0_behind p0_code c_p0_code b_p0_code p0_stack c_p0_stack g54 p2 f_p2 p2_ends c_p2_ends b_p2_ends p2_tight c_p2_tight b_p2_tight) H54) hS54 => ?_))
                  clear hP7 hS7
                  obtain ⟨v_55, ev_55⟩ : ∃ y : Int32, y = top + 1 := ⟨_, rfl⟩
                  have tv_55 := q_add ev_55 (by omega) (by omega)
                  refine lv_iinc (v := v_55) (lv' := [(4, .int v_55), (7, .int 1), (6, .int v_11), (5, .int att), (0, .ref p0), (1, .int a1), (2, .ref p2), (3, .int a3)]) hx hb dX3_ask_118 hl (k := 3) rfl (by rw [ev_55]; rfl) (by decide) rfl (fun ls hl => ?_)
                  refine lv_goto (tgt := 205) hx hb dX3_ask_121 (by decide) ?_
                  obtain ⟨v_56, ev_56⟩ : ∃ y : Int32, y = att + 1 := ⟨_, rfl⟩
                  have tv_56 := q_add ev_56 (by omega) (by omega)
                  refine lv_iinc (v := v_56) (lv' := [(5, .int v_56), (4, .int v_55), (7, .int 1), (6, .int v_11), (0, .ref p0), (1, .int a1), (2, .ref p2), (3, .int a3)]) hx hb dX3_ask_205 hl (k := 3) rfl (by rw [ev_56]; rfl) (by decide) rfl (fun ls hl => ?_)
                  refine lv_goto (tgt := 35) hx hb dX3_ask_208 (by decide) ?_
                  exact ih35 (fu35 - 1) (by omega) v_55 v_56 g54 _ _ _ (by omega) (by omega) (by omega) hP54 hS54 (lv_sub hl [0, 1, 4, 5, 6, 7] rfl)
        exact key35 600 0 v_6 b_p0_stack _ _ _ (by omega) (by omega) (by omega) hP hS (lv_sub hl [0, 1, 2, 3, 4, 5] rfl)
      · have tc_4 := q_eqN c_4
        refine lv_iconst (v := 0) hx hb dX3_ask_21 (by decide) (lv_goto (tgt := 33) hx hb dX3_ask_22 (by decide) (lv_istore (lv' := [(5, .int 0), (4, .int 0), (0, .ref p0), (1, .int a1), (2, .ref p2), (3, .int a3)]) hx hb dX3_ask_33 hl (by decide) rfl (fun ls hl => ?_)))
        have key35 : ∀ (fu35 : Nat) (top : Int32) (att : Int32) (bz_p0_stack : Nat → Int32) (H : Heap) (locs : List Loc) (ls : Array Slot) (hfu35 : 600 - att.toInt ≤ (fu35 : Int)) (ttop : (0) ≤ top.toInt ∧ top.toInt ≤ 60) (tatt : (0) ≤ att.toInt ∧ att.toInt ≤ 600), va_P (dC, dI) vwCl (zW_t_ask p0 f_p0 p0_behind c_p0_behind b_p0_behind p0_code c_p0_code b_p0_code p0_stack c_p0_stack bz_p0_stack p2 f_p2 p2_ends c_p2_ends b_p2_ends p2_tight c_p2_tight b_p2_tight) H → va_S A s.heap H locs → lv_has ls 8 [(5, .int att), (4, .int top), (0, .ref p0), (1, .int a1), (2, .ref p2), (3, .int a3)] → W p l e (headSpec zw_t_ask { frames := 1, cells := 0, slots := 0, locals := 22 }).room s m ([.ref p0, .int a1, .ref p2, .int a3] : List Value).toArray below meth c H locs 0 0 (MQ below (q_Qi (dC, dI) (zG_t_ask p0 f_p0 p0_behind c_p0_behind b_p0_behind p0_code c_p0_code b_p0_code p0_stack c_p0_stack b_p0_stack p2 f_p2 p2_ends c_p2_ends b_p2_ends p2_tight c_p2_tight b_p2_tight a1 a3) (zA_t_ask p0 p0_behind p0_code p0_stack p2 p2_ends p2_tight) A) ([.ref p0, .int a1, .ref p2, .int a3] : List Value).toArray s 0 0 A) (F0 m 35 ls []) := by
          intro fu35
          induction fu35 using Nat.strongRecOn with
          | ind fu35 ih35 =>
            intro top att bz_p0_stack H57 lo57 ls hfu35 ttop tatt hP57 hS57 hl
            refine lv_iload hx hb dX3_ask_35 (lv_at hl 0 rfl) (lv_aload_n hx hb dX3_ask_37 rfl (lv_at hl 2 rfl) (qg_X3_1 hx hb hts i_X3 hown hK hP57 0 rfl k_1 fr_p0_1 dX3_ask_38 (lv_iload_n hx hb dX3_ask_41 rfl (lv_at hl 3 rfl) (q_ild hx hb hK hP57 1 0 rfl rfl (q_in (by omega) (by omega)) dX3_ask_42 (fun v_58 ev_58 => ?_)))))
            have tv_58 := q_rd' hr_p0_behind (q_in (by omega) (by omega)) ev_58
            refine lv_icmp_ge (tgt := 211) hx hb dX3_ask_43 (by decide) (fun c_59 => ?_) (fun c_59 => ?_)
            · have tc_59 := q_ge c_59
              refine lv_aload_n hx hb dX3_ask_211 rfl (lv_at hl 2 rfl) (qg_X3_2 hx hb hts i_X3 hown hK hP57 0 rfl k_2 fr_p0_2 dX3_ask_212 (lv_iconst (v := 0) hx hb dX3_ask_215 (by decide) (q_ild hx hb hK hP57 3 2 rfl rfl (p1_in (i := 0) (n := 60) (by decide)) dX3_ask_216 (fun v_60 ev_60 => ?_))))
              exact q_iret hx hb hr hlocks hS57 dX3_ask_217 ⟨bz_p0_stack, hP57, za_t_ask⟩
            · have tc_59 := q_ltN c_59
              refine lv_aload_n hx hb dX3_ask_46 rfl (lv_at hl 2 rfl) (qg_X3_0 hx hb hts i_X3 hown hK hP57 0 rfl k_3 fr_p0_0 dX3_ask_47 (lv_iload hx hb dX3_ask_50 (lv_at hl 0 rfl) (q_ild hx hb hK hP57 2 1 rfl rfl (q_in (by omega) (by omega)) dX3_ask_52 (fun v_61 ev_61 => ?_))))
              refine lv_istore (lv' := [(6, .int v_61), (5, .int att), (4, .int top), (0, .ref p0), (1, .int a1), (2, .ref p2), (3, .int a3)]) hx hb dX3_ask_53 hl (by decide) rfl (fun ls hl => ?_)
              refine lv_iload hx hb dX3_ask_55 (lv_at hl 0 rfl) (lv_sipush (v := 1000) hx hb dX3_ask_57 (by decide) ?_)
              refine lv_icmp_lt (tgt := 67) hx hb dX3_ask_60 (by decide) (fun c_62 => ?_) (fun c_62 => ?_)
              · have tc_62 := q_lt c_62
                refine lv_iconst (v := 0) hx hb dX3_ask_67 (by decide) (lv_istore (lv' := [(7, .int 0), (6, .int v_61), (5, .int att), (4, .int top), (0, .ref p0), (1, .int a1), (2, .ref p2), (3, .int a3)]) hx hb dX3_ask_68 hl (by decide) rfl (fun ls hl => ?_))
                refine lv_iload hx hb dX3_ask_70 (lv_at hl 0 rfl) (lv_if_ne (tgt := 83) hx hb dX3_ask_72 (by decide) (fun c_63 => absurd c_63 (by decide)) (fun c_63 => ?_))
                refine lv_iload hx hb dX3_ask_75 (lv_at hl 1 rfl) ?_
                refine q_cSi (As := [.int v_61]) (rest := []) q_w0 trivial hK hP57 hDa za_t_ask hS57 hA [] [] (by decide +kernel) ⟨hx, hb, hml, hown, hts⟩ (t_isUnitWord l dC dI H57.size v_61) rfl rfl (va_cwS 1 hts (p1_gS m_4 m_5 m_6 g_t_isUnitWord gz_t_isUnitWord) rfl rfl rfl (by decide +kernel) ⟨by decide, by decide⟩) zm_t_isUnitWord rfl hl.1 rfl (Nat.le_of_ble_eq_true rfl) dX3_ask_77 ⟨by decide, by decide⟩ (fun r_64 H65 lo65 hG65 hS65 => ?_)
                obtain ⟨z_66, hQ65⟩ := hG65
                have hP65 : va_P (dC, dI) vwCl (zW_t_ask p0 f_p0 p0_behind c_p0_behind b_p0_behind p0_code c_p0_code b_p0_code p0_stack c_p0_stack bz_p0_stack p2 f_p2 p2_ends c_p2_ends b_p2_ends p2_tight c_p2_tight b_p2_tight) H65 := hQ65
                clear hQ65 hP57 hS57
                rcases z_66 with ⟨rfl, z_66⟩ | ⟨rfl, z_66⟩
                · refine lv_if_eq (tgt := 124) hx hb dX3_ask_80 (by decide) (fun c_67 => absurd c_67 (by decide)) (fun c_67 => ?_)
                  refine lv_iload hx hb dX3_ask_83 (lv_at hl 3 rfl) (lv_bipush (v := 60) hx hb dX3_ask_85 (by decide) ?_)
                  refine lv_icmp_ge (tgt := 205) hx hb dX3_ask_87 (by decide) (fun c_68 => ?_) (fun c_68 => ?_)
                  · have tc_68 := q_ge c_68
                    obtain ⟨v_69, ev_69⟩ : ∃ y : Int32, y = att + 1 := ⟨_, rfl⟩
                    have tv_69 := q_add ev_69 (by omega) (by omega)
                    refine lv_iinc (v := v_69) (lv' := [(5, .int v_69), (7, .int 0), (6, .int v_61), (4, .int top), (0, .ref p0), (1, .int a1), (2, .ref p2), (3, .int a3)]) hx hb dX3_ask_205 hl (k := 2) rfl (by rw [ev_69]; rfl) (by decide) rfl (fun ls hl => ?_)
                    refine lv_goto (tgt := 35) hx hb dX3_ask_208 (by decide) ?_
                    exact ih35 (fu35 - 1) (by omega) top v_69 bz_p0_stack _ _ _ (by omega) (by omega) (by omega) hP65 hS65 (lv_sub hl [0, 3, 4, 5, 6, 7] rfl)
                  · have tc_68 := q_ltN c_68
                    refine lv_aload_n hx hb dX3_ask_90 rfl (lv_at hl 4 rfl) (qg_X3_2 hx hb hts i_X3 hown hK hP65 0 rfl k_2 fr_p0_2 dX3_ask_91 (lv_iload hx hb dX3_ask_94 (lv_at hl 3 rfl) (lv_iload hx hb dX3_ask_96 (lv_at hl 0 rfl) (lv_if_eq (tgt := 110) hx hb dX3_ask_98 (by decide) (fun c_70 => ?_) (fun c_70 => absurd c_70 (by decide))))))
                    refine lv_aload_n hx hb dX3_ask_110 rfl (lv_at hl 6 rfl) (lv_iload hx hb dX3_ask_111 (lv_at hl 1 rfl) (lv_iload_n hx hb dX3_ask_113 rfl (lv_at hl 7 rfl) ?_))
                    refine q_cVi (As := [.int v_61, .int a3]) (rest := [.int top, .ref p0_stack]) q_w0 trivial hK hP65 hDa za_t_ask hS65 hA [4, 5, 6] [3, 4] (by decide +kernel) ⟨hx, hb, hml, hown, hts⟩ (t_tell l dC dI H65.size p2 f_p2 p2_ends c_p2_ends b_p2_ends p2_tight c_p2_tight b_p2_tight v_61 a3 ho_p2 fr_p2_0 fr_p2_1 ((by omega))) rfl rfl (cwV 2 hts (p1_gV m_7 m_8 m_9 m_10 g_t_tell gz_t_tell) rfl rfl rfl (by decide +kernel) ⟨by decide, by decide⟩) (va_recv hK hP65 (ci := 0) (q0 := 4) rfl rfl) zm_t_tell rfl hl.1 rfl (Nat.le_of_ble_eq_true rfl) dX3_ask_114 ⟨by decide, by decide⟩ (fun r_71 H72 lo72 hG72 hS72 => ?_)
                    have hQ72 := hG72
                    have hP72 : va_P (dC, dI) vwCl (zW_t_ask p0 f_p0 p0_behind c_p0_behind b_p0_behind p0_code c_p0_code b_p0_code p0_stack c_p0_stack bz_p0_stack p2 f_p2 p2_ends c_p2_ends b_p2_ends p2_tight c_p2_tight b_p2_tight) H72 := hQ72
                    clear hQ72 hP65 hS65
                    refine q_ist hx hb hK hP72 hDa za_t_ask hS72 3 2 rfl rfl (q_in (by omega) (by omega)) dX3_ask_117 (fun H73 lo73 g73 eg73 (hP73 : va_P (dC, dI) vwCl (zW_t_ask p0 f_p0 p0_behind c_p0_behind b_p0_behind p0_code c_p0_code b_p0_code p0_stack c_p0_stack g73 p2 f_p2 p2_ends c_p2_ends b_p2_ends p2_tight c_p2_tight b_p2_tight) H73) hS73 => ?_)
                    clear hP72 hS72
                    obtain ⟨v_74, ev_74⟩ : ∃ y : Int32, y = top + 1 := ⟨_, rfl⟩
                    have tv_74 := q_add ev_74 (by omega) (by omega)
                    refine lv_iinc (v := v_74) (lv' := [(4, .int v_74), (7, .int 0), (6, .int v_61), (5, .int att), (0, .ref p0), (1, .int a1), (2, .ref p2), (3, .int a3)]) hx hb dX3_ask_118 hl (k := 3) rfl (by rw [ev_74]; rfl) (by decide) rfl (fun ls hl => ?_)
                    refine lv_goto (tgt := 205) hx hb dX3_ask_121 (by decide) ?_
                    obtain ⟨v_75, ev_75⟩ : ∃ y : Int32, y = att + 1 := ⟨_, rfl⟩
                    have tv_75 := q_add ev_75 (by omega) (by omega)
                    refine lv_iinc (v := v_75) (lv' := [(5, .int v_75), (4, .int v_74), (7, .int 0), (6, .int v_61), (0, .ref p0), (1, .int a1), (2, .ref p2), (3, .int a3)]) hx hb dX3_ask_205 hl (k := 3) rfl (by rw [ev_75]; rfl) (by decide) rfl (fun ls hl => ?_)
                    refine lv_goto (tgt := 35) hx hb dX3_ask_208 (by decide) ?_
                    exact ih35 (fu35 - 1) (by omega) v_74 v_75 g73 _ _ _ (by omega) (by omega) (by omega) hP73 hS73 (lv_sub hl [0, 1, 4, 5, 6, 7] rfl)
                · refine lv_if_eq (tgt := 124) hx hb dX3_ask_80 (by decide) (fun c_76 => ?_) (fun c_76 => absurd c_76 (by decide))
                  refine lv_iload hx hb dX3_ask_124 (lv_at hl 1 rfl) (lv_sipush (v := 277) hx hb dX3_ask_126 (by decide) ?_)
                  refine lv_icmp_ne (tgt := 166) hx hb dX3_ask_129 (by decide) (fun c_77 => ?_) (fun c_77 => ?_)
                  · have tc_77 := q_ne c_77
                    refine lv_iload hx hb dX3_ask_166 (lv_at hl 3 rfl) (lv_iconst (v := 1) hx hb dX3_ask_168 (by decide) ?_)
                    refine lv_icmp_le (tgt := 205) hx hb dX3_ask_169 (by decide) (fun c_78 => ?_) (fun c_78 => ?_)
                    · have tc_78 := q_le c_78
                      obtain ⟨v_79, ev_79⟩ : ∃ y : Int32, y = att + 1 := ⟨_, rfl⟩
                      have tv_79 := q_add ev_79 (by omega) (by omega)
                      refine lv_iinc (v := v_79) (lv' := [(5, .int v_79), (7, .int 0), (6, .int v_61), (4, .int top), (0, .ref p0), (1, .int a1), (2, .ref p2), (3, .int a3)]) hx hb dX3_ask_205 hl (k := 2) rfl (by rw [ev_79]; rfl) (by decide) rfl (fun ls hl => ?_)
                      refine lv_goto (tgt := 35) hx hb dX3_ask_208 (by decide) ?_
                      exact ih35 (fu35 - 1) (by omega) top v_79 bz_p0_stack _ _ _ (by omega) (by omega) (by omega) hP65 hS65 (lv_sub hl [0, 3, 4, 5, 6, 7] rfl)
                    · have tc_78 := q_gtN c_78
                      obtain ⟨v_80, ev_80⟩ : ∃ y : Int32, y = top + (-1) := ⟨_, rfl⟩
                      have tv_80 := q_add ev_80 (by omega) (by omega)
                      refine lv_iinc (v := v_80) (lv' := [(4, .int v_80), (7, .int 0), (6, .int v_61), (5, .int att), (0, .ref p0), (1, .int a1), (2, .ref p2), (3, .int a3)]) hx hb dX3_ask_172 hl (k := 3) rfl (by rw [ev_80]; rfl) (by decide) rfl (fun ls hl => ?_)
                      refine lv_aload_n hx hb dX3_ask_175 rfl (lv_at hl 4 rfl) (qg_X3_2 hx hb hts i_X3 hown hK hP65 0 rfl k_2 fr_p0_2 dX3_ask_176 (lv_iload hx hb dX3_ask_179 (lv_at hl 0 rfl) (lv_iconst (v := 1) hx hb dX3_ask_181 (by decide) (lv_isub hx hb dX3_ask_182 (lv_topi fun v_81 ev_81 => ?_)))))
                      have tv_81 := q_sub ev_81 (by omega) (by omega)
                      refine lv_iload hx hb dX3_ask_183 (lv_at hl 2 rfl) (lv_aload_n hx hb dX3_ask_185 rfl (lv_at hl 4 rfl) (qg_X3_2 hx hb hts i_X3 hown hK hP65 0 rfl k_2 fr_p0_2 dX3_ask_186 (lv_iload hx hb dX3_ask_189 (lv_at hl 0 rfl) (lv_iconst (v := 1) hx hb dX3_ask_191 (by decide) (lv_isub hx hb dX3_ask_192 (lv_topi fun v_82 ev_82 => ?_))))))
                      have tv_82 := q_sub ev_82 (by omega) (by omega)
                      refine q_ild hx hb hK hP65 3 2 rfl rfl (q_in (by omega) (by omega)) dX3_ask_193 (fun v_83 ev_83 => ?_)
                      refine lv_aload_n hx hb dX3_ask_194 rfl (lv_at hl 4 rfl) (qg_X3_2 hx hb hts i_X3 hown hK hP65 0 rfl k_2 fr_p0_2 dX3_ask_195 (lv_iload hx hb dX3_ask_198 (lv_at hl 0 rfl) (q_ild hx hb hK hP65 3 2 rfl rfl (q_in (by omega) (by omega)) dX3_ask_200 (fun v_84 ev_84 => ?_))))
                      refine q_cSi (As := [.int v_61, .int v_83, .int v_84]) (rest := [.int v_81, .ref p0_stack]) q_w0 trivial hK hP65 hDa za_t_ask hS65 hA [] [] (by decide +kernel) ⟨hx, hb, hml, hown, hts⟩ (t_join l dC dI H65.size v_61 v_83 v_84) rfl rfl (va_cwS 3 hts (p1_gS m_11 m_12 m_13 g_t_join gz_t_join) rfl rfl rfl (by decide +kernel) ⟨by decide, by decide⟩) zm_t_join rfl hl.1 rfl (Nat.le_of_ble_eq_true rfl) dX3_ask_201 ⟨by decide, by decide⟩ (fun r_85 H86 lo86 hG86 hS86 => ?_)
                      have hQ86 := hG86
                      have hP86 : va_P (dC, dI) vwCl (zW_t_ask p0 f_p0 p0_behind c_p0_behind b_p0_behind p0_code c_p0_code b_p0_code p0_stack c_p0_stack bz_p0_stack p2 f_p2 p2_ends c_p2_ends b_p2_ends p2_tight c_p2_tight b_p2_tight) H86 := hQ86
                      clear hQ86 hP65 hS65
                      refine q_ist hx hb hK hP86 hDa za_t_ask hS86 3 2 rfl rfl (q_in (by omega) (by omega)) dX3_ask_204 (fun H87 lo87 g87 eg87 (hP87 : va_P (dC, dI) vwCl (zW_t_ask p0 f_p0 p0_behind c_p0_behind b_p0_behind p0_code c_p0_code b_p0_code p0_stack c_p0_stack g87 p2 f_p2 p2_ends c_p2_ends b_p2_ends p2_tight c_p2_tight b_p2_tight) H87) hS87 => ?_)
                      clear hP86 hS86
                      obtain ⟨v_88, ev_88⟩ : ∃ y : Int32, y = att + 1 := ⟨_, rfl⟩
                      have tv_88 := q_add ev_88 (by omega) (by omega)
                      refine lv_iinc (v := v_88) (lv' := [(5, .int v_88), (4, .int v_80), (7, .int 0), (6, .int v_61), (0, .ref p0), (1, .int a1), (2, .ref p2), (3, .int a3)]) hx hb dX3_ask_205 hl (k := 3) rfl (by rw [ev_88]; rfl) (by decide) rfl (fun ls hl => ?_)
                      refine lv_goto (tgt := 35) hx hb dX3_ask_208 (by decide) ?_
                      exact ih35 (fu35 - 1) (by omega) v_80 v_88 g87 _ _ _ (by omega) (by omega) (by omega) hP87 hS87 (lv_sub hl [0, 1, 4, 5, 6, 7] rfl)
                  · have tc_77 := q_eqN c_77
                    refine lv_iload hx hb dX3_ask_132 (lv_at hl 3 rfl) ?_
                    refine lv_if_le (tgt := 205) hx hb dX3_ask_134 (by decide) (fun c_89 => ?_) (fun c_89 => ?_)
                    · have tc_89 := q_le c_89
                      obtain ⟨v_90, ev_90⟩ : ∃ y : Int32, y = att + 1 := ⟨_, rfl⟩
                      have tv_90 := q_add ev_90 (by omega) (by omega)
                      refine lv_iinc (v := v_90) (lv' := [(5, .int v_90), (7, .int 0), (6, .int v_61), (4, .int top), (0, .ref p0), (1, .int a1), (2, .ref p2), (3, .int a3)]) hx hb dX3_ask_205 hl (k := 2) rfl (by rw [ev_90]; rfl) (by decide) rfl (fun ls hl => ?_)
                      refine lv_goto (tgt := 35) hx hb dX3_ask_208 (by decide) ?_
                      exact ih35 (fu35 - 1) (by omega) top v_90 bz_p0_stack _ _ _ (by omega) (by omega) (by omega) hP65 hS65 (lv_sub hl [0, 3, 4, 5, 6, 7] rfl)
                    · have tc_89 := q_gtN c_89
                      refine lv_aload_n hx hb dX3_ask_137 rfl (lv_at hl 4 rfl) (qg_X3_2 hx hb hts i_X3 hown hK hP65 0 rfl k_2 fr_p0_2 dX3_ask_138 (lv_iload hx hb dX3_ask_141 (lv_at hl 3 rfl) (lv_iconst (v := 1) hx hb dX3_ask_143 (by decide) (lv_isub hx hb dX3_ask_144 (lv_topi fun v_91 ev_91 => ?_)))))
                      have tv_91 := q_sub ev_91 (by omega) (by omega)
                      refine lv_aload_n hx hb dX3_ask_145 rfl (lv_at hl 4 rfl) (qg_X3_2 hx hb hts i_X3 hown hK hP65 0 rfl k_2 fr_p0_2 dX3_ask_146 (lv_iload hx hb dX3_ask_149 (lv_at hl 3 rfl) (lv_iconst (v := 1) hx hb dX3_ask_151 (by decide) (lv_isub hx hb dX3_ask_152 (lv_topi fun v_92 ev_92 => ?_)))))
                      have tv_92 := q_sub ev_92 (by omega) (by omega)
                      refine q_ild hx hb hK hP65 3 2 rfl rfl (q_in (by omega) (by omega)) dX3_ask_153 (fun v_93 ev_93 => ?_)
                      refine lv_if_ne (tgt := 161) hx hb dX3_ask_154 (by decide) (fun c_94 => ?_) (fun c_94 => ?_)
                      · have tc_94 := q_ne c_94
                        refine lv_iconst (v := 0) hx hb dX3_ask_161 (by decide) (q_ist hx hb hK hP65 hDa za_t_ask hS65 3 2 rfl rfl (q_in (by omega) (by omega)) dX3_ask_162 (fun H95 lo95 g95 eg95 (hP95 : va_P (dC, dI) vwCl (zW_t_ask p0 f_p0 p0_behind c_p0_behind b_p0_behind p0_code c_p0_code b_p0_code p0_stack c_p0_stack g95 p2 f_p2 p2_ends c_p2_ends b_p2_ends p2_tight c_p2_tight b_p2_tight) H95) hS95 => ?_))
                        clear hP65 hS65
                        refine lv_goto (tgt := 205) hx hb dX3_ask_163 (by decide) ?_
                        obtain ⟨v_96, ev_96⟩ : ∃ y : Int32, y = att + 1 := ⟨_, rfl⟩
                        have tv_96 := q_add ev_96 (by omega) (by omega)
                        refine lv_iinc (v := v_96) (lv' := [(5, .int v_96), (7, .int 0), (6, .int v_61), (4, .int top), (0, .ref p0), (1, .int a1), (2, .ref p2), (3, .int a3)]) hx hb dX3_ask_205 hl (k := 2) rfl (by rw [ev_96]; rfl) (by decide) rfl (fun ls hl => ?_)
                        refine lv_goto (tgt := 35) hx hb dX3_ask_208 (by decide) ?_
                        exact ih35 (fu35 - 1) (by omega) top v_96 g95 _ _ _ (by omega) (by omega) (by omega) hP95 hS95 (lv_sub hl [0, 3, 4, 5, 6, 7] rfl)
                      · have tc_94 := q_eqN c_94
                        refine lv_iconst (v := 1) hx hb dX3_ask_157 (by decide) (lv_goto (tgt := 162) hx hb dX3_ask_158 (by decide) (q_ist hx hb hK hP65 hDa za_t_ask hS65 3 2 rfl rfl (q_in (by omega) (by omega)) dX3_ask_162 (fun H97 lo97 g97 eg97 (hP97 : va_P (dC, dI) vwCl (zW_t_ask p0 f_p0 p0_behind c_p0_behind b_p0_behind p0_code c_p0_code b_p0_code p0_stack c_p0_stack g97 p2 f_p2 p2_ends c_p2_ends b_p2_ends p2_tight c_p2_tight b_p2_tight) H97) hS97 => ?_)))
                        clear hP65 hS65
                        refine lv_goto (tgt := 205) hx hb dX3_ask_163 (by decide) ?_
                        obtain ⟨v_98, ev_98⟩ : ∃ y : Int32, y = att + 1 := ⟨_, rfl⟩
                        have tv_98 := q_add ev_98 (by omega) (by omega)
                        refine lv_iinc (v := v_98) (lv' := [(5, .int v_98), (7, .int 0), (6, .int v_61), (4, .int top), (0, .ref p0), (1, .int a1), (2, .ref p2), (3, .int a3)]) hx hb dX3_ask_205 hl (k := 2) rfl (by rw [ev_98]; rfl) (by decide) rfl (fun ls hl => ?_)
                        refine lv_goto (tgt := 35) hx hb dX3_ask_208 (by decide) ?_
                        exact ih35 (fu35 - 1) (by omega) top v_98 g97 _ _ _ (by omega) (by omega) (by omega) hP97 hS97 (lv_sub hl [0, 3, 4, 5, 6, 7] rfl)
              · have tc_62 := q_geN c_62
                refine lv_iconst (v := 1) hx hb dX3_ask_63 (by decide) (lv_goto (tgt := 68) hx hb dX3_ask_64 (by decide) (lv_istore (lv' := [(7, .int 1), (6, .int v_61), (5, .int att), (4, .int top), (0, .ref p0), (1, .int a1), (2, .ref p2), (3, .int a3)]) hx hb dX3_ask_68 hl (by decide) rfl (fun ls hl => ?_)))
                refine lv_iload hx hb dX3_ask_70 (lv_at hl 0 rfl) (lv_if_ne (tgt := 83) hx hb dX3_ask_72 (by decide) (fun c_99 => ?_) (fun c_99 => absurd c_99 (by decide)))
                refine lv_iload hx hb dX3_ask_83 (lv_at hl 3 rfl) (lv_bipush (v := 60) hx hb dX3_ask_85 (by decide) ?_)
                refine lv_icmp_ge (tgt := 205) hx hb dX3_ask_87 (by decide) (fun c_100 => ?_) (fun c_100 => ?_)
                · have tc_100 := q_ge c_100
                  obtain ⟨v_101, ev_101⟩ : ∃ y : Int32, y = att + 1 := ⟨_, rfl⟩
                  have tv_101 := q_add ev_101 (by omega) (by omega)
                  refine lv_iinc (v := v_101) (lv' := [(5, .int v_101), (7, .int 1), (6, .int v_61), (4, .int top), (0, .ref p0), (1, .int a1), (2, .ref p2), (3, .int a3)]) hx hb dX3_ask_205 hl (k := 2) rfl (by rw [ev_101]; rfl) (by decide) rfl (fun ls hl => ?_)
                  refine lv_goto (tgt := 35) hx hb dX3_ask_208 (by decide) ?_
                  exact ih35 (fu35 - 1) (by omega) top v_101 bz_p0_stack _ _ _ (by omega) (by omega) (by omega) hP57 hS57 (lv_sub hl [0, 3, 4, 5, 6, 7] rfl)
                · have tc_100 := q_ltN c_100
                  refine lv_aload_n hx hb dX3_ask_90 rfl (lv_at hl 4 rfl) (qg_X3_2 hx hb hts i_X3 hown hK hP57 0 rfl k_2 fr_p0_2 dX3_ask_91 (lv_iload hx hb dX3_ask_94 (lv_at hl 3 rfl) (lv_iload hx hb dX3_ask_96 (lv_at hl 0 rfl) (lv_if_eq (tgt := 110) hx hb dX3_ask_98 (by decide) (fun c_102 => absurd c_102 (by decide)) (fun c_102 => ?_)))))
                  refine lv_iload hx hb dX3_ask_101 (lv_at hl 1 rfl) (lv_sipush (v := 1000) hx hb dX3_ask_103 (by decide) (lv_isub hx hb dX3_ask_106 (lv_topi fun v_103 ev_103 => ?_)))
                  have tv_103 := q_sub ev_103 (by have z0 := q_rng v_61; omega) (by have z0 := q_rng v_61; omega)
                  refine lv_goto (tgt := 117) hx hb dX3_ask_107 (by decide) (q_ist hx hb hK hP57 hDa za_t_ask hS57 3 2 rfl rfl (q_in (by omega) (by omega)) dX3_ask_117 (fun H104 lo104 g104 eg104 (hP104 : va_P (dC, dI) vwCl (zW_t_ask p0 f_p0 p0_behind c_p0_behind b_p0_behind p0_code c_p0_code b_p0_code p0_stack c_p0_stack g104 p2 f_p2 p2_ends c_p2_ends b_p2_ends p2_tight c_p2_tight b_p2_tight) H104) hS104 => ?_))
                  clear hP57 hS57
                  obtain ⟨v_105, ev_105⟩ : ∃ y : Int32, y = top + 1 := ⟨_, rfl⟩
                  have tv_105 := q_add ev_105 (by omega) (by omega)
                  refine lv_iinc (v := v_105) (lv' := [(4, .int v_105), (7, .int 1), (6, .int v_61), (5, .int att), (0, .ref p0), (1, .int a1), (2, .ref p2), (3, .int a3)]) hx hb dX3_ask_118 hl (k := 3) rfl (by rw [ev_105]; rfl) (by decide) rfl (fun ls hl => ?_)
                  refine lv_goto (tgt := 205) hx hb dX3_ask_121 (by decide) ?_
                  obtain ⟨v_106, ev_106⟩ : ∃ y : Int32, y = att + 1 := ⟨_, rfl⟩
                  have tv_106 := q_add ev_106 (by omega) (by omega)
                  refine lv_iinc (v := v_106) (lv' := [(5, .int v_106), (4, .int v_105), (7, .int 1), (6, .int v_61), (0, .ref p0), (1, .int a1), (2, .ref p2), (3, .int a3)]) hx hb dX3_ask_205 hl (k := 3) rfl (by rw [ev_106]; rfl) (by decide) rfl (fun ls hl => ?_)
                  refine lv_goto (tgt := 35) hx hb dX3_ask_208 (by decide) ?_
                  exact ih35 (fu35 - 1) (by omega) v_105 v_106 g104 _ _ _ (by omega) (by omega) (by omega) hP104 hS104 (lv_sub hl [0, 1, 4, 5, 6, 7] rfl)
        exact key35 600 0 0 b_p0_stack _ _ _ (by omega) (by omega) (by omega) hP hS (lv_sub hl [0, 1, 2, 3, 4, 5] rfl)
    · have tc_3 := q_geN c_3
      refine lv_iconst (v := 0) hx hb dX3_ask_12 (by decide) ?_
      exact q_iret hx hb hr hlocks hS dX3_ask_13 ⟨b_p0_stack, hP, za_t_ask⟩
def zo_t_slipOf : List Cond := [.code yX0_slipOf cX0_slipOf 6 (some .int), .constantLong RX0 91 (9), .constantLong RX0 93 (10), .fieldLink RX0 11 "BowWalk$Bow" "tight" "[I", .methodLink RX0 95 Lib.MathLoose.min_long.x, .static Lib.MathLoose.min_long.x, .initialized "java/lang/Math", .code Lib.MathLoose.min_long.x Lib.MathLoose.min_long.code 4 (some .long)]
def zw_t_slipOf : List Cond := zo_t_slipOf ++ (wsX00 ++ [])
theorem gz_t_slipOf : zw_t_slipOf.all goodWord = true := p1_ga (by decide +kernel) (p1_ga gk_X0 p1_g0)
theorem iz_t_slipOf : ∀ w ∈ zw_t_slipOf, w ∈ lw_tbl := p1_ia (p1_all [788, 789, 790, 350, 791, 792, 117, 793] (by decide +kernel)) (p1_ia ik_X0 p1_i0)
def zW_t_slipOf (p0 : Nat) (f_p0 : List Value) (p0_tight : Nat) (c_p0_tight : ClassId) (b_p0_tight : Nat → Int32) : va_W := [(p0, .inr (0, f_p0)), (p0_tight, .inl (c_p0_tight, 12, .inl b_p0_tight))]
def zT_t_slipOf (c_p0_tight : ClassId) : List (ClassId × FieldType) := [(c_p0_tight, .int)]
def zA_t_slipOf (p0 : Nat) (p0_tight : Nat) : List Nat := [p0, p0_tight]
theorem za_t_slipOf {p0 : Nat} {f_p0 : List Value} {p0_tight : Nat} {c_p0_tight : ClassId} {b_p0_tight : Nat → Int32} : (zW_t_slipOf p0 f_p0 p0_tight c_p0_tight b_p0_tight).map Prod.fst = (zA_t_slipOf p0 p0_tight) := rfl
def zG_t_slipOf (p0 : Nat) (f_p0 : List Value) (p0_tight : Nat) (c_p0_tight : ClassId) (b_p0_tight : Nat → Int32) (a1 : Int32) (a2 : Int32) (a3 : Int32) (r : Int32) (X : va_W → Prop) : Prop := X (zW_t_slipOf p0 f_p0 p0_tight c_p0_tight b_p0_tight)
theorem zm_t_slipOf {p0 : Nat} {f_p0 : List Value} {p0_tight : Nat} {c_p0_tight : ClassId} {b_p0_tight : Nat → Int32} {a1 : Int32} {a2 : Int32} {a3 : Int32} : ∀ (r : Int32), ∀ X Y : va_W → Prop, (∀ w, X w → Y w) → zG_t_slipOf p0 f_p0 p0_tight c_p0_tight b_p0_tight a1 a2 a3 r X → zG_t_slipOf p0 f_p0 p0_tight c_p0_tight b_p0_tight a1 a2 a3 r Y := fun r X Y h h1 => h _ h1
set_option maxHeartbeats 4000000 in
set_option maxRecDepth 100000 in
theorem t_slipOf (l : Launch) (dC : Nat → ClassId) (dI : Nat → Nat → Nat) (sz : Nat) (p0 : Nat) (f_p0 : List Value) (p0_tight : Nat) (c_p0_tight : ClassId) (b_p0_tight : Nat → Int32) (a1 : Int32) (a2 : Int32) (a3 : Int32) (ho_p0 : OKX0 f_p0) (fr_p0_0 : q_rf f_p0 0 p0_tight) (ta1 : (0) ≤ a1.toInt ∧ a1.toInt ≤ 11) : Met l yX0_slipOf zw_t_slipOf ({ frames := 1, cells := 0, slots := 0, locals := 24 }) (va_Pc [.ref p0, .int a1, .int a2, .int a3] (q_pre (dC, dI) (zW_t_slipOf p0 f_p0 p0_tight c_p0_tight b_p0_tight) (zT_t_slipOf c_p0_tight) q_E0 sz)) (q_Qi (dC, dI) (zG_t_slipOf p0 f_p0 p0_tight c_p0_tight b_p0_tight a1 a2 a3) (zA_t_slipOf p0 p0_tight) (va_A (zW_t_slipOf p0 f_p0 p0_tight c_p0_tight b_p0_tight) sz)) 0 0 (va_A (zW_t_slipOf p0 f_p0 p0_tight c_p0_tight b_p0_tight) sz) := by
  refine Met.ofW (cc := cX0_slipOf) (maxL := 6) (ret := (some .int)) (by decide) rfl ?_
  intro p e s m args below meth c s₁ B hml hv
  obtain ⟨rfl, hsz, hP, hK, hD0, hE⟩ := hv
  have hx := B.exec
  have hb := B.bytes
  have hr := B.returns
  have hts := atoms_spec (ws := zw_t_slipOf) B.pre
  have hown : s.vm.findClass RX0 = some m.cls := findClass_of_methodNamed B.named
  have hlocks := B.notSynchronized
  subst hsz
  have hD := hD0.self (sz := s.heap.size)
  generalize hAe : va_A (zW_t_slipOf p0 f_p0 p0_tight c_p0_tight b_p0_tight) s.heap.size = A at hD hE ⊢
  have hA : ∀ q : Nat, s.heap.size ≤ q → A q := fun q h => by rw [← hAe]; exact Or.inr h
  have hDa : q_DA A (zA_t_slipOf p0 p0_tight) := q_DA.mk hD za_t_slipOf
  clear hAe hD0 hD
  have hS : va_S A s.heap s.heap [] := va_S.rf
  have m_0 : (.constantLong RX0 91 (9) : Cond) ∈ zw_t_slipOf := List.mem_append_left _ (List.mem_of_getElem? (i := 1) rfl)
  have k_0 := hts _ m_0
  have m_1 : (.constantLong RX0 93 (10) : Cond) ∈ zw_t_slipOf := List.mem_append_left _ (List.mem_of_getElem? (i := 2) rfl)
  have k_1 := hts _ m_1
  have m_2 : (.fieldLink RX0 11 "BowWalk$Bow" "tight" "[I" : Cond) ∈ zw_t_slipOf := List.mem_append_left _ (List.mem_of_getElem? (i := 3) rfl)
  have k_2 := hts _ m_2
  have m_3 : (.methodLink RX0 95 Lib.MathLoose.min_long.x : Cond) ∈ zw_t_slipOf := List.mem_append_left _ (List.mem_of_getElem? (i := 4) rfl)
  have k_3 := hts _ m_3
  have m_4 : (.static Lib.MathLoose.min_long.x : Cond) ∈ zw_t_slipOf := List.mem_append_left _ (List.mem_of_getElem? (i := 5) rfl)
  have k_4 := hts _ m_4
  have m_5 : (.initialized "java/lang/Math" : Cond) ∈ zw_t_slipOf := List.mem_append_left _ (List.mem_of_getElem? (i := 6) rfl)
  have k_5 := hts _ m_5
  have m_6 : (.code Lib.MathLoose.min_long.x Lib.MathLoose.min_long.code 4 (some .long) : Cond) ∈ zw_t_slipOf := List.mem_append_left _ (List.mem_of_getElem? (i := 7) rfl)
  have k_6 := hts _ m_6
  have i_X0 : ∀ w ∈ u_ws RX0 TX0 15, w ∈ zw_t_slipOf := fun w h => List.mem_append_right _ (List.mem_append_left _ h)
  have lt_0 : (0 : Int32).toInt = 0 := by decide
  have hl := lv_entry ([.ref p0, .int a1, .int a2, .int a3]) (n := 6) (Nat.le_of_ble_eq_true rfl)
  rw [lg_entry_eq]
  generalize (lg_sl ([.ref p0, .int a1, .int a2, .int a3]) ++ List.replicate (6 - (lg_sl ([.ref p0, .int a1, .int a2, .int a3])).length) Slot.unset).toArray = ls at hl ⊢
  have hl : lv_has ls 6 [(0, .ref p0), (1, .int a1), (2, .int a2), (3, .int a3)] := hl
  refine lv_iload_n hx hb dX0_slipOf_0 rfl (lv_at hl 2 rfl) (lv_iload_n hx hb dX0_slipOf_1 rfl (lv_at hl 3 rfl) ?_)
  refine lv_icmp_gt (tgt := 7) hx hb dX0_slipOf_2 (by decide) (fun c_1 => ?_) (fun c_1 => ?_)
  · have tc_1 := q_gt c_1
    refine lv_iload_n hx hb dX0_slipOf_7 rfl (lv_at hl 2 rfl) (lv_i2l hx hb dX0_slipOf_8 rfl (lv_topl fun w_2 ew_2 => lv_iload_n hx hb dX0_slipOf_9 rfl (lv_at hl 3 rfl) (lv_i2l hx hb dX0_slipOf_10 rfl (lv_topl fun w_3 ew_3 => lv_lsub hx hb dX0_slipOf_11 (lv_topl fun w_4 ew_4 => lv_lstore (lv' := [(4, .long w_4), (0, .ref p0), (1, .int a1), (2, .int a2), (3, .int a3)]) hx hb dX0_slipOf_12 hl (by decide) rfl (fun ls hl => ?_))))))
    refine lv_lload hx hb dX0_slipOf_14 (lv_at hl 0 rfl) (lv_ldc2 (v := 9) hx hb hown k_0 dX0_slipOf_16 (lv_ladd hx hb dX0_slipOf_19 (lv_topl fun w_5 ew_5 => lv_ldc2 (v := 10) hx hb hown k_1 dX0_slipOf_20 (lv_ldiv hx hb dX0_slipOf_23 (by decide) (lv_topl fun w_6 ew_6 => lv_aload_n hx hb dX0_slipOf_24 rfl (lv_at hl 1 rfl) (qg_X0_0 hx hb hts i_X0 hown hK hP 0 rfl k_2 fr_p0_0 dX0_slipOf_25 (lv_iload_n hx hb dX0_slipOf_28 rfl (lv_at hl 2 rfl) ?_)))))))
    refine q_ild hx hb hK hP 1 0 rfl rfl (q_in (by omega) (by omega)) dX0_slipOf_29 (fun v_7 ev_7 => ?_)
    refine lv_i2l hx hb dX0_slipOf_30 rfl (lv_topl fun w_8 ew_8 => va_mmin_long hx hb (by rw [hml]; exact hl.1.symm) hown k_3 k_4 k_5 k_6 (Nat.le_of_ble_eq_true rfl) (Nat.le_of_ble_eq_true rfl) (Nat.le_of_ble_eq_true rfl) (Nat.le_of_ble_eq_true rfl) dX0_slipOf_31 (lv_topl fun w_9 ew_9 => ?_))
    refine lv_l2i hx hb dX0_slipOf_34 rfl (lv_topi fun v_10 ev_10 => ?_)
    exact q_iret hx hb hr hlocks hS dX0_slipOf_35 ⟨hP, za_t_slipOf⟩
  · have tc_1 := q_leN c_1
    refine lv_iconst (v := 0) hx hb dX0_slipOf_5 (by decide) ?_
    exact q_iret hx hb hr hlocks hS dX0_slipOf_6 ⟨hP, za_t_slipOf⟩
def zo_t_slip : List Cond := [.code yX0_slip cX0_slip 8 (some .int), .fieldLink RX0 24 "BowWalk$Bow" "left" "I", .fieldLink RX0 30 "BowWalk$Bow" "slipped" "I", .fieldLink RX0 11 "BowWalk$Bow" "tight" "[I", .methodLink RX0 77 yX3_ask, .instanceMethod yX3_ask, .selects RX3 yX3_ask yX3_ask, .initialized RX3, .methodLink RX0 87 yX0_slipOf, .instanceMethod yX0_slipOf, .selects RX0 yX0_slipOf yX0_slipOf, .initialized RX0, .fieldLink RX0 17 "BowWalk$Bow" "ends" "[I", .fieldLink RX0 39 "BowWalk$Bow" "sides" "I"]
def zw_t_slip : List Cond := zo_t_slip ++ (zw_t_ask ++ (zw_t_slipOf ++ (wsX00 ++ [])))
theorem gz_t_slip : zw_t_slip.all goodWord = true := p1_ga (by decide +kernel) (p1_ga gz_t_ask (p1_ga gz_t_slipOf (p1_ga gk_X0 p1_g0)))
theorem iz_t_slip : ∀ w ∈ zw_t_slip, w ∈ lw_tbl := p1_ia (p1_all [784, 357, 362, 350, 769, 770, 771, 107, 785, 787, 27, 112, 352, 368] (by decide +kernel)) (p1_ia iz_t_ask (p1_ia iz_t_slipOf (p1_ia ik_X0 p1_i0)))
def zW_t_slip (p0 : Nat) (f_p0 : List Value) (p0_ends : Nat) (c_p0_ends : ClassId) (b_p0_ends : Nat → Int32) (p0_tight : Nat) (c_p0_tight : ClassId) (b_p0_tight : Nat → Int32) (p1 : Nat) (f_p1 : List Value) (p1_behind : Nat) (c_p1_behind : ClassId) (b_p1_behind : Nat → Int32) (p1_code : Nat) (c_p1_code : ClassId) (b_p1_code : Nat → Int32) (p1_stack : Nat) (c_p1_stack : ClassId) (b_p1_stack : Nat → Int32) : va_W := [(p0, .inr (0, f_p0)), (p0_ends, .inl (c_p0_ends, 2, .inl b_p0_ends)), (p0_tight, .inl (c_p0_tight, 12, .inl b_p0_tight)), (p1, .inr (3, f_p1)), (p1_behind, .inl (c_p1_behind, 6, .inl b_p1_behind)), (p1_code, .inl (c_p1_code, 600, .inl b_p1_code)), (p1_stack, .inl (c_p1_stack, 60, .inl b_p1_stack))]
def zT_t_slip (c_p0_ends : ClassId) (c_p0_tight : ClassId) (c_p1_behind : ClassId) (c_p1_code : ClassId) (c_p1_stack : ClassId) : List (ClassId × FieldType) := [(c_p0_ends, .int), (c_p0_tight, .int), (c_p1_behind, .int), (c_p1_code, .int), (c_p1_stack, .int)]
def zA_t_slip (p0 : Nat) (p0_ends : Nat) (p0_tight : Nat) (p1 : Nat) (p1_behind : Nat) (p1_code : Nat) (p1_stack : Nat) : List Nat := [p0, p0_ends, p0_tight, p1, p1_behind, p1_code, p1_stack]
theorem za_t_slip {p0 : Nat} {f_p0 : List Value} {p0_ends : Nat} {c_p0_ends : ClassId} {b_p0_ends : Nat → Int32} {p0_tight : Nat} {c_p0_tight : ClassId} {b_p0_tight : Nat → Int32} {p1 : Nat} {f_p1 : List Value} {p1_behind : Nat} {c_p1_behind : ClassId} {b_p1_behind : Nat → Int32} {p1_code : Nat} {c_p1_code : ClassId} {b_p1_code : Nat → Int32} {p1_stack : Nat} {c_p1_stack : ClassId} {b_p1_stack : Nat → Int32} : (zW_t_slip p0 f_p0 p0_ends c_p0_ends b_p0_ends p0_tight c_p0_tight b_p0_tight p1 f_p1 p1_behind c_p1_behind b_p1_behind p1_code c_p1_code b_p1_code p1_stack c_p1_stack b_p1_stack).map Prod.fst = (zA_t_slip p0 p0_ends p0_tight p1 p1_behind p1_code p1_stack) := rfl
def zG_t_slip (p0 : Nat) (f_p0 : List Value) (p0_ends : Nat) (c_p0_ends : ClassId) (b_p0_ends : Nat → Int32) (p0_tight : Nat) (c_p0_tight : ClassId) (b_p0_tight : Nat → Int32) (p1 : Nat) (f_p1 : List Value) (p1_behind : Nat) (c_p1_behind : ClassId) (b_p1_behind : Nat → Int32) (p1_code : Nat) (c_p1_code : ClassId) (b_p1_code : Nat → Int32) (p1_stack : Nat) (c_p1_stack : ClassId) (b_p1_stack : Nat → Int32) (a2 : Int32) (a3 : Int32) (r : Int32) (X : va_W → Prop) : Prop := ∃ (y_p0 : List Value) (y_p0_ends : Nat → Int32) (y_p0_tight : Nat → Int32) (y_p1_stack : Nat → Int32), OKX0 y_p0 ∧ q_fr [3, 5] f_p0 y_p0 ∧ X (zW_t_slip p0 y_p0 p0_ends c_p0_ends y_p0_ends p0_tight c_p0_tight y_p0_tight p1 f_p1 p1_behind c_p1_behind b_p1_behind p1_code c_p1_code b_p1_code p1_stack c_p1_stack y_p1_stack)
theorem zm_t_slip {p0 : Nat} {f_p0 : List Value} {p0_ends : Nat} {c_p0_ends : ClassId} {b_p0_ends : Nat → Int32} {p0_tight : Nat} {c_p0_tight : ClassId} {b_p0_tight : Nat → Int32} {p1 : Nat} {f_p1 : List Value} {p1_behind : Nat} {c_p1_behind : ClassId} {b_p1_behind : Nat → Int32} {p1_code : Nat} {c_p1_code : ClassId} {b_p1_code : Nat → Int32} {p1_stack : Nat} {c_p1_stack : ClassId} {b_p1_stack : Nat → Int32} {a2 : Int32} {a3 : Int32} : ∀ (r : Int32), ∀ X Y : va_W → Prop, (∀ w, X w → Y w) → zG_t_slip p0 f_p0 p0_ends c_p0_ends b_p0_ends p0_tight c_p0_tight b_p0_tight p1 f_p1 p1_behind c_p1_behind b_p1_behind p1_code c_p1_code b_p1_code p1_stack c_p1_stack b_p1_stack a2 a3 r X → zG_t_slip p0 f_p0 p0_ends c_p0_ends b_p0_ends p0_tight c_p0_tight b_p0_tight p1 f_p1 p1_behind c_p1_behind b_p1_behind p1_code c_p1_code b_p1_code p1_stack c_p1_stack b_p1_stack a2 a3 r Y := fun r X Y h h1 => by obtain ⟨x0, x1, x2, x3, x4, x5, hx⟩ := h1; exact ⟨x0, x1, x2, x3, x4, x5, h _ hx⟩
set_option maxHeartbeats 4000000 in
set_option maxRecDepth 100000 in
theorem t_slip (l : Launch) (dC : Nat → ClassId) (dI : Nat → Nat → Nat) (sz : Nat) (p0 : Nat) (f_p0 : List Value) (p0_ends : Nat) (c_p0_ends : ClassId) (b_p0_ends : Nat → Int32) (p0_tight : Nat) (c_p0_tight : ClassId) (b_p0_tight : Nat → Int32) (p1 : Nat) (f_p1 : List Value) (p1_behind : Nat) (c_p1_behind : ClassId) (b_p1_behind : Nat → Int32) (p1_code : Nat) (c_p1_code : ClassId) (b_p1_code : Nat → Int32) (p1_stack : Nat) (c_p1_stack : ClassId) (b_p1_stack : Nat → Int32) (a2 : Int32) (a3 : Int32) (ho_p0 : OKX0 f_p0) (fr_p0_0 : q_rf f_p0 0 p0_tight) (fr_p0_1 : q_rf f_p0 1 p0_ends) (ho_p1 : OKX3 f_p1) (fr_p1_0 : q_rf f_p1 0 p1_code) (fr_p1_1 : q_rf f_p1 1 p1_behind) (fr_p1_2 : q_rf f_p1 2 p1_stack) (hr_p1_behind : q_rg 6 (0) 600 b_p1_behind) : Met l yX0_slip zw_t_slip ({ frames := 2, cells := 0, slots := 0, locals := 49 }) (va_Pc [.ref p0, .ref p1, .int a2, .int a3] (q_pre (dC, dI) (zW_t_slip p0 f_p0 p0_ends c_p0_ends b_p0_ends p0_tight c_p0_tight b_p0_tight p1 f_p1 p1_behind c_p1_behind b_p1_behind p1_code c_p1_code b_p1_code p1_stack c_p1_stack b_p1_stack) (zT_t_slip c_p0_ends c_p0_tight c_p1_behind c_p1_code c_p1_stack) q_E0 sz)) (q_Qi (dC, dI) (zG_t_slip p0 f_p0 p0_ends c_p0_ends b_p0_ends p0_tight c_p0_tight b_p0_tight p1 f_p1 p1_behind c_p1_behind b_p1_behind p1_code c_p1_code b_p1_code p1_stack c_p1_stack b_p1_stack a2 a3) (zA_t_slip p0 p0_ends p0_tight p1 p1_behind p1_code p1_stack) (va_A (zW_t_slip p0 f_p0 p0_ends c_p0_ends b_p0_ends p0_tight c_p0_tight b_p0_tight p1 f_p1 p1_behind c_p1_behind b_p1_behind p1_code c_p1_code b_p1_code p1_stack c_p1_stack b_p1_stack) sz)) 0 0 (va_A (zW_t_slip p0 f_p0 p0_ends c_p0_ends b_p0_ends p0_tight c_p0_tight b_p0_tight p1 f_p1 p1_behind c_p1_behind b_p1_behind p1_code c_p1_code b_p1_code p1_stack c_p1_stack b_p1_stack) sz) := by
  refine Met.ofW (cc := cX0_slip) (maxL := 8) (ret := (some .int)) (by decide) rfl ?_
  intro p e s m args below meth c s₁ B hml hv
  obtain ⟨rfl, hsz, hP, hK, hD0, hE⟩ := hv
  have hx := B.exec
  have hb := B.bytes
  have hr := B.returns
  have hts := atoms_spec (ws := zw_t_slip) B.pre
  have hown : s.vm.findClass RX0 = some m.cls := findClass_of_methodNamed B.named
  have hlocks := B.notSynchronized
  subst hsz
  have hD := hD0.self (sz := s.heap.size)
  generalize hAe : va_A (zW_t_slip p0 f_p0 p0_ends c_p0_ends b_p0_ends p0_tight c_p0_tight b_p0_tight p1 f_p1 p1_behind c_p1_behind b_p1_behind p1_code c_p1_code b_p1_code p1_stack c_p1_stack b_p1_stack) s.heap.size = A at hD hE ⊢
  have hA : ∀ q : Nat, s.heap.size ≤ q → A q := fun q h => by rw [← hAe]; exact Or.inr h
  have hDa : q_DA A (zA_t_slip p0 p0_ends p0_tight p1 p1_behind p1_code p1_stack) := q_DA.mk hD za_t_slip
  clear hAe hD0 hD
  have hS : va_S A s.heap s.heap [] := va_S.rf
  have m_0 : (.fieldLink RX0 24 "BowWalk$Bow" "left" "I" : Cond) ∈ zw_t_slip := List.mem_append_left _ (List.mem_of_getElem? (i := 1) rfl)
  have k_0 := hts _ m_0
  have m_1 : (.fieldLink RX0 30 "BowWalk$Bow" "slipped" "I" : Cond) ∈ zw_t_slip := List.mem_append_left _ (List.mem_of_getElem? (i := 2) rfl)
  have k_1 := hts _ m_1
  have m_2 : (.fieldLink RX0 11 "BowWalk$Bow" "tight" "[I" : Cond) ∈ zw_t_slip := List.mem_append_left _ (List.mem_of_getElem? (i := 3) rfl)
  have k_2 := hts _ m_2
  have m_3 : (.methodLink RX0 77 yX3_ask : Cond) ∈ zw_t_slip := List.mem_append_left _ (List.mem_of_getElem? (i := 4) rfl)
  have k_3 := hts _ m_3
  have m_4 : (.instanceMethod yX3_ask : Cond) ∈ zw_t_slip := List.mem_append_left _ (List.mem_of_getElem? (i := 5) rfl)
  have k_4 := hts _ m_4
  have m_5 : (.selects RX3 yX3_ask yX3_ask : Cond) ∈ zw_t_slip := List.mem_append_left _ (List.mem_of_getElem? (i := 6) rfl)
  have k_5 := hts _ m_5
  have m_6 : (.initialized RX3 : Cond) ∈ zw_t_slip := List.mem_append_left _ (List.mem_of_getElem? (i := 7) rfl)
  have k_6 := hts _ m_6
  have m_7 : (.methodLink RX0 87 yX0_slipOf : Cond) ∈ zw_t_slip := List.mem_append_left _ (List.mem_of_getElem? (i := 8) rfl)
  have k_7 := hts _ m_7
  have m_8 : (.instanceMethod yX0_slipOf : Cond) ∈ zw_t_slip := List.mem_append_left _ (List.mem_of_getElem? (i := 9) rfl)
  have k_8 := hts _ m_8
  have m_9 : (.selects RX0 yX0_slipOf yX0_slipOf : Cond) ∈ zw_t_slip := List.mem_append_left _ (List.mem_of_getElem? (i := 10) rfl)
  have k_9 := hts _ m_9
  have m_10 : (.initialized RX0 : Cond) ∈ zw_t_slip := List.mem_append_left _ (List.mem_of_getElem? (i := 11) rfl)
  have k_10 := hts _ m_10
  have m_11 : (.fieldLink RX0 17 "BowWalk$Bow" "ends" "[I" : Cond) ∈ zw_t_slip := List.mem_append_left _ (List.mem_of_getElem? (i := 12) rfl)
  have k_11 := hts _ m_11
  have m_12 : (.fieldLink RX0 39 "BowWalk$Bow" "sides" "I" : Cond) ∈ zw_t_slip := List.mem_append_left _ (List.mem_of_getElem? (i := 13) rfl)
  have k_12 := hts _ m_12
  have g_t_ask : ∀ w ∈ zw_t_ask, w ∈ zw_t_slip := fun w h => List.mem_append_right _ (List.mem_append_left _ h)
  have g_t_slipOf : ∀ w ∈ zw_t_slipOf, w ∈ zw_t_slip := fun w h => List.mem_append_right _ (List.mem_append_right _ (List.mem_append_left _ h))
  have i_X0 : ∀ w ∈ u_ws RX0 TX0 15, w ∈ zw_t_slip := fun w h => List.mem_append_right _ (List.mem_append_right _ (List.mem_append_right _ (List.mem_append_left _ h)))
  have lt_m1 : ((-1) : Int32).toInt = -1 := by decide
  have lt_0 : (0 : Int32).toInt = 0 := by decide
  have lt_1 : (1 : Int32).toInt = 1 := by decide
  have lt_2 : (2 : Int32).toInt = 2 := by decide
  have lt_4 : (4 : Int32).toInt = 4 := by decide
  have hl := lv_entry ([.ref p0, .ref p1, .int a2, .int a3]) (n := 8) (Nat.le_of_ble_eq_true rfl)
  rw [lg_entry_eq]
  generalize (lg_sl ([.ref p0, .ref p1, .int a2, .int a3]) ++ List.replicate (8 - (lg_sl ([.ref p0, .ref p1, .int a2, .int a3])).length) Slot.unset).toArray = ls at hl ⊢
  have hl : lv_has ls 8 [(0, .ref p0), (1, .ref p1), (2, .int a2), (3, .int a3)] := hl
  refine lv_iconst (v := 0) hx hb dX0_slip_0 (by decide) (lv_istore (lv' := [(4, .int 0), (0, .ref p0), (1, .ref p1), (2, .int a2), (3, .int a3)]) hx hb dX0_slip_1 hl (by decide) rfl (fun ls hl => ?_))
  refine lv_iload_n hx hb dX0_slip_3 rfl (lv_at hl 4 rfl) (lv_istore (lv' := [(5, .int a3), (4, .int 0), (0, .ref p0), (1, .ref p1), (2, .int a2), (3, .int a3)]) hx hb dX0_slip_4 hl (by decide) rfl (fun ls hl => ?_))
  refine lv_aload_n hx hb dX0_slip_6 rfl (lv_at hl 2 rfl) ?_
  obtain ⟨v_1, fv_1, tv_1⟩ := OKX0_g3 ho_p0
  refine qg_X0_3 hx hb hts i_X0 hown hK hP 0 rfl k_0 fv_1 dX0_slip_7 (lv_iconst (v := 1) hx hb dX0_slip_10 (by decide) (lv_isub hx hb dX0_slip_11 (lv_topi fun v_2 ev_2 => ?_)))
  have tv_2 := q_sub ev_2 (by omega) (by omega)
  refine lv_istore (lv' := [(6, .int v_2), (5, .int a3), (4, .int 0), (0, .ref p0), (1, .ref p1), (2, .int a2), (3, .int a3)]) hx hb dX0_slip_12 hl (by decide) rfl (fun ls hl => ?_)
  have key14 : ∀ (fu14 : Nat) (al : Int32) (pu : Int32) (ii : Int32) (bz_p0_ends : Nat → Int32) (bz_p0_tight : Nat → Int32) (bz_p1_stack : Nat → Int32) (H : Heap) (locs : List Loc) (ls : Array Slot) (hfu14 : ii.toInt + 1 ≤ (fu14 : Int)) (tii : (-1) ≤ ii.toInt ∧ ii.toInt ≤ 11), va_P (dC, dI) vwCl (zW_t_slip p0 f_p0 p0_ends c_p0_ends bz_p0_ends p0_tight c_p0_tight bz_p0_tight p1 f_p1 p1_behind c_p1_behind b_p1_behind p1_code c_p1_code b_p1_code p1_stack c_p1_stack bz_p1_stack) H → va_S A s.heap H locs → lv_has ls 8 [(6, .int ii), (5, .int pu), (4, .int al), (0, .ref p0), (1, .ref p1), (2, .int a2), (3, .int a3)] → W p l e (headSpec zw_t_slip { frames := 2, cells := 0, slots := 0, locals := 49 }).room s m ([.ref p0, .ref p1, .int a2, .int a3] : List Value).toArray below meth c H locs 0 0 (MQ below (q_Qi (dC, dI) (zG_t_slip p0 f_p0 p0_ends c_p0_ends b_p0_ends p0_tight c_p0_tight b_p0_tight p1 f_p1 p1_behind c_p1_behind b_p1_behind p1_code c_p1_code b_p1_code p1_stack c_p1_stack b_p1_stack a2 a3) (zA_t_slip p0 p0_ends p0_tight p1 p1_behind p1_code p1_stack) A) ([.ref p0, .ref p1, .int a2, .int a3] : List Value).toArray s 0 0 A) (F0 m 14 ls []) := by
    intro fu14
    induction fu14 using Nat.strongRecOn with
    | ind fu14 ih14 =>
      intro al pu ii bz_p0_ends bz_p0_tight bz_p1_stack H3 lo3 ls hfu14 tii hP3 hS3 hl
      refine lv_iload hx hb dX0_slip_14 (lv_at hl 0 rfl) ?_
      refine lv_if_lt (tgt := 97) hx hb dX0_slip_16 (by decide) (fun c_4 => ?_) (fun c_4 => ?_)
      · have tc_4 := q_lt c_4
        have key97 : ∀ (fu97 : Nat) (fz_p0 : List Value) (lfv : Int32) (H : Heap) (locs : List Loc) (ls : Array Slot) (hfu97 : lfv.toInt ≤ (fu97 : Int)) (ho_fz_p0 : OKX0 fz_p0) (hf_fz_p0 : q_fr [3, 5] f_p0 fz_p0) (fr_fz_p0_0 : q_rf fz_p0 0 p0_tight) (fr_fz_p0_1 : q_rf fz_p0 1 p0_ends) (fv_fz_p0_3 : q_if fz_p0 3 lfv) (tlfv : (0) ≤ lfv.toInt ∧ lfv.toInt ≤ 12), va_P (dC, dI) vwCl (zW_t_slip p0 fz_p0 p0_ends c_p0_ends bz_p0_ends p0_tight c_p0_tight bz_p0_tight p1 f_p1 p1_behind c_p1_behind b_p1_behind p1_code c_p1_code b_p1_code p1_stack c_p1_stack bz_p1_stack) H → va_S A s.heap H locs → lv_has ls 8 [(6, .int ii), (5, .int pu), (4, .int al), (0, .ref p0), (1, .ref p1), (2, .int a2), (3, .int a3)] → W p l e (headSpec zw_t_slip { frames := 2, cells := 0, slots := 0, locals := 49 }).room s m ([.ref p0, .ref p1, .int a2, .int a3] : List Value).toArray below meth c H locs 0 0 (MQ below (q_Qi (dC, dI) (zG_t_slip p0 f_p0 p0_ends c_p0_ends b_p0_ends p0_tight c_p0_tight b_p0_tight p1 f_p1 p1_behind c_p1_behind b_p1_behind p1_code c_p1_code b_p1_code p1_stack c_p1_stack b_p1_stack a2 a3) (zA_t_slip p0 p0_ends p0_tight p1 p1_behind p1_code p1_stack) A) ([.ref p0, .ref p1, .int a2, .int a3] : List Value).toArray s 0 0 A) (F0 m 97 ls []) := by
          intro fu97
          induction fu97 using Nat.strongRecOn with
          | ind fu97 ih97 =>
            intro fz_p0 lfv H5 lo5 ls hfu97 ho_fz_p0 hf_fz_p0 fr_fz_p0_0 fr_fz_p0_1 fv_fz_p0_3 tlfv hP5 hS5 hl
            refine lv_aload_n hx hb dX0_slip_97 rfl (lv_at hl 3 rfl) (qg_X0_3 hx hb hts i_X0 hown hK hP5 0 rfl k_0 fv_fz_p0_3 dX0_slip_98 ?_)
            refine lv_if_le (tgt := 131) hx hb dX0_slip_101 (by decide) (fun c_6 => ?_) (fun c_6 => ?_)
            · have tc_6 := q_le c_6
              refine lv_aload_n hx hb dX0_slip_131 rfl (lv_at hl 3 rfl) (lv_dup hx hb dX0_slip_132 rfl ?_)
              obtain ⟨v_7, fv_7⟩ := OKX0_g5 ho_fz_p0
              refine qg_X0_5 hx hb hts i_X0 hown hK hP5 0 rfl k_1 fv_7 dX0_slip_133 (lv_iload hx hb dX0_slip_136 (lv_at hl 2 rfl) (lv_iadd hx hb dX0_slip_138 (lv_topi fun v_8 ev_8 => qp_X0_5 hx hb hts i_X0 hown hK hP5 hDa za_t_slip hS5 0 rfl k_1 (OKX0_l ho_fz_p0) dX0_slip_139 (fun H9 lo9 fs9 efs9 (hP9 : va_P (dC, dI) vwCl (zW_t_slip p0 fs9 p0_ends c_p0_ends bz_p0_ends p0_tight c_p0_tight bz_p0_tight p1 f_p1 p1_behind c_p1_behind b_p1_behind p1_code c_p1_code b_p1_code p1_stack c_p1_stack bz_p1_stack) H9) hS9 => ?_))))
              have ho9 := OKX0_p5 ho_fz_p0 efs9
              clear hP5 hS5
              refine lv_iload hx hb dX0_slip_142 (lv_at hl 2 rfl) ?_
              exact q_iret hx hb hr hlocks hS9 dX0_slip_144 ⟨fs9, bz_p0_ends, bz_p0_tight, bz_p1_stack, ho9, (hf_fz_p0.st efs9 (by decide)), hP9, za_t_slip⟩
            · have tc_6 := q_gtN c_6
              refine lv_aload_n hx hb dX0_slip_104 rfl (lv_at hl 3 rfl) (qg_X0_0 hx hb hts i_X0 hown hK hP5 0 rfl k_2 fr_fz_p0_0 dX0_slip_105 (lv_aload_n hx hb dX0_slip_108 rfl (lv_at hl 3 rfl) (qg_X0_3 hx hb hts i_X0 hown hK hP5 0 rfl k_0 fv_fz_p0_3 dX0_slip_109 (lv_iconst (v := 1) hx hb dX0_slip_112 (by decide) (lv_isub hx hb dX0_slip_113 (lv_topi fun v_10 ev_10 => ?_))))))
              have tv_10 := q_sub ev_10 (by omega) (by omega)
              refine q_ild hx hb hK hP5 2 1 rfl rfl (q_in (by omega) (by omega)) dX0_slip_114 (fun v_11 ev_11 => ?_)
              refine lv_if_ne (tgt := 131) hx hb dX0_slip_115 (by decide) (fun c_12 => ?_) (fun c_12 => ?_)
              · have tc_12 := q_ne c_12
                refine lv_aload_n hx hb dX0_slip_131 rfl (lv_at hl 3 rfl) (lv_dup hx hb dX0_slip_132 rfl ?_)
                obtain ⟨v_13, fv_13⟩ := OKX0_g5 ho_fz_p0
                refine qg_X0_5 hx hb hts i_X0 hown hK hP5 0 rfl k_1 fv_13 dX0_slip_133 (lv_iload hx hb dX0_slip_136 (lv_at hl 2 rfl) (lv_iadd hx hb dX0_slip_138 (lv_topi fun v_14 ev_14 => qp_X0_5 hx hb hts i_X0 hown hK hP5 hDa za_t_slip hS5 0 rfl k_1 (OKX0_l ho_fz_p0) dX0_slip_139 (fun H15 lo15 fs15 efs15 (hP15 : va_P (dC, dI) vwCl (zW_t_slip p0 fs15 p0_ends c_p0_ends bz_p0_ends p0_tight c_p0_tight bz_p0_tight p1 f_p1 p1_behind c_p1_behind b_p1_behind p1_code c_p1_code b_p1_code p1_stack c_p1_stack bz_p1_stack) H15) hS15 => ?_))))
                have ho15 := OKX0_p5 ho_fz_p0 efs15
                clear hP5 hS5
                refine lv_iload hx hb dX0_slip_142 (lv_at hl 2 rfl) ?_
                exact q_iret hx hb hr hlocks hS15 dX0_slip_144 ⟨fs15, bz_p0_ends, bz_p0_tight, bz_p1_stack, ho15, (hf_fz_p0.st efs15 (by decide)), hP15, za_t_slip⟩
              · have tc_12 := q_eqN c_12
                refine lv_aload_n hx hb dX0_slip_118 rfl (lv_at hl 3 rfl) (lv_dup hx hb dX0_slip_119 rfl (qg_X0_3 hx hb hts i_X0 hown hK hP5 0 rfl k_0 fv_fz_p0_3 dX0_slip_120 (lv_iconst (v := 1) hx hb dX0_slip_123 (by decide) (lv_isub hx hb dX0_slip_124 (lv_topi fun v_16 ev_16 => ?_)))))
                have tv_16 := q_sub ev_16 (by omega) (by omega)
                refine qp_X0_3 hx hb hts i_X0 hown hK hP5 hDa za_t_slip hS5 0 rfl k_0 (OKX0_l ho_fz_p0) dX0_slip_125 (fun H17 lo17 fs17 efs17 (hP17 : va_P (dC, dI) vwCl (zW_t_slip p0 fs17 p0_ends c_p0_ends bz_p0_ends p0_tight c_p0_tight bz_p0_tight p1 f_p1 p1_behind c_p1_behind b_p1_behind p1_code c_p1_code b_p1_code p1_stack c_p1_stack bz_p1_stack) H17) hS17 => ?_)
                have ho17 := OKX0_p3 ho_fz_p0 efs17 ⟨by omega, by omega⟩
                clear hP5 hS5
                refine lv_goto (tgt := 97) hx hb dX0_slip_128 (by decide) ?_
                exact ih97 (fu97 - 1) (by omega) fs17 v_16 _ _ _ (by omega) ho17 (hf_fz_p0.st efs17 (by decide)) (q_sn efs17 (by decide) fr_fz_p0_0) (q_sn efs17 (by decide) fr_fz_p0_1) (q_sa efs17 (OKX0_l ho_fz_p0) (by decide)) (by omega) hP17 hS17 (lv_sub hl [0, 1, 2, 3, 4, 5, 6] rfl)
        exact key97 12 f_p0 v_1 _ _ _ (by omega) ho_p0 q_fr.rf fr_p0_0 fr_p0_1 fv_1 (by omega) hP3 hS3 (lv_sub hl [0, 1, 2, 3, 4, 5, 6] rfl)
      · have tc_4 := q_geN c_4
        refine lv_aload_n hx hb dX0_slip_19 rfl (lv_at hl 3 rfl) (lv_iload hx hb dX0_slip_20 (lv_at hl 0 rfl) (lv_iload hx hb dX0_slip_22 (lv_at hl 1 rfl) (lv_aload_n hx hb dX0_slip_24 rfl (lv_at hl 4 rfl) (lv_iconst (v := 2) hx hb dX0_slip_25 (by decide) (lv_iload_n hx hb dX0_slip_26 rfl (lv_at hl 5 rfl) (lv_imul hx hb dX0_slip_27 (lv_topi fun v_18 ev_18 => lv_aload_n hx hb dX0_slip_28 rfl (lv_at hl 3 rfl) ?_)))))))
        refine lv_iload hx hb dX0_slip_29 (lv_at hl 0 rfl) ?_
        refine q_cVi (As := [.int v_18, .ref p0, .int ii]) (rest := [.int pu, .int ii, .ref p0]) q_w0 trivial hK hP3 hDa za_t_slip hS3 hA [3, 4, 5, 6, 0, 1, 2] [2, 3, 4, 0, 1] (by decide +kernel) ⟨hx, hb, hml, hown, hts⟩ (t_ask l dC dI H3.size p1 f_p1 p1_behind c_p1_behind b_p1_behind p1_code c_p1_code b_p1_code p1_stack c_p1_stack bz_p1_stack p0 f_p0 p0_ends c_p0_ends bz_p0_ends p0_tight c_p0_tight bz_p0_tight v_18 ii ho_p1 fr_p1_0 fr_p1_1 fr_p1_2 hr_p1_behind ho_p0 fr_p0_0 fr_p0_1 ((by omega))) rfl rfl (cwV 3 hts (p1_gV m_3 m_4 m_5 m_6 g_t_ask gz_t_ask) rfl rfl rfl (by decide +kernel) ⟨by decide, by decide⟩) (va_recv hK hP3 (ci := 3) (q0 := 3) rfl rfl) zm_t_ask rfl hl.1 rfl (Nat.le_of_ble_eq_true rfl) dX0_slip_31 ⟨by decide, by decide⟩ (fun r_19 H20 lo20 hG20 hS20 => ?_)
        obtain ⟨o_21, hQ20⟩ := hG20
        have hP20 : va_P (dC, dI) vwCl (zW_t_slip p0 f_p0 p0_ends c_p0_ends bz_p0_ends p0_tight c_p0_tight bz_p0_tight p1 f_p1 p1_behind c_p1_behind b_p1_behind p1_code c_p1_code b_p1_code p1_stack c_p1_stack o_21) H20 := hQ20
        clear hQ20 hP3 hS3
        refine q_cVi (As := [.int ii, .int pu, .int r_19]) (rest := []) q_w0 trivial hK hP20 hDa za_t_slip hS20 hA [0, 2] [1] (by decide +kernel) ⟨hx, hb, hml, hown, hts⟩ (t_slipOf l dC dI H20.size p0 f_p0 p0_tight c_p0_tight bz_p0_tight ii pu r_19 ho_p0 fr_p0_0 ((by omega))) rfl rfl (cwV 3 hts (p1_gV m_7 m_8 m_9 m_10 g_t_slipOf gz_t_slipOf) rfl rfl rfl (by decide +kernel) ⟨by decide, by decide⟩) (va_recv hK hP20 (ci := 0) (q0 := 0) rfl rfl) zm_t_slipOf rfl hl.1 rfl (Nat.le_of_ble_eq_true rfl) dX0_slip_34 ⟨by decide, by decide⟩ (fun r_22 H23 lo23 hG23 hS23 => ?_)
        have hQ23 := hG23
        have hP23 : va_P (dC, dI) vwCl (zW_t_slip p0 f_p0 p0_ends c_p0_ends bz_p0_ends p0_tight c_p0_tight bz_p0_tight p1 f_p1 p1_behind c_p1_behind b_p1_behind p1_code c_p1_code b_p1_code p1_stack c_p1_stack o_21) H23 := hQ23
        clear hQ23 hP20 hS20
        refine lv_istore (lv' := [(7, .int r_22), (6, .int ii), (5, .int pu), (4, .int al), (0, .ref p0), (1, .ref p1), (2, .int a2), (3, .int a3)]) hx hb dX0_slip_37 hl (by decide) rfl (fun ls hl => ?_)
        refine lv_iload hx hb dX0_slip_39 (lv_at hl 0 rfl) ?_
        refine lv_if_ne (tgt := 47) hx hb dX0_slip_41 (by decide) (fun c_24 => ?_) (fun c_24 => ?_)
        · have tc_24 := q_ne c_24
          refine lv_aload_n hx hb dX0_slip_47 rfl (lv_at hl 4 rfl) (qg_X0_0 hx hb hts i_X0 hown hK hP23 0 rfl k_2 fr_p0_0 dX0_slip_48 (lv_iload hx hb dX0_slip_51 (lv_at hl 1 rfl) (lv_dup2_11 hx hb dX0_slip_53 rfl rfl (q_ild hx hb hK hP23 2 1 rfl rfl (q_in (by omega) (by omega)) dX0_slip_54 (fun v_25 ev_25 => ?_)))))
          refine lv_iload hx hb dX0_slip_55 (lv_at hl 0 rfl) (lv_isub hx hb dX0_slip_57 (lv_topi fun v_26 ev_26 => q_ist hx hb hK hP23 hDa za_t_slip hS23 2 1 rfl rfl (q_in (by omega) (by omega)) dX0_slip_58 (fun H27 lo27 g27 eg27 (hP27 : va_P (dC, dI) vwCl (zW_t_slip p0 f_p0 p0_ends c_p0_ends bz_p0_ends p0_tight c_p0_tight g27 p1 f_p1 p1_behind c_p1_behind b_p1_behind p1_code c_p1_code b_p1_code p1_stack c_p1_stack o_21) H27) hS27 => ?_)))
          clear hP23 hS23
          refine lv_aload_n hx hb dX0_slip_59 rfl (lv_at hl 4 rfl) (qg_X0_1 hx hb hts i_X0 hown hK hP27 0 rfl k_11 fr_p0_1 dX0_slip_60 (lv_aload_n hx hb dX0_slip_63 rfl (lv_at hl 4 rfl) ?_))
          obtain ⟨v_28, fv_28⟩ := OKX0_g8 ho_p0
          refine qg_X0_8 hx hb hts i_X0 hown hK hP27 0 rfl k_12 fv_28 dX0_slip_64 (lv_iload hx hb dX0_slip_67 (lv_at hl 1 rfl) (lv_ishr hx hb dX0_slip_69 (lv_topi fun v_29 ev_29 => lv_iconst (v := 1) hx hb dX0_slip_70 (by decide) (lv_iand hx hb dX0_slip_71 (lv_topi fun v_30 ev_30 => ?_)))))
          have tv_30 := q_and (k := 1) ev_30 (by decide) (by decide)
          refine lv_dup2_11 hx hb dX0_slip_72 rfl rfl (q_ild hx hb hK hP27 1 0 rfl rfl (q_in (by omega) (by omega)) dX0_slip_73 (fun v_31 ev_31 => ?_))
          refine lv_iload hx hb dX0_slip_74 (lv_at hl 0 rfl) (lv_iadd hx hb dX0_slip_76 (lv_topi fun v_32 ev_32 => q_ist hx hb hK hP27 hDa za_t_slip hS27 1 0 rfl rfl (q_in (by omega) (by omega)) dX0_slip_77 (fun H33 lo33 g33 eg33 (hP33 : va_P (dC, dI) vwCl (zW_t_slip p0 f_p0 p0_ends c_p0_ends g33 p0_tight c_p0_tight g27 p1 f_p1 p1_behind c_p1_behind b_p1_behind p1_code c_p1_code b_p1_code p1_stack c_p1_stack o_21) H33) hS33 => ?_)))
          clear hP27 hS27
          refine lv_iload hx hb dX0_slip_78 (lv_at hl 3 rfl) (lv_iload hx hb dX0_slip_80 (lv_at hl 0 rfl) (lv_iadd hx hb dX0_slip_82 (lv_topi fun v_34 ev_34 => lv_istore (lv' := [(4, .int v_34), (7, .int r_22), (6, .int ii), (5, .int pu), (0, .ref p0), (1, .ref p1), (2, .int a2), (3, .int a3)]) hx hb dX0_slip_83 hl (by decide) rfl (fun ls hl => ?_))))
          refine lv_iconst (v := 4) hx hb dX0_slip_85 (by decide) (lv_iload hx hb dX0_slip_86 (lv_at hl 1 rfl) (lv_imul hx hb dX0_slip_88 (lv_topi fun v_35 ev_35 => lv_istore (lv' := [(5, .int v_35), (4, .int v_34), (7, .int r_22), (6, .int ii), (0, .ref p0), (1, .ref p1), (2, .int a2), (3, .int a3)]) hx hb dX0_slip_89 hl (by decide) rfl (fun ls hl => ?_))))
          obtain ⟨v_36, ev_36⟩ : ∃ y : Int32, y = ii + (-1) := ⟨_, rfl⟩
          have tv_36 := q_add ev_36 (by omega) (by omega)
          refine lv_iinc (v := v_36) (lv' := [(6, .int v_36), (5, .int v_35), (4, .int v_34), (7, .int r_22), (0, .ref p0), (1, .ref p1), (2, .int a2), (3, .int a3)]) hx hb dX0_slip_91 hl (k := 3) rfl (by rw [ev_36]; rfl) (by decide) rfl (fun ls hl => ?_)
          refine lv_goto (tgt := 14) hx hb dX0_slip_94 (by decide) ?_
          exact ih14 (fu14 - 1) (by omega) v_34 v_35 v_36 g33 g27 o_21 _ _ _ (by omega) (by omega) hP33 hS33 (lv_sub hl [0, 1, 2, 4, 5, 6, 7] rfl)
        · have tc_24 := q_eqN c_24
          refine lv_goto (tgt := 97) hx hb dX0_slip_44 (by decide) ?_
          have key97 : ∀ (fu97 : Nat) (fz_p0 : List Value) (lfv : Int32) (H : Heap) (locs : List Loc) (ls : Array Slot) (hfu97 : lfv.toInt ≤ (fu97 : Int)) (ho_fz_p0 : OKX0 fz_p0) (hf_fz_p0 : q_fr [3, 5] f_p0 fz_p0) (fr_fz_p0_0 : q_rf fz_p0 0 p0_tight) (fr_fz_p0_1 : q_rf fz_p0 1 p0_ends) (fv_fz_p0_3 : q_if fz_p0 3 lfv) (tlfv : (0) ≤ lfv.toInt ∧ lfv.toInt ≤ 12), va_P (dC, dI) vwCl (zW_t_slip p0 fz_p0 p0_ends c_p0_ends bz_p0_ends p0_tight c_p0_tight bz_p0_tight p1 f_p1 p1_behind c_p1_behind b_p1_behind p1_code c_p1_code b_p1_code p1_stack c_p1_stack o_21) H → va_S A s.heap H locs → lv_has ls 8 [(7, .int r_22), (6, .int ii), (5, .int pu), (4, .int al), (0, .ref p0), (1, .ref p1), (2, .int a2), (3, .int a3)] → W p l e (headSpec zw_t_slip { frames := 2, cells := 0, slots := 0, locals := 49 }).room s m ([.ref p0, .ref p1, .int a2, .int a3] : List Value).toArray below meth c H locs 0 0 (MQ below (q_Qi (dC, dI) (zG_t_slip p0 f_p0 p0_ends c_p0_ends b_p0_ends p0_tight c_p0_tight b_p0_tight p1 f_p1 p1_behind c_p1_behind b_p1_behind p1_code c_p1_code b_p1_code p1_stack c_p1_stack b_p1_stack a2 a3) (zA_t_slip p0 p0_ends p0_tight p1 p1_behind p1_code p1_stack) A) ([.ref p0, .ref p1, .int a2, .int a3] : List Value).toArray s 0 0 A) (F0 m 97 ls []) := by
            intro fu97
            induction fu97 using Nat.strongRecOn with
            | ind fu97 ih97 =>
              intro fz_p0 lfv H37 lo37 ls hfu97 ho_fz_p0 hf_fz_p0 fr_fz_p0_0 fr_fz_p0_1 fv_fz_p0_3 tlfv hP37 hS37 hl
              refine lv_aload_n hx hb dX0_slip_97 rfl (lv_at hl 4 rfl) (qg_X0_3 hx hb hts i_X0 hown hK hP37 0 rfl k_0 fv_fz_p0_3 dX0_slip_98 ?_)
              refine lv_if_le (tgt := 131) hx hb dX0_slip_101 (by decide) (fun c_38 => ?_) (fun c_38 => ?_)
              · have tc_38 := q_le c_38
                refine lv_aload_n hx hb dX0_slip_131 rfl (lv_at hl 4 rfl) (lv_dup hx hb dX0_slip_132 rfl ?_)
                obtain ⟨v_39, fv_39⟩ := OKX0_g5 ho_fz_p0
                refine qg_X0_5 hx hb hts i_X0 hown hK hP37 0 rfl k_1 fv_39 dX0_slip_133 (lv_iload hx hb dX0_slip_136 (lv_at hl 3 rfl) (lv_iadd hx hb dX0_slip_138 (lv_topi fun v_40 ev_40 => qp_X0_5 hx hb hts i_X0 hown hK hP37 hDa za_t_slip hS37 0 rfl k_1 (OKX0_l ho_fz_p0) dX0_slip_139 (fun H41 lo41 fs41 efs41 (hP41 : va_P (dC, dI) vwCl (zW_t_slip p0 fs41 p0_ends c_p0_ends bz_p0_ends p0_tight c_p0_tight bz_p0_tight p1 f_p1 p1_behind c_p1_behind b_p1_behind p1_code c_p1_code b_p1_code p1_stack c_p1_stack o_21) H41) hS41 => ?_))))
                have ho41 := OKX0_p5 ho_fz_p0 efs41
                clear hP37 hS37
                refine lv_iload hx hb dX0_slip_142 (lv_at hl 3 rfl) ?_
                exact q_iret hx hb hr hlocks hS41 dX0_slip_144 ⟨fs41, bz_p0_ends, bz_p0_tight, o_21, ho41, (hf_fz_p0.st efs41 (by decide)), hP41, za_t_slip⟩
              · have tc_38 := q_gtN c_38
                refine lv_aload_n hx hb dX0_slip_104 rfl (lv_at hl 4 rfl) (qg_X0_0 hx hb hts i_X0 hown hK hP37 0 rfl k_2 fr_fz_p0_0 dX0_slip_105 (lv_aload_n hx hb dX0_slip_108 rfl (lv_at hl 4 rfl) (qg_X0_3 hx hb hts i_X0 hown hK hP37 0 rfl k_0 fv_fz_p0_3 dX0_slip_109 (lv_iconst (v := 1) hx hb dX0_slip_112 (by decide) (lv_isub hx hb dX0_slip_113 (lv_topi fun v_42 ev_42 => ?_))))))
                have tv_42 := q_sub ev_42 (by omega) (by omega)
                refine q_ild hx hb hK hP37 2 1 rfl rfl (q_in (by omega) (by omega)) dX0_slip_114 (fun v_43 ev_43 => ?_)
                refine lv_if_ne (tgt := 131) hx hb dX0_slip_115 (by decide) (fun c_44 => ?_) (fun c_44 => ?_)
                · have tc_44 := q_ne c_44
                  refine lv_aload_n hx hb dX0_slip_131 rfl (lv_at hl 4 rfl) (lv_dup hx hb dX0_slip_132 rfl ?_)
                  obtain ⟨v_45, fv_45⟩ := OKX0_g5 ho_fz_p0
                  refine qg_X0_5 hx hb hts i_X0 hown hK hP37 0 rfl k_1 fv_45 dX0_slip_133 (lv_iload hx hb dX0_slip_136 (lv_at hl 3 rfl) (lv_iadd hx hb dX0_slip_138 (lv_topi fun v_46 ev_46 => qp_X0_5 hx hb hts i_X0 hown hK hP37 hDa za_t_slip hS37 0 rfl k_1 (OKX0_l ho_fz_p0) dX0_slip_139 (fun H47 lo47 fs47 efs47 (hP47 : va_P (dC, dI) vwCl (zW_t_slip p0 fs47 p0_ends c_p0_ends bz_p0_ends p0_tight c_p0_tight bz_p0_tight p1 f_p1 p1_behind c_p1_behind b_p1_behind p1_code c_p1_code b_p1_code p1_stack c_p1_stack o_21) H47) hS47 => ?_))))
                  have ho47 := OKX0_p5 ho_fz_p0 efs47
                  clear hP37 hS37
                  refine lv_iload hx hb dX0_slip_142 (lv_at hl 3 rfl) ?_
                  exact q_iret hx hb hr hlocks hS47 dX0_slip_144 ⟨fs47, bz_p0_ends, bz_p0_tight, o_21, ho47, (hf_fz_p0.st efs47 (by decide)), hP47, za_t_slip⟩
                · have tc_44 := q_eqN c_44
                  refine lv_aload_n hx hb dX0_slip_118 rfl (lv_at hl 4 rfl) (lv_dup hx hb dX0_slip_119 rfl (qg_X0_3 hx hb hts i_X0 hown hK hP37 0 rfl k_0 fv_fz_p0_3 dX0_slip_120 (lv_iconst (v := 1) hx hb dX0_slip_123 (by decide) (lv_isub hx hb dX0_slip_124 (lv_topi fun v_48 ev_48 => ?_)))))
                  have tv_48 := q_sub ev_48 (by omega) (by omega)
                  refine qp_X0_3 hx hb hts i_X0 hown hK hP37 hDa za_t_slip hS37 0 rfl k_0 (OKX0_l ho_fz_p0) dX0_slip_125 (fun H49 lo49 fs49 efs49 (hP49 : va_P (dC, dI) vwCl (zW_t_slip p0 fs49 p0_ends c_p0_ends bz_p0_ends p0_tight c_p0_tight bz_p0_tight p1 f_p1 p1_behind c_p1_behind b_p1_behind p1_code c_p1_code b_p1_code p1_stack c_p1_stack o_21) H49) hS49 => ?_)
                  have ho49 := OKX0_p3 ho_fz_p0 efs49 ⟨by omega, by omega⟩
                  clear hP37 hS37
                  refine lv_goto (tgt := 97) hx hb dX0_slip_128 (by decide) ?_
                  exact ih97 (fu97 - 1) (by omega) fs49 v_48 _ _ _ (by omega) ho49 (hf_fz_p0.st efs49 (by decide)) (q_sn efs49 (by decide) fr_fz_p0_0) (q_sn efs49 (by decide) fr_fz_p0_1) (q_sa efs49 (OKX0_l ho_fz_p0) (by decide)) (by omega) hP49 hS49 (lv_sub hl [0, 1, 2, 3, 4, 5, 6, 7] rfl)
          exact key97 12 f_p0 v_1 _ _ _ (by omega) ho_p0 q_fr.rf fr_p0_0 fr_p0_1 fv_1 (by omega) hP23 hS23 (lv_sub hl [0, 1, 2, 3, 4, 5, 6, 7] rfl)
  exact key14 12 0 a3 v_2 b_p0_ends b_p0_tight b_p1_stack _ _ _ (by omega) (by omega) hP hS (lv_sub hl [0, 1, 2, 3, 4, 5, 6] rfl)
def zo_t_goStep : List Cond := [.code yX0_goStep cX0_goStep 5 (some .int), .fieldLink RX0 24 "BowWalk$Bow" "left" "I", .fieldLink RX0 54 "BowWalk$Bow" "strike" "I", .fieldLink RX0 57 "BowWalk$Bow" "swing" "I", .methodLink RX0 77 yX3_ask, .instanceMethod yX3_ask, .selects RX3 yX3_ask yX3_ask, .initialized RX3, .methodLink RX0 83 yX0_slip, .instanceMethod yX0_slip, .selects RX0 yX0_slip yX0_slip, .initialized RX0]
def zw_t_goStep : List Cond := zo_t_goStep ++ (zw_t_ask ++ (zw_t_slip ++ (wsX00 ++ [])))
theorem gz_t_goStep : zw_t_goStep.all goodWord = true := p1_ga (by decide +kernel) (p1_ga gz_t_ask (p1_ga gz_t_slip (p1_ga gk_X0 p1_g0)))
theorem iz_t_goStep : ∀ w ∈ zw_t_goStep, w ∈ lw_tbl := p1_ia (p1_all [768, 357, 373, 374, 769, 770, 771, 107, 781, 783, 26, 112] (by decide +kernel)) (p1_ia iz_t_ask (p1_ia iz_t_slip (p1_ia ik_X0 p1_i0)))
def zW_t_goStep (p0 : Nat) (f_p0 : List Value) (p0_ends : Nat) (c_p0_ends : ClassId) (b_p0_ends : Nat → Int32) (p0_tight : Nat) (c_p0_tight : ClassId) (b_p0_tight : Nat → Int32) (p1 : Nat) (f_p1 : List Value) (p1_behind : Nat) (c_p1_behind : ClassId) (b_p1_behind : Nat → Int32) (p1_code : Nat) (c_p1_code : ClassId) (b_p1_code : Nat → Int32) (p1_stack : Nat) (c_p1_stack : ClassId) (b_p1_stack : Nat → Int32) : va_W := [(p0, .inr (0, f_p0)), (p0_ends, .inl (c_p0_ends, 2, .inl b_p0_ends)), (p0_tight, .inl (c_p0_tight, 12, .inl b_p0_tight)), (p1, .inr (3, f_p1)), (p1_behind, .inl (c_p1_behind, 6, .inl b_p1_behind)), (p1_code, .inl (c_p1_code, 600, .inl b_p1_code)), (p1_stack, .inl (c_p1_stack, 60, .inl b_p1_stack))]
def zT_t_goStep (c_p0_ends : ClassId) (c_p0_tight : ClassId) (c_p1_behind : ClassId) (c_p1_code : ClassId) (c_p1_stack : ClassId) : List (ClassId × FieldType) := [(c_p0_ends, .int), (c_p0_tight, .int), (c_p1_behind, .int), (c_p1_code, .int), (c_p1_stack, .int)]
def zA_t_goStep (p0 : Nat) (p0_ends : Nat) (p0_tight : Nat) (p1 : Nat) (p1_behind : Nat) (p1_code : Nat) (p1_stack : Nat) : List Nat := [p0, p0_ends, p0_tight, p1, p1_behind, p1_code, p1_stack]
theorem za_t_goStep {p0 : Nat} {f_p0 : List Value} {p0_ends : Nat} {c_p0_ends : ClassId} {b_p0_ends : Nat → Int32} {p0_tight : Nat} {c_p0_tight : ClassId} {b_p0_tight : Nat → Int32} {p1 : Nat} {f_p1 : List Value} {p1_behind : Nat} {c_p1_behind : ClassId} {b_p1_behind : Nat → Int32} {p1_code : Nat} {c_p1_code : ClassId} {b_p1_code : Nat → Int32} {p1_stack : Nat} {c_p1_stack : ClassId} {b_p1_stack : Nat → Int32} : (zW_t_goStep p0 f_p0 p0_ends c_p0_ends b_p0_ends p0_tight c_p0_tight b_p0_tight p1 f_p1 p1_behind c_p1_behind b_p1_behind p1_code c_p1_code b_p1_code p1_stack c_p1_stack b_p1_stack).map Prod.fst = (zA_t_goStep p0 p0_ends p0_tight p1 p1_behind p1_code p1_stack) := rfl
def zG_t_goStep (p0 : Nat) (f_p0 : List Value) (p0_ends : Nat) (c_p0_ends : ClassId) (b_p0_ends : Nat → Int32) (p0_tight : Nat) (c_p0_tight : ClassId) (b_p0_tight : Nat → Int32) (p1 : Nat) (f_p1 : List Value) (p1_behind : Nat) (c_p1_behind : ClassId) (b_p1_behind : Nat → Int32) (p1_code : Nat) (c_p1_code : ClassId) (b_p1_code : Nat → Int32) (p1_stack : Nat) (c_p1_stack : ClassId) (b_p1_stack : Nat → Int32) (a2 : Int32) (a3 : Int32) (a4 : Int32) (r : Int32) (X : va_W → Prop) : Prop := ∃ (y_p0 : List Value) (y_p0_ends : Nat → Int32) (y_p0_tight : Nat → Int32) (y_p1_stack : Nat → Int32), OKX0 y_p0 ∧ q_fr [3, 5, 13, 14] f_p0 y_p0 ∧ X (zW_t_goStep p0 y_p0 p0_ends c_p0_ends y_p0_ends p0_tight c_p0_tight y_p0_tight p1 f_p1 p1_behind c_p1_behind b_p1_behind p1_code c_p1_code b_p1_code p1_stack c_p1_stack y_p1_stack)
theorem zm_t_goStep {p0 : Nat} {f_p0 : List Value} {p0_ends : Nat} {c_p0_ends : ClassId} {b_p0_ends : Nat → Int32} {p0_tight : Nat} {c_p0_tight : ClassId} {b_p0_tight : Nat → Int32} {p1 : Nat} {f_p1 : List Value} {p1_behind : Nat} {c_p1_behind : ClassId} {b_p1_behind : Nat → Int32} {p1_code : Nat} {c_p1_code : ClassId} {b_p1_code : Nat → Int32} {p1_stack : Nat} {c_p1_stack : ClassId} {b_p1_stack : Nat → Int32} {a2 : Int32} {a3 : Int32} {a4 : Int32} : ∀ (r : Int32), ∀ X Y : va_W → Prop, (∀ w, X w → Y w) → zG_t_goStep p0 f_p0 p0_ends c_p0_ends b_p0_ends p0_tight c_p0_tight b_p0_tight p1 f_p1 p1_behind c_p1_behind b_p1_behind p1_code c_p1_code b_p1_code p1_stack c_p1_stack b_p1_stack a2 a3 a4 r X → zG_t_goStep p0 f_p0 p0_ends c_p0_ends b_p0_ends p0_tight c_p0_tight b_p0_tight p1 f_p1 p1_behind c_p1_behind b_p1_behind p1_code c_p1_code b_p1_code p1_stack c_p1_stack b_p1_stack a2 a3 a4 r Y := fun r X Y h h1 => by obtain ⟨x0, x1, x2, x3, x4, x5, hx⟩ := h1; exact ⟨x0, x1, x2, x3, x4, x5, h _ hx⟩
set_option maxHeartbeats 4000000 in
set_option maxRecDepth 100000 in
theorem t_goStep (l : Launch) (dC : Nat → ClassId) (dI : Nat → Nat → Nat) (sz : Nat) (p0 : Nat) (f_p0 : List Value) (p0_ends : Nat) (c_p0_ends : ClassId) (b_p0_ends : Nat → Int32) (p0_tight : Nat) (c_p0_tight : ClassId) (b_p0_tight : Nat → Int32) (p1 : Nat) (f_p1 : List Value) (p1_behind : Nat) (c_p1_behind : ClassId) (b_p1_behind : Nat → Int32) (p1_code : Nat) (c_p1_code : ClassId) (b_p1_code : Nat → Int32) (p1_stack : Nat) (c_p1_stack : ClassId) (b_p1_stack : Nat → Int32) (a2 : Int32) (a3 : Int32) (a4 : Int32) (ho_p0 : OKX0 f_p0) (fr_p0_0 : q_rf f_p0 0 p0_tight) (fr_p0_1 : q_rf f_p0 1 p0_ends) (ho_p1 : OKX3 f_p1) (fr_p1_0 : q_rf f_p1 0 p1_code) (fr_p1_1 : q_rf f_p1 1 p1_behind) (fr_p1_2 : q_rf f_p1 2 p1_stack) (hr_p1_behind : q_rg 6 (0) 600 b_p1_behind) : Met l yX0_goStep zw_t_goStep ({ frames := 3, cells := 0, slots := 0, locals := 76 }) (va_Pc [.ref p0, .ref p1, .int a2, .int a3, .int a4] (q_pre (dC, dI) (zW_t_goStep p0 f_p0 p0_ends c_p0_ends b_p0_ends p0_tight c_p0_tight b_p0_tight p1 f_p1 p1_behind c_p1_behind b_p1_behind p1_code c_p1_code b_p1_code p1_stack c_p1_stack b_p1_stack) (zT_t_goStep c_p0_ends c_p0_tight c_p1_behind c_p1_code c_p1_stack) q_E0 sz)) (q_Qi (dC, dI) (zG_t_goStep p0 f_p0 p0_ends c_p0_ends b_p0_ends p0_tight c_p0_tight b_p0_tight p1 f_p1 p1_behind c_p1_behind b_p1_behind p1_code c_p1_code b_p1_code p1_stack c_p1_stack b_p1_stack a2 a3 a4) (zA_t_goStep p0 p0_ends p0_tight p1 p1_behind p1_code p1_stack) (va_A (zW_t_goStep p0 f_p0 p0_ends c_p0_ends b_p0_ends p0_tight c_p0_tight b_p0_tight p1 f_p1 p1_behind c_p1_behind b_p1_behind p1_code c_p1_code b_p1_code p1_stack c_p1_stack b_p1_stack) sz)) 0 0 (va_A (zW_t_goStep p0 f_p0 p0_ends c_p0_ends b_p0_ends p0_tight c_p0_tight b_p0_tight p1 f_p1 p1_behind c_p1_behind b_p1_behind p1_code c_p1_code b_p1_code p1_stack c_p1_stack b_p1_stack) sz) := by
  refine Met.ofW (cc := cX0_goStep) (maxL := 5) (ret := (some .int)) (by decide) rfl ?_
  intro p e s m args below meth c s₁ B hml hv
  obtain ⟨rfl, hsz, hP, hK, hD0, hE⟩ := hv
  have hx := B.exec
  have hb := B.bytes
  have hr := B.returns
  have hts := atoms_spec (ws := zw_t_goStep) B.pre
  have hown : s.vm.findClass RX0 = some m.cls := findClass_of_methodNamed B.named
  have hlocks := B.notSynchronized
  subst hsz
  have hD := hD0.self (sz := s.heap.size)
  generalize hAe : va_A (zW_t_goStep p0 f_p0 p0_ends c_p0_ends b_p0_ends p0_tight c_p0_tight b_p0_tight p1 f_p1 p1_behind c_p1_behind b_p1_behind p1_code c_p1_code b_p1_code p1_stack c_p1_stack b_p1_stack) s.heap.size = A at hD hE ⊢
  have hA : ∀ q : Nat, s.heap.size ≤ q → A q := fun q h => by rw [← hAe]; exact Or.inr h
  have hDa : q_DA A (zA_t_goStep p0 p0_ends p0_tight p1 p1_behind p1_code p1_stack) := q_DA.mk hD za_t_goStep
  clear hAe hD0 hD
  have hS : va_S A s.heap s.heap [] := va_S.rf
  have m_0 : (.fieldLink RX0 24 "BowWalk$Bow" "left" "I" : Cond) ∈ zw_t_goStep := List.mem_append_left _ (List.mem_of_getElem? (i := 1) rfl)
  have k_0 := hts _ m_0
  have m_1 : (.fieldLink RX0 54 "BowWalk$Bow" "strike" "I" : Cond) ∈ zw_t_goStep := List.mem_append_left _ (List.mem_of_getElem? (i := 2) rfl)
  have k_1 := hts _ m_1
  have m_2 : (.fieldLink RX0 57 "BowWalk$Bow" "swing" "I" : Cond) ∈ zw_t_goStep := List.mem_append_left _ (List.mem_of_getElem? (i := 3) rfl)
  have k_2 := hts _ m_2
  have m_3 : (.methodLink RX0 77 yX3_ask : Cond) ∈ zw_t_goStep := List.mem_append_left _ (List.mem_of_getElem? (i := 4) rfl)
  have k_3 := hts _ m_3
  have m_4 : (.instanceMethod yX3_ask : Cond) ∈ zw_t_goStep := List.mem_append_left _ (List.mem_of_getElem? (i := 5) rfl)
  have k_4 := hts _ m_4
  have m_5 : (.selects RX3 yX3_ask yX3_ask : Cond) ∈ zw_t_goStep := List.mem_append_left _ (List.mem_of_getElem? (i := 6) rfl)
  have k_5 := hts _ m_5
  have m_6 : (.initialized RX3 : Cond) ∈ zw_t_goStep := List.mem_append_left _ (List.mem_of_getElem? (i := 7) rfl)
  have k_6 := hts _ m_6
  have m_7 : (.methodLink RX0 83 yX0_slip : Cond) ∈ zw_t_goStep := List.mem_append_left _ (List.mem_of_getElem? (i := 8) rfl)
  have k_7 := hts _ m_7
  have m_8 : (.instanceMethod yX0_slip : Cond) ∈ zw_t_goStep := List.mem_append_left _ (List.mem_of_getElem? (i := 9) rfl)
  have k_8 := hts _ m_8
  have m_9 : (.selects RX0 yX0_slip yX0_slip : Cond) ∈ zw_t_goStep := List.mem_append_left _ (List.mem_of_getElem? (i := 10) rfl)
  have k_9 := hts _ m_9
  have m_10 : (.initialized RX0 : Cond) ∈ zw_t_goStep := List.mem_append_left _ (List.mem_of_getElem? (i := 11) rfl)
  have k_10 := hts _ m_10
  have g_t_ask : ∀ w ∈ zw_t_ask, w ∈ zw_t_goStep := fun w h => List.mem_append_right _ (List.mem_append_left _ h)
  have g_t_slip : ∀ w ∈ zw_t_slip, w ∈ zw_t_goStep := fun w h => List.mem_append_right _ (List.mem_append_right _ (List.mem_append_left _ h))
  have i_X0 : ∀ w ∈ u_ws RX0 TX0 15, w ∈ zw_t_goStep := fun w h => List.mem_append_right _ (List.mem_append_right _ (List.mem_append_right _ (List.mem_append_left _ h)))
  have lt_0 : (0 : Int32).toInt = 0 := by decide
  have lt_1 : (1 : Int32).toInt = 1 := by decide
  have lt_2 : (2 : Int32).toInt = 2 := by decide
  have hl := lv_entry ([.ref p0, .ref p1, .int a2, .int a3, .int a4]) (n := 5) (Nat.le_of_ble_eq_true rfl)
  rw [lg_entry_eq]
  generalize (lg_sl ([.ref p0, .ref p1, .int a2, .int a3, .int a4]) ++ List.replicate (5 - (lg_sl ([.ref p0, .ref p1, .int a2, .int a3, .int a4])).length) Slot.unset).toArray = ls at hl ⊢
  have hl : lv_has ls 5 [(0, .ref p0), (1, .ref p1), (2, .int a2), (3, .int a3), (4, .int a4)] := hl
  refine lv_aload_n hx hb dX0_goStep_0 rfl (lv_at hl 0 rfl) ?_
  obtain ⟨v_1, fv_1, tv_1⟩ := OKX0_g3 ho_p0
  refine qg_X0_3 hx hb hts i_X0 hown hK hP 0 rfl k_0 fv_1 dX0_goStep_1 ?_
  refine lv_if_ne (tgt := 9) hx hb dX0_goStep_4 (by decide) (fun c_2 => ?_) (fun c_2 => ?_)
  · have tc_2 := q_ne c_2
    refine lv_aload_n hx hb dX0_goStep_9 rfl (lv_at hl 0 rfl) (lv_iload_n hx hb dX0_goStep_10 rfl (lv_at hl 3 rfl) (qp_X0_13 hx hb hts i_X0 hown hK hP hDa za_t_goStep hS 0 rfl k_1 (OKX0_l ho_p0) dX0_goStep_11 (fun H3 lo3 fs3 efs3 (hP3 : va_P (dC, dI) vwCl (zW_t_goStep p0 fs3 p0_ends c_p0_ends b_p0_ends p0_tight c_p0_tight b_p0_tight p1 f_p1 p1_behind c_p1_behind b_p1_behind p1_code c_p1_code b_p1_code p1_stack c_p1_stack b_p1_stack) H3) hS3 => ?_)))
    have ho3 := OKX0_p13 ho_p0 efs3
    clear hP hS
    refine lv_aload_n hx hb dX0_goStep_14 rfl (lv_at hl 0 rfl) (lv_iload hx hb dX0_goStep_15 (lv_at hl 4 rfl) (qp_X0_14 hx hb hts i_X0 hown hK hP3 hDa za_t_goStep hS3 0 rfl k_2 (OKX0_l ho3) dX0_goStep_17 (fun H4 lo4 fs4 efs4 (hP4 : va_P (dC, dI) vwCl (zW_t_goStep p0 fs4 p0_ends c_p0_ends b_p0_ends p0_tight c_p0_tight b_p0_tight p1 f_p1 p1_behind c_p1_behind b_p1_behind p1_code c_p1_code b_p1_code p1_stack c_p1_stack b_p1_stack) H4) hS4 => ?_)))
    have ho4 := OKX0_p14 ho3 efs4
    clear hP3 hS3
    refine lv_aload_n hx hb dX0_goStep_20 rfl (lv_at hl 0 rfl) (lv_aload_n hx hb dX0_goStep_21 rfl (lv_at hl 1 rfl) (lv_iload_n hx hb dX0_goStep_22 rfl (lv_at hl 2 rfl) (lv_aload_n hx hb dX0_goStep_23 rfl (lv_at hl 1 rfl) (lv_iconst (v := 2) hx hb dX0_goStep_24 (by decide) (lv_iload_n hx hb dX0_goStep_25 rfl (lv_at hl 2 rfl) (lv_imul hx hb dX0_goStep_26 (lv_topi fun v_5 ev_5 => lv_iconst (v := 1) hx hb dX0_goStep_27 (by decide) ?_)))))))
    refine lv_iadd hx hb dX0_goStep_28 (lv_topi fun v_6 ev_6 => lv_aload_n hx hb dX0_goStep_29 rfl (lv_at hl 0 rfl) (lv_aload_n hx hb dX0_goStep_30 rfl (lv_at hl 0 rfl) (qg_X0_3 hx hb hts i_X0 hown hK hP4 0 rfl k_0 (q_sn efs4 (by decide) (q_sn efs3 (by decide) fv_1)) dX0_goStep_31 (lv_iconst (v := 1) hx hb dX0_goStep_34 (by decide) (lv_isub hx hb dX0_goStep_35 (lv_topi fun v_7 ev_7 => ?_))))))
    have tv_7 := q_sub ev_7 (by omega) (by omega)
    refine q_cVi (As := [.int v_6, .ref p0, .int v_7]) (rest := [.int a2, .ref p1, .ref p0]) q_w0 trivial hK hP4 hDa za_t_goStep hS4 hA [3, 4, 5, 6, 0, 1, 2] [2, 3, 4, 0, 1] (by decide +kernel) ⟨hx, hb, hml, hown, hts⟩ (t_ask l dC dI H4.size p1 f_p1 p1_behind c_p1_behind b_p1_behind p1_code c_p1_code b_p1_code p1_stack c_p1_stack b_p1_stack p0 fs4 p0_ends c_p0_ends b_p0_ends p0_tight c_p0_tight b_p0_tight v_6 v_7 ho_p1 fr_p1_0 fr_p1_1 fr_p1_2 hr_p1_behind ho4 ((q_sn efs4 (by decide) (q_sn efs3 (by decide) fr_p0_0))) ((q_sn efs4 (by decide) (q_sn efs3 (by decide) fr_p0_1))) ((by omega))) rfl rfl (cwV 3 hts (p1_gV m_3 m_4 m_5 m_6 g_t_ask gz_t_ask) rfl rfl rfl (by decide +kernel) ⟨by decide, by decide⟩) (va_recv hK hP4 (ci := 3) (q0 := 3) rfl rfl) zm_t_ask rfl hl.1 rfl (Nat.le_of_ble_eq_true rfl) dX0_goStep_36 ⟨by decide, by decide⟩ (fun r_8 H9 lo9 hG9 hS9 => ?_)
    obtain ⟨o_10, hQ9⟩ := hG9
    have hP9 : va_P (dC, dI) vwCl (zW_t_goStep p0 fs4 p0_ends c_p0_ends b_p0_ends p0_tight c_p0_tight b_p0_tight p1 f_p1 p1_behind c_p1_behind b_p1_behind p1_code c_p1_code b_p1_code p1_stack c_p1_stack o_10) H9 := hQ9
    clear hQ9 hP4 hS4
    refine q_cVi (As := [.ref p1, .int a2, .int r_8]) (rest := []) q_w0 trivial hK hP9 hDa za_t_goStep hS9 hA [0, 1, 2, 3, 4, 5, 6] [0, 1, 2, 3, 4] (by decide +kernel) ⟨hx, hb, hml, hown, hts⟩ (t_slip l dC dI H9.size p0 fs4 p0_ends c_p0_ends b_p0_ends p0_tight c_p0_tight b_p0_tight p1 f_p1 p1_behind c_p1_behind b_p1_behind p1_code c_p1_code b_p1_code p1_stack c_p1_stack o_10 a2 r_8 ho4 ((q_sn efs4 (by decide) (q_sn efs3 (by decide) fr_p0_0))) ((q_sn efs4 (by decide) (q_sn efs3 (by decide) fr_p0_1))) ho_p1 fr_p1_0 fr_p1_1 fr_p1_2 hr_p1_behind) rfl rfl (cwV 3 hts (p1_gV m_7 m_8 m_9 m_10 g_t_slip gz_t_slip) rfl rfl rfl (by decide +kernel) ⟨by decide, by decide⟩) (va_recv hK hP9 (ci := 0) (q0 := 0) rfl rfl) zm_t_slip rfl hl.1 rfl (Nat.le_of_ble_eq_true rfl) dX0_goStep_39 ⟨by decide, by decide⟩ (fun r_11 H12 lo12 hG12 hS12 => ?_)
    obtain ⟨o_13, o_14, o_15, o_16, ho_17, hf_18, hQ12⟩ := hG12
    have hP12 : va_P (dC, dI) vwCl (zW_t_goStep p0 o_13 p0_ends c_p0_ends o_14 p0_tight c_p0_tight o_15 p1 f_p1 p1_behind c_p1_behind b_p1_behind p1_code c_p1_code b_p1_code p1_stack c_p1_stack o_16) H12 := hQ12
    clear hQ12 hP9 hS9
    exact q_iret hx hb hr hlocks hS12 dX0_goStep_42 ⟨o_13, o_14, o_15, o_16, ho_17, (((q_fr.rf.st efs3 (by decide)).st efs4 (by decide)).tr hf_18 (by decide)), hP12, za_t_goStep⟩
  · have tc_2 := q_eqN c_2
    refine lv_iconst (v := 0) hx hb dX0_goStep_7 (by decide) ?_
    exact q_iret hx hb hr hlocks hS dX0_goStep_8 ⟨f_p0, b_p0_ends, b_p0_tight, b_p1_stack, ho_p0, q_fr.rf, hP, za_t_goStep⟩
def zo_t_pullByHand : List Cond := [.code yX0_pullByHand cX0_pullByHand 3 (some .int), .fieldLink RX0 54 "BowWalk$Bow" "strike" "I", .fieldLink RX0 57 "BowWalk$Bow" "swing" "I", .methodLink RX0 83 yX0_slip, .instanceMethod yX0_slip, .selects RX0 yX0_slip yX0_slip, .initialized RX0]
def zw_t_pullByHand : List Cond := zo_t_pullByHand ++ (zw_t_slip ++ (wsX00 ++ []))
theorem gz_t_pullByHand : zw_t_pullByHand.all goodWord = true := p1_ga (by decide +kernel) (p1_ga gz_t_slip (p1_ga gk_X0 p1_g0))
theorem iz_t_pullByHand : ∀ w ∈ zw_t_pullByHand, w ∈ lw_tbl := p1_ia (p1_all [801, 373, 374, 781, 783, 26, 112] (by decide +kernel)) (p1_ia iz_t_slip (p1_ia ik_X0 p1_i0))
def zW_t_pullByHand (p0 : Nat) (f_p0 : List Value) (p0_ends : Nat) (c_p0_ends : ClassId) (b_p0_ends : Nat → Int32) (p0_tight : Nat) (c_p0_tight : ClassId) (b_p0_tight : Nat → Int32) (p1 : Nat) (f_p1 : List Value) (p1_behind : Nat) (c_p1_behind : ClassId) (b_p1_behind : Nat → Int32) (p1_code : Nat) (c_p1_code : ClassId) (b_p1_code : Nat → Int32) (p1_stack : Nat) (c_p1_stack : ClassId) (b_p1_stack : Nat → Int32) : va_W := [(p0, .inr (0, f_p0)), (p0_ends, .inl (c_p0_ends, 2, .inl b_p0_ends)), (p0_tight, .inl (c_p0_tight, 12, .inl b_p0_tight)), (p1, .inr (3, f_p1)), (p1_behind, .inl (c_p1_behind, 6, .inl b_p1_behind)), (p1_code, .inl (c_p1_code, 600, .inl b_p1_code)), (p1_stack, .inl (c_p1_stack, 60, .inl b_p1_stack))]
def zT_t_pullByHand (c_p0_ends : ClassId) (c_p0_tight : ClassId) (c_p1_behind : ClassId) (c_p1_code : ClassId) (c_p1_stack : ClassId) : List (ClassId × FieldType) := [(c_p0_ends, .int), (c_p0_tight, .int), (c_p1_behind, .int), (c_p1_code, .int), (c_p1_stack, .int)]
def zA_t_pullByHand (p0 : Nat) (p0_ends : Nat) (p0_tight : Nat) (p1 : Nat) (p1_behind : Nat) (p1_code : Nat) (p1_stack : Nat) : List Nat := [p0, p0_ends, p0_tight, p1, p1_behind, p1_code, p1_stack]
theorem za_t_pullByHand {p0 : Nat} {f_p0 : List Value} {p0_ends : Nat} {c_p0_ends : ClassId} {b_p0_ends : Nat → Int32} {p0_tight : Nat} {c_p0_tight : ClassId} {b_p0_tight : Nat → Int32} {p1 : Nat} {f_p1 : List Value} {p1_behind : Nat} {c_p1_behind : ClassId} {b_p1_behind : Nat → Int32} {p1_code : Nat} {c_p1_code : ClassId} {b_p1_code : Nat → Int32} {p1_stack : Nat} {c_p1_stack : ClassId} {b_p1_stack : Nat → Int32} : (zW_t_pullByHand p0 f_p0 p0_ends c_p0_ends b_p0_ends p0_tight c_p0_tight b_p0_tight p1 f_p1 p1_behind c_p1_behind b_p1_behind p1_code c_p1_code b_p1_code p1_stack c_p1_stack b_p1_stack).map Prod.fst = (zA_t_pullByHand p0 p0_ends p0_tight p1 p1_behind p1_code p1_stack) := rfl
def zG_t_pullByHand (p0 : Nat) (f_p0 : List Value) (p0_ends : Nat) (c_p0_ends : ClassId) (b_p0_ends : Nat → Int32) (p0_tight : Nat) (c_p0_tight : ClassId) (b_p0_tight : Nat → Int32) (p1 : Nat) (f_p1 : List Value) (p1_behind : Nat) (c_p1_behind : ClassId) (b_p1_behind : Nat → Int32) (p1_code : Nat) (c_p1_code : ClassId) (b_p1_code : Nat → Int32) (p1_stack : Nat) (c_p1_stack : ClassId) (b_p1_stack : Nat → Int32) (a2 : Int32) (r : Int32) (X : va_W → Prop) : Prop := ∃ (y_p0 : List Value) (y_p0_ends : Nat → Int32) (y_p0_tight : Nat → Int32) (y_p1_stack : Nat → Int32), OKX0 y_p0 ∧ q_fr [3, 5, 13, 14] f_p0 y_p0 ∧ X (zW_t_pullByHand p0 y_p0 p0_ends c_p0_ends y_p0_ends p0_tight c_p0_tight y_p0_tight p1 f_p1 p1_behind c_p1_behind b_p1_behind p1_code c_p1_code b_p1_code p1_stack c_p1_stack y_p1_stack)
theorem zm_t_pullByHand {p0 : Nat} {f_p0 : List Value} {p0_ends : Nat} {c_p0_ends : ClassId} {b_p0_ends : Nat → Int32} {p0_tight : Nat} {c_p0_tight : ClassId} {b_p0_tight : Nat → Int32} {p1 : Nat} {f_p1 : List Value} {p1_behind : Nat} {c_p1_behind : ClassId} {b_p1_behind : Nat → Int32} {p1_code : Nat} {c_p1_code : ClassId} {b_p1_code : Nat → Int32} {p1_stack : Nat} {c_p1_stack : ClassId} {b_p1_stack : Nat → Int32} {a2 : Int32} : ∀ (r : Int32), ∀ X Y : va_W → Prop, (∀ w, X w → Y w) → zG_t_pullByHand p0 f_p0 p0_ends c_p0_ends b_p0_ends p0_tight c_p0_tight b_p0_tight p1 f_p1 p1_behind c_p1_behind b_p1_behind p1_code c_p1_code b_p1_code p1_stack c_p1_stack b_p1_stack a2 r X → zG_t_pullByHand p0 f_p0 p0_ends c_p0_ends b_p0_ends p0_tight c_p0_tight b_p0_tight p1 f_p1 p1_behind c_p1_behind b_p1_behind p1_code c_p1_code b_p1_code p1_stack c_p1_stack b_p1_stack a2 r Y := fun r X Y h h1 => by obtain ⟨x0, x1, x2, x3, x4, x5, hx⟩ := h1; exact ⟨x0, x1, x2, x3, x4, x5, h _ hx⟩
set_option maxHeartbeats 4000000 in
set_option maxRecDepth 100000 in
theorem t_pullByHand (l : Launch) (dC : Nat → ClassId) (dI : Nat → Nat → Nat) (sz : Nat) (p0 : Nat) (f_p0 : List Value) (p0_ends : Nat) (c_p0_ends : ClassId) (b_p0_ends : Nat → Int32) (p0_tight : Nat) (c_p0_tight : ClassId) (b_p0_tight : Nat → Int32) (p1 : Nat) (f_p1 : List Value) (p1_behind : Nat) (c_p1_behind : ClassId) (b_p1_behind : Nat → Int32) (p1_code : Nat) (c_p1_code : ClassId) (b_p1_code : Nat → Int32) (p1_stack : Nat) (c_p1_stack : ClassId) (b_p1_stack : Nat → Int32) (a2 : Int32) (ho_p0 : OKX0 f_p0) (fr_p0_0 : q_rf f_p0 0 p0_tight) (fr_p0_1 : q_rf f_p0 1 p0_ends) (ho_p1 : OKX3 f_p1) (fr_p1_0 : q_rf f_p1 0 p1_code) (fr_p1_1 : q_rf f_p1 1 p1_behind) (fr_p1_2 : q_rf f_p1 2 p1_stack) (hr_p1_behind : q_rg 6 (0) 600 b_p1_behind) : Met l yX0_pullByHand zw_t_pullByHand ({ frames := 3, cells := 0, slots := 0, locals := 76 }) (va_Pc [.ref p0, .ref p1, .int a2] (q_pre (dC, dI) (zW_t_pullByHand p0 f_p0 p0_ends c_p0_ends b_p0_ends p0_tight c_p0_tight b_p0_tight p1 f_p1 p1_behind c_p1_behind b_p1_behind p1_code c_p1_code b_p1_code p1_stack c_p1_stack b_p1_stack) (zT_t_pullByHand c_p0_ends c_p0_tight c_p1_behind c_p1_code c_p1_stack) q_E0 sz)) (q_Qi (dC, dI) (zG_t_pullByHand p0 f_p0 p0_ends c_p0_ends b_p0_ends p0_tight c_p0_tight b_p0_tight p1 f_p1 p1_behind c_p1_behind b_p1_behind p1_code c_p1_code b_p1_code p1_stack c_p1_stack b_p1_stack a2) (zA_t_pullByHand p0 p0_ends p0_tight p1 p1_behind p1_code p1_stack) (va_A (zW_t_pullByHand p0 f_p0 p0_ends c_p0_ends b_p0_ends p0_tight c_p0_tight b_p0_tight p1 f_p1 p1_behind c_p1_behind b_p1_behind p1_code c_p1_code b_p1_code p1_stack c_p1_stack b_p1_stack) sz)) 0 0 (va_A (zW_t_pullByHand p0 f_p0 p0_ends c_p0_ends b_p0_ends p0_tight c_p0_tight b_p0_tight p1 f_p1 p1_behind c_p1_behind b_p1_behind p1_code c_p1_code b_p1_code p1_stack c_p1_stack b_p1_stack) sz) := by
  refine Met.ofW (cc := cX0_pullByHand) (maxL := 3) (ret := (some .int)) (by decide) rfl ?_
  intro p e s m args below meth c s₁ B hml hv
  obtain ⟨rfl, hsz, hP, hK, hD0, hE⟩ := hv
  have hx := B.exec
  have hb := B.bytes
  have hr := B.returns
  have hts := atoms_spec (ws := zw_t_pullByHand) B.pre
  have hown : s.vm.findClass RX0 = some m.cls := findClass_of_methodNamed B.named
  have hlocks := B.notSynchronized
  subst hsz
  have hD := hD0.self (sz := s.heap.size)
  generalize hAe : va_A (zW_t_pullByHand p0 f_p0 p0_ends c_p0_ends b_p0_ends p0_tight c_p0_tight b_p0_tight p1 f_p1 p1_behind c_p1_behind b_p1_behind p1_code c_p1_code b_p1_code p1_stack c_p1_stack b_p1_stack) s.heap.size = A at hD hE ⊢
  have hA : ∀ q : Nat, s.heap.size ≤ q → A q := fun q h => by rw [← hAe]; exact Or.inr h
  have hDa : q_DA A (zA_t_pullByHand p0 p0_ends p0_tight p1 p1_behind p1_code p1_stack) := q_DA.mk hD za_t_pullByHand
  clear hAe hD0 hD
  have hS : va_S A s.heap s.heap [] := va_S.rf
  have m_0 : (.fieldLink RX0 54 "BowWalk$Bow" "strike" "I" : Cond) ∈ zw_t_pullByHand := List.mem_append_left _ (List.mem_of_getElem? (i := 1) rfl)
  have k_0 := hts _ m_0
  have m_1 : (.fieldLink RX0 57 "BowWalk$Bow" "swing" "I" : Cond) ∈ zw_t_pullByHand := List.mem_append_left _ (List.mem_of_getElem? (i := 2) rfl)
  have k_1 := hts _ m_1
  have m_2 : (.methodLink RX0 83 yX0_slip : Cond) ∈ zw_t_pullByHand := List.mem_append_left _ (List.mem_of_getElem? (i := 3) rfl)
  have k_2 := hts _ m_2
  have m_3 : (.instanceMethod yX0_slip : Cond) ∈ zw_t_pullByHand := List.mem_append_left _ (List.mem_of_getElem? (i := 4) rfl)
  have k_3 := hts _ m_3
  have m_4 : (.selects RX0 yX0_slip yX0_slip : Cond) ∈ zw_t_pullByHand := List.mem_append_left _ (List.mem_of_getElem? (i := 5) rfl)
  have k_4 := hts _ m_4
  have m_5 : (.initialized RX0 : Cond) ∈ zw_t_pullByHand := List.mem_append_left _ (List.mem_of_getElem? (i := 6) rfl)
  have k_5 := hts _ m_5
  have g_t_slip : ∀ w ∈ zw_t_slip, w ∈ zw_t_pullByHand := fun w h => List.mem_append_right _ (List.mem_append_left _ h)
  have i_X0 : ∀ w ∈ u_ws RX0 TX0 15, w ∈ zw_t_pullByHand := fun w h => List.mem_append_right _ (List.mem_append_right _ (List.mem_append_left _ h))
  have lt_0 : (0 : Int32).toInt = 0 := by decide
  have hl := lv_entry ([.ref p0, .ref p1, .int a2]) (n := 3) (Nat.le_of_ble_eq_true rfl)
  rw [lg_entry_eq]
  generalize (lg_sl ([.ref p0, .ref p1, .int a2]) ++ List.replicate (3 - (lg_sl ([.ref p0, .ref p1, .int a2])).length) Slot.unset).toArray = ls at hl ⊢
  have hl : lv_has ls 3 [(0, .ref p0), (1, .ref p1), (2, .int a2)] := hl
  refine lv_aload_n hx hb dX0_pullByHand_0 rfl (lv_at hl 0 rfl) (lv_iconst (v := 0) hx hb dX0_pullByHand_1 (by decide) (qp_X0_13 hx hb hts i_X0 hown hK hP hDa za_t_pullByHand hS 0 rfl k_0 (OKX0_l ho_p0) dX0_pullByHand_2 (fun H1 lo1 fs1 efs1 (hP1 : va_P (dC, dI) vwCl (zW_t_pullByHand p0 fs1 p0_ends c_p0_ends b_p0_ends p0_tight c_p0_tight b_p0_tight p1 f_p1 p1_behind c_p1_behind b_p1_behind p1_code c_p1_code b_p1_code p1_stack c_p1_stack b_p1_stack) H1) hS1 => ?_)))
  have ho1 := OKX0_p13 ho_p0 efs1
  clear hP hS
  refine lv_aload_n hx hb dX0_pullByHand_5 rfl (lv_at hl 0 rfl) (lv_iconst (v := 0) hx hb dX0_pullByHand_6 (by decide) (qp_X0_14 hx hb hts i_X0 hown hK hP1 hDa za_t_pullByHand hS1 0 rfl k_1 (OKX0_l ho1) dX0_pullByHand_7 (fun H2 lo2 fs2 efs2 (hP2 : va_P (dC, dI) vwCl (zW_t_pullByHand p0 fs2 p0_ends c_p0_ends b_p0_ends p0_tight c_p0_tight b_p0_tight p1 f_p1 p1_behind c_p1_behind b_p1_behind p1_code c_p1_code b_p1_code p1_stack c_p1_stack b_p1_stack) H2) hS2 => ?_)))
  have ho2 := OKX0_p14 ho1 efs2
  clear hP1 hS1
  refine lv_aload_n hx hb dX0_pullByHand_10 rfl (lv_at hl 0 rfl) (lv_aload_n hx hb dX0_pullByHand_11 rfl (lv_at hl 1 rfl) (lv_iconst (v := 0) hx hb dX0_pullByHand_12 (by decide) (lv_iload_n hx hb dX0_pullByHand_13 rfl (lv_at hl 2 rfl) ?_)))
  refine q_cVi (As := [.ref p1, .int 0, .int a2]) (rest := []) q_w0 trivial hK hP2 hDa za_t_pullByHand hS2 hA [0, 1, 2, 3, 4, 5, 6] [0, 1, 2, 3, 4] (by decide +kernel) ⟨hx, hb, hml, hown, hts⟩ (t_slip l dC dI H2.size p0 fs2 p0_ends c_p0_ends b_p0_ends p0_tight c_p0_tight b_p0_tight p1 f_p1 p1_behind c_p1_behind b_p1_behind p1_code c_p1_code b_p1_code p1_stack c_p1_stack b_p1_stack 0 a2 ho2 ((q_sn efs2 (by decide) (q_sn efs1 (by decide) fr_p0_0))) ((q_sn efs2 (by decide) (q_sn efs1 (by decide) fr_p0_1))) ho_p1 fr_p1_0 fr_p1_1 fr_p1_2 hr_p1_behind) rfl rfl (cwV 3 hts (p1_gV m_2 m_3 m_4 m_5 g_t_slip gz_t_slip) rfl rfl rfl (by decide +kernel) ⟨by decide, by decide⟩) (va_recv hK hP2 (ci := 0) (q0 := 0) rfl rfl) zm_t_slip rfl hl.1 rfl (Nat.le_of_ble_eq_true rfl) dX0_pullByHand_14 ⟨by decide, by decide⟩ (fun r_3 H4 lo4 hG4 hS4 => ?_)
  obtain ⟨o_5, o_6, o_7, o_8, ho_9, hf_10, hQ4⟩ := hG4
  have hP4 : va_P (dC, dI) vwCl (zW_t_pullByHand p0 o_5 p0_ends c_p0_ends o_6 p0_tight c_p0_tight o_7 p1 f_p1 p1_behind c_p1_behind b_p1_behind p1_code c_p1_code b_p1_code p1_stack c_p1_stack o_8) H4 := hQ4
  clear hQ4 hP2 hS2
  exact q_iret hx hb hr hlocks hS4 dX0_pullByHand_17 ⟨o_5, o_6, o_7, o_8, ho_9, (((q_fr.rf.st efs1 (by decide)).st efs2 (by decide)).tr hf_10 (by decide)), hP4, za_t_pullByHand⟩
def zo_t_copyFrom : List Cond := [.code yX0_copyFrom cX0_copyFrom 3 none, .fieldLink RX0 17 "BowWalk$Bow" "ends" "[I", .fieldLink RX0 20 "BowWalk$Bow" "crossings" "I", .fieldLink RX0 39 "BowWalk$Bow" "sides" "I", .methodLink RX0 69 yX0_takeKnot, .instanceMethod yX0_takeKnot, .selects RX0 yX0_takeKnot yX0_takeKnot, .initialized RX0, .fieldLink RX0 45 "BowWalk$Bow" "smooth" "I", .fieldLink RX0 48 "BowWalk$Bow" "weight" "I", .fieldLink RX0 51 "BowWalk$Bow" "length" "I", .methodLink RX0 73 yX0_takeCord, .instanceMethod yX0_takeCord, .selects RX0 yX0_takeCord yX0_takeCord, .fieldLink RX0 24 "BowWalk$Bow" "left" "I", .fieldLink RX0 27 "BowWalk$Bow" "steps" "I", .fieldLink RX0 30 "BowWalk$Bow" "slipped" "I", .fieldLink RX0 33 "BowWalk$Bow" "walk" "I", .fieldLink RX0 36 "BowWalk$Bow" "nextStep" "I", .fieldLink RX0 11 "BowWalk$Bow" "tight" "[I"]
def zw_t_copyFrom : List Cond := zo_t_copyFrom ++ (zw_t_takeKnot ++ (zw_t_takeCord ++ (wsX00 ++ [])))
theorem gz_t_copyFrom : zw_t_copyFrom.all goodWord = true := p1_ga (by decide +kernel) (p1_ga gz_t_takeKnot (p1_ga gz_t_takeCord (p1_ga gk_X0 p1_g0)))
theorem iz_t_copyFrom : ∀ w ∈ zw_t_copyFrom, w ∈ lw_tbl := p1_ia (p1_all [1016, 352, 355, 368, 1017, 732, 733, 112, 370, 371, 372, 1018, 738, 739, 357, 360, 362, 364, 366, 350] (by decide +kernel)) (p1_ia iz_t_takeKnot (p1_ia iz_t_takeCord (p1_ia ik_X0 p1_i0)))
def zW_t_copyFrom (p0 : Nat) (f_p0 : List Value) (p0_ends : Nat) (c_p0_ends : ClassId) (b_p0_ends : Nat → Int32) (p0_tight : Nat) (c_p0_tight : ClassId) (b_p0_tight : Nat → Int32) (p1 : Nat) (f_p1 : List Value) (p1_ends : Nat) (c_p1_ends : ClassId) (b_p1_ends : Nat → Int32) (p1_tight : Nat) (c_p1_tight : ClassId) (b_p1_tight : Nat → Int32) : va_W := [(p0, .inr (0, f_p0)), (p0_ends, .inl (c_p0_ends, 2, .inl b_p0_ends)), (p0_tight, .inl (c_p0_tight, 12, .inl b_p0_tight)), (p1, .inr (0, f_p1)), (p1_ends, .inl (c_p1_ends, 2, .inl b_p1_ends)), (p1_tight, .inl (c_p1_tight, 12, .inl b_p1_tight))]
def zT_t_copyFrom (c_p0_ends : ClassId) (c_p0_tight : ClassId) (c_p1_ends : ClassId) (c_p1_tight : ClassId) : List (ClassId × FieldType) := [(c_p0_ends, .int), (c_p0_tight, .int), (c_p1_ends, .int), (c_p1_tight, .int)]
def zA_t_copyFrom (p0 : Nat) (p0_ends : Nat) (p0_tight : Nat) (p1 : Nat) (p1_ends : Nat) (p1_tight : Nat) : List Nat := [p0, p0_ends, p0_tight, p1, p1_ends, p1_tight]
theorem za_t_copyFrom {p0 : Nat} {f_p0 : List Value} {p0_ends : Nat} {c_p0_ends : ClassId} {b_p0_ends : Nat → Int32} {p0_tight : Nat} {c_p0_tight : ClassId} {b_p0_tight : Nat → Int32} {p1 : Nat} {f_p1 : List Value} {p1_ends : Nat} {c_p1_ends : ClassId} {b_p1_ends : Nat → Int32} {p1_tight : Nat} {c_p1_tight : ClassId} {b_p1_tight : Nat → Int32} : (zW_t_copyFrom p0 f_p0 p0_ends c_p0_ends b_p0_ends p0_tight c_p0_tight b_p0_tight p1 f_p1 p1_ends c_p1_ends b_p1_ends p1_tight c_p1_tight b_p1_tight).map Prod.fst = (zA_t_copyFrom p0 p0_ends p0_tight p1 p1_ends p1_tight) := rfl
def zG_t_copyFrom (p0 : Nat) (f_p0 : List Value) (p0_ends : Nat) (c_p0_ends : ClassId) (b_p0_ends : Nat → Int32) (p0_tight : Nat) (c_p0_tight : ClassId) (b_p0_tight : Nat → Int32) (p1 : Nat) (f_p1 : List Value) (p1_ends : Nat) (c_p1_ends : ClassId) (b_p1_ends : Nat → Int32) (p1_tight : Nat) (c_p1_tight : ClassId) (b_p1_tight : Nat → Int32) (X : va_W → Prop) : Prop := ∃ (y_p0 : List Value) (y_p0_ends : Nat → Int32) (y_p0_tight : Nat → Int32), OKX0 y_p0 ∧ q_fr [2, 3, 4, 5, 6, 7, 8, 9, 10, 11, 12] f_p0 y_p0 ∧ X (zW_t_copyFrom p0 y_p0 p0_ends c_p0_ends y_p0_ends p0_tight c_p0_tight y_p0_tight p1 f_p1 p1_ends c_p1_ends b_p1_ends p1_tight c_p1_tight b_p1_tight)
theorem zm_t_copyFrom {p0 : Nat} {f_p0 : List Value} {p0_ends : Nat} {c_p0_ends : ClassId} {b_p0_ends : Nat → Int32} {p0_tight : Nat} {c_p0_tight : ClassId} {b_p0_tight : Nat → Int32} {p1 : Nat} {f_p1 : List Value} {p1_ends : Nat} {c_p1_ends : ClassId} {b_p1_ends : Nat → Int32} {p1_tight : Nat} {c_p1_tight : ClassId} {b_p1_tight : Nat → Int32} : ∀ X Y : va_W → Prop, (∀ w, X w → Y w) → zG_t_copyFrom p0 f_p0 p0_ends c_p0_ends b_p0_ends p0_tight c_p0_tight b_p0_tight p1 f_p1 p1_ends c_p1_ends b_p1_ends p1_tight c_p1_tight b_p1_tight X → zG_t_copyFrom p0 f_p0 p0_ends c_p0_ends b_p0_ends p0_tight c_p0_tight b_p0_tight p1 f_p1 p1_ends c_p1_ends b_p1_ends p1_tight c_p1_tight b_p1_tight Y := fun X Y h h1 => by obtain ⟨x0, x1, x2, x3, x4, hx⟩ := h1; exact ⟨x0, x1, x2, x3, x4, h _ hx⟩
set_option maxHeartbeats 4000000 in
set_option maxRecDepth 100000 in
theorem t_copyFrom (l : Launch) (dC : Nat → ClassId) (dI : Nat → Nat → Nat) (sz : Nat) (p0 : Nat) (f_p0 : List Value) (p0_ends : Nat) (c_p0_ends : ClassId) (b_p0_ends : Nat → Int32) (p0_tight : Nat) (c_p0_tight : ClassId) (b_p0_tight : Nat → Int32) (p1 : Nat) (f_p1 : List Value) (p1_ends : Nat) (c_p1_ends : ClassId) (b_p1_ends : Nat → Int32) (p1_tight : Nat) (c_p1_tight : ClassId) (b_p1_tight : Nat → Int32) (ho_p0 : OKX0 f_p0) (fr_p0_0 : q_rf f_p0 0 p0_tight) (fr_p0_1 : q_rf f_p0 1 p0_ends) (ho_p1 : OKX0 f_p1) (fr_p1_0 : q_rf f_p1 0 p1_tight) (fr_p1_1 : q_rf f_p1 1 p1_ends) : Met l yX0_copyFrom zw_t_copyFrom ({ frames := 2, cells := 0, slots := 0, locals := 44 }) (va_Pc [.ref p0, .ref p1] (q_pre (dC, dI) (zW_t_copyFrom p0 f_p0 p0_ends c_p0_ends b_p0_ends p0_tight c_p0_tight b_p0_tight p1 f_p1 p1_ends c_p1_ends b_p1_ends p1_tight c_p1_tight b_p1_tight) (zT_t_copyFrom c_p0_ends c_p0_tight c_p1_ends c_p1_tight) q_E0 sz)) (q_Qv (dC, dI) (zG_t_copyFrom p0 f_p0 p0_ends c_p0_ends b_p0_ends p0_tight c_p0_tight b_p0_tight p1 f_p1 p1_ends c_p1_ends b_p1_ends p1_tight c_p1_tight b_p1_tight) (zA_t_copyFrom p0 p0_ends p0_tight p1 p1_ends p1_tight) (va_A (zW_t_copyFrom p0 f_p0 p0_ends c_p0_ends b_p0_ends p0_tight c_p0_tight b_p0_tight p1 f_p1 p1_ends c_p1_ends b_p1_ends p1_tight c_p1_tight b_p1_tight) sz)) 0 0 (va_A (zW_t_copyFrom p0 f_p0 p0_ends c_p0_ends b_p0_ends p0_tight c_p0_tight b_p0_tight p1 f_p1 p1_ends c_p1_ends b_p1_ends p1_tight c_p1_tight b_p1_tight) sz) := by
  refine Met.ofW (cc := cX0_copyFrom) (maxL := 3) (ret := none) (by decide) rfl ?_
  intro p e s m args below meth c s₁ B hml hv
  obtain ⟨rfl, hsz, hP, hK, hD0, hE⟩ := hv
  have hx := B.exec
  have hb := B.bytes
  have hr := B.returns
  have hts := atoms_spec (ws := zw_t_copyFrom) B.pre
  have hown : s.vm.findClass RX0 = some m.cls := findClass_of_methodNamed B.named
  have hlocks := B.notSynchronized
  subst hsz
  have hD := hD0.self (sz := s.heap.size)
  generalize hAe : va_A (zW_t_copyFrom p0 f_p0 p0_ends c_p0_ends b_p0_ends p0_tight c_p0_tight b_p0_tight p1 f_p1 p1_ends c_p1_ends b_p1_ends p1_tight c_p1_tight b_p1_tight) s.heap.size = A at hD hE ⊢
  have hA : ∀ q : Nat, s.heap.size ≤ q → A q := fun q h => by rw [← hAe]; exact Or.inr h
  have hDa : q_DA A (zA_t_copyFrom p0 p0_ends p0_tight p1 p1_ends p1_tight) := q_DA.mk hD za_t_copyFrom
  clear hAe hD0 hD
  have hS : va_S A s.heap s.heap [] := va_S.rf
  have m_0 : (.fieldLink RX0 17 "BowWalk$Bow" "ends" "[I" : Cond) ∈ zw_t_copyFrom := List.mem_append_left _ (List.mem_of_getElem? (i := 1) rfl)
  have k_0 := hts _ m_0
  have m_1 : (.fieldLink RX0 20 "BowWalk$Bow" "crossings" "I" : Cond) ∈ zw_t_copyFrom := List.mem_append_left _ (List.mem_of_getElem? (i := 2) rfl)
  have k_1 := hts _ m_1
  have m_2 : (.fieldLink RX0 39 "BowWalk$Bow" "sides" "I" : Cond) ∈ zw_t_copyFrom := List.mem_append_left _ (List.mem_of_getElem? (i := 3) rfl)
  have k_2 := hts _ m_2
  have m_3 : (.methodLink RX0 69 yX0_takeKnot : Cond) ∈ zw_t_copyFrom := List.mem_append_left _ (List.mem_of_getElem? (i := 4) rfl)
  have k_3 := hts _ m_3
  have m_4 : (.instanceMethod yX0_takeKnot : Cond) ∈ zw_t_copyFrom := List.mem_append_left _ (List.mem_of_getElem? (i := 5) rfl)
  have k_4 := hts _ m_4
  have m_5 : (.selects RX0 yX0_takeKnot yX0_takeKnot : Cond) ∈ zw_t_copyFrom := List.mem_append_left _ (List.mem_of_getElem? (i := 6) rfl)
  have k_5 := hts _ m_5
  have m_6 : (.initialized RX0 : Cond) ∈ zw_t_copyFrom := List.mem_append_left _ (List.mem_of_getElem? (i := 7) rfl)
  have k_6 := hts _ m_6
  have m_7 : (.fieldLink RX0 45 "BowWalk$Bow" "smooth" "I" : Cond) ∈ zw_t_copyFrom := List.mem_append_left _ (List.mem_of_getElem? (i := 8) rfl)
  have k_7 := hts _ m_7
  have m_8 : (.fieldLink RX0 48 "BowWalk$Bow" "weight" "I" : Cond) ∈ zw_t_copyFrom := List.mem_append_left _ (List.mem_of_getElem? (i := 9) rfl)
  have k_8 := hts _ m_8
  have m_9 : (.fieldLink RX0 51 "BowWalk$Bow" "length" "I" : Cond) ∈ zw_t_copyFrom := List.mem_append_left _ (List.mem_of_getElem? (i := 10) rfl)
  have k_9 := hts _ m_9
  have m_10 : (.methodLink RX0 73 yX0_takeCord : Cond) ∈ zw_t_copyFrom := List.mem_append_left _ (List.mem_of_getElem? (i := 11) rfl)
  have k_10 := hts _ m_10
  have m_11 : (.instanceMethod yX0_takeCord : Cond) ∈ zw_t_copyFrom := List.mem_append_left _ (List.mem_of_getElem? (i := 12) rfl)
  have k_11 := hts _ m_11
  have m_12 : (.selects RX0 yX0_takeCord yX0_takeCord : Cond) ∈ zw_t_copyFrom := List.mem_append_left _ (List.mem_of_getElem? (i := 13) rfl)
  have k_12 := hts _ m_12
  have m_13 : (.fieldLink RX0 24 "BowWalk$Bow" "left" "I" : Cond) ∈ zw_t_copyFrom := List.mem_append_left _ (List.mem_of_getElem? (i := 14) rfl)
  have k_13 := hts _ m_13
  have m_14 : (.fieldLink RX0 27 "BowWalk$Bow" "steps" "I" : Cond) ∈ zw_t_copyFrom := List.mem_append_left _ (List.mem_of_getElem? (i := 15) rfl)
  have k_14 := hts _ m_14
  have m_15 : (.fieldLink RX0 30 "BowWalk$Bow" "slipped" "I" : Cond) ∈ zw_t_copyFrom := List.mem_append_left _ (List.mem_of_getElem? (i := 16) rfl)
  have k_15 := hts _ m_15
  have m_16 : (.fieldLink RX0 33 "BowWalk$Bow" "walk" "I" : Cond) ∈ zw_t_copyFrom := List.mem_append_left _ (List.mem_of_getElem? (i := 17) rfl)
  have k_16 := hts _ m_16
  have m_17 : (.fieldLink RX0 36 "BowWalk$Bow" "nextStep" "I" : Cond) ∈ zw_t_copyFrom := List.mem_append_left _ (List.mem_of_getElem? (i := 18) rfl)
  have k_17 := hts _ m_17
  have m_18 : (.fieldLink RX0 11 "BowWalk$Bow" "tight" "[I" : Cond) ∈ zw_t_copyFrom := List.mem_append_left _ (List.mem_of_getElem? (i := 19) rfl)
  have k_18 := hts _ m_18
  have g_t_takeKnot : ∀ w ∈ zw_t_takeKnot, w ∈ zw_t_copyFrom := fun w h => List.mem_append_right _ (List.mem_append_left _ h)
  have g_t_takeCord : ∀ w ∈ zw_t_takeCord, w ∈ zw_t_copyFrom := fun w h => List.mem_append_right _ (List.mem_append_right _ (List.mem_append_left _ h))
  have i_X0 : ∀ w ∈ u_ws RX0 TX0 15, w ∈ zw_t_copyFrom := fun w h => List.mem_append_right _ (List.mem_append_right _ (List.mem_append_right _ (List.mem_append_left _ h)))
  have lt_0 : (0 : Int32).toInt = 0 := by decide
  have lt_1 : (1 : Int32).toInt = 1 := by decide
  have lt_12 : (12 : Int32).toInt = 12 := by decide
  have hl := lv_entry ([.ref p0, .ref p1]) (n := 3) (Nat.le_of_ble_eq_true rfl)
  rw [lg_entry_eq]
  generalize (lg_sl ([.ref p0, .ref p1]) ++ List.replicate (3 - (lg_sl ([.ref p0, .ref p1])).length) Slot.unset).toArray = ls at hl ⊢
  have hl : lv_has ls 3 [(0, .ref p0), (1, .ref p1)] := hl
  refine lv_iconst (v := 0) hx hb dX0_copyFrom_0 (by decide) (lv_istore_n (lv' := [(2, .int 0), (0, .ref p0), (1, .ref p1)]) hx hb dX0_copyFrom_1 rfl hl (by decide) rfl (fun ls hl => ?_))
  have key2 : ∀ (fu2 : Nat) (i : Int32) (bz_p0_tight : Nat → Int32) (H : Heap) (locs : List Loc) (ls : Array Slot) (hfu2 : 12 - i.toInt ≤ (fu2 : Int)) (ti : (0) ≤ i.toInt ∧ i.toInt ≤ 12), va_P (dC, dI) vwCl (zW_t_copyFrom p0 f_p0 p0_ends c_p0_ends b_p0_ends p0_tight c_p0_tight bz_p0_tight p1 f_p1 p1_ends c_p1_ends b_p1_ends p1_tight c_p1_tight b_p1_tight) H → va_S A s.heap H locs → lv_has ls 3 [(2, .int i), (0, .ref p0), (1, .ref p1)] → W p l e (headSpec zw_t_copyFrom { frames := 2, cells := 0, slots := 0, locals := 44 }).room s m ([.ref p0, .ref p1] : List Value).toArray below meth c H locs 0 0 (MQ below (q_Qv (dC, dI) (zG_t_copyFrom p0 f_p0 p0_ends c_p0_ends b_p0_ends p0_tight c_p0_tight b_p0_tight p1 f_p1 p1_ends c_p1_ends b_p1_ends p1_tight c_p1_tight b_p1_tight) (zA_t_copyFrom p0 p0_ends p0_tight p1 p1_ends p1_tight) A) ([.ref p0, .ref p1] : List Value).toArray s 0 0 A) (F0 m 2 ls []) := by
    intro fu2
    induction fu2 using Nat.strongRecOn with
    | ind fu2 ih2 =>
      intro i bz_p0_tight H1 lo1 ls hfu2 ti hP1 hS1 hl
      refine lv_iload_n hx hb dX0_copyFrom_2 rfl (lv_at hl 0 rfl) (lv_bipush (v := 12) hx hb dX0_copyFrom_3 (by decide) ?_)
      refine lv_icmp_ge (tgt := 26) hx hb dX0_copyFrom_5 (by decide) (fun c_2 => ?_) (fun c_2 => ?_)
      · have tc_2 := q_ge c_2
        refine lv_aload_n hx hb dX0_copyFrom_26 rfl (lv_at hl 1 rfl) (qg_X0_1 hx hb hts i_X0 hown hK hP1 0 rfl k_0 fr_p0_1 dX0_copyFrom_27 (lv_iconst (v := 0) hx hb dX0_copyFrom_30 (by decide) (lv_aload_n hx hb dX0_copyFrom_31 rfl (lv_at hl 2 rfl) (qg_X0_1 hx hb hts i_X0 hown hK hP1 3 rfl k_0 fr_p1_1 dX0_copyFrom_32 (lv_iconst (v := 0) hx hb dX0_copyFrom_35 (by decide) (q_ild hx hb hK hP1 4 2 rfl rfl (p1_in (i := 0) (n := 2) (by decide)) dX0_copyFrom_36 (fun v_3 ev_3 => ?_)))))))
        refine q_ist hx hb hK hP1 hDa za_t_copyFrom hS1 1 0 rfl rfl (p1_in (i := 0) (n := 2) (by decide)) dX0_copyFrom_37 (fun H4 lo4 g4 eg4 (hP4 : va_P (dC, dI) vwCl (zW_t_copyFrom p0 f_p0 p0_ends c_p0_ends g4 p0_tight c_p0_tight bz_p0_tight p1 f_p1 p1_ends c_p1_ends b_p1_ends p1_tight c_p1_tight b_p1_tight) H4) hS4 => ?_)
        clear hP1 hS1
        refine lv_aload_n hx hb dX0_copyFrom_38 rfl (lv_at hl 1 rfl) (qg_X0_1 hx hb hts i_X0 hown hK hP4 0 rfl k_0 fr_p0_1 dX0_copyFrom_39 (lv_iconst (v := 1) hx hb dX0_copyFrom_42 (by decide) (lv_aload_n hx hb dX0_copyFrom_43 rfl (lv_at hl 2 rfl) (qg_X0_1 hx hb hts i_X0 hown hK hP4 3 rfl k_0 fr_p1_1 dX0_copyFrom_44 (lv_iconst (v := 1) hx hb dX0_copyFrom_47 (by decide) (q_ild hx hb hK hP4 4 2 rfl rfl (p1_in (i := 1) (n := 2) (by decide)) dX0_copyFrom_48 (fun v_5 ev_5 => ?_)))))))
        refine q_ist hx hb hK hP4 hDa za_t_copyFrom hS4 1 0 rfl rfl (p1_in (i := 1) (n := 2) (by decide)) dX0_copyFrom_49 (fun H6 lo6 g6 eg6 (hP6 : va_P (dC, dI) vwCl (zW_t_copyFrom p0 f_p0 p0_ends c_p0_ends g6 p0_tight c_p0_tight bz_p0_tight p1 f_p1 p1_ends c_p1_ends b_p1_ends p1_tight c_p1_tight b_p1_tight) H6) hS6 => ?_)
        clear hP4 hS4
        refine lv_aload_n hx hb dX0_copyFrom_50 rfl (lv_at hl 1 rfl) (lv_aload_n hx hb dX0_copyFrom_51 rfl (lv_at hl 2 rfl) ?_)
        obtain ⟨v_7, fv_7, tv_7⟩ := OKX0_g2 ho_p1
        refine qg_X0_2 hx hb hts i_X0 hown hK hP6 3 rfl k_1 fv_7 dX0_copyFrom_52 (lv_aload_n hx hb dX0_copyFrom_55 rfl (lv_at hl 2 rfl) ?_)
        obtain ⟨v_8, fv_8⟩ := OKX0_g8 ho_p1
        refine qg_X0_8 hx hb hts i_X0 hown hK hP6 3 rfl k_2 fv_8 dX0_copyFrom_56 ?_
        refine q_cVv (As := [.int v_7, .int v_8]) (rest := []) q_w0 trivial hK hP6 hDa za_t_copyFrom hS6 hA [0] [] (by decide +kernel) ⟨hx, hb, hml, hown, hts⟩ (t_takeKnot l dC dI H6.size p0 f_p0 v_7 v_8 ho_p0 ((by omega))) rfl rfl (cwV 2 hts (p1_gV m_3 m_4 m_5 m_6 g_t_takeKnot gz_t_takeKnot) rfl rfl rfl (by decide +kernel) ⟨by decide, by decide⟩) (va_recv hK hP6 (ci := 0) (q0 := 0) rfl rfl) zm_t_takeKnot rfl hl.1 rfl (Nat.le_of_ble_eq_true rfl) dX0_copyFrom_59 ⟨by decide, by decide⟩ (fun H10 lo10 hG10 hS10 => ?_)
        obtain ⟨o_11, ho_12, hf_13, hQ10⟩ := hG10
        have hP10 : va_P (dC, dI) vwCl (zW_t_copyFrom p0 o_11 p0_ends c_p0_ends g6 p0_tight c_p0_tight bz_p0_tight p1 f_p1 p1_ends c_p1_ends b_p1_ends p1_tight c_p1_tight b_p1_tight) H10 := hQ10
        clear hQ10 hP6 hS6
        refine lv_aload_n hx hb dX0_copyFrom_62 rfl (lv_at hl 1 rfl) (lv_aload_n hx hb dX0_copyFrom_63 rfl (lv_at hl 2 rfl) ?_)
        obtain ⟨v_14, fv_14⟩ := OKX0_g10 ho_p1
        refine qg_X0_10 hx hb hts i_X0 hown hK hP10 3 rfl k_7 fv_14 dX0_copyFrom_64 (lv_aload_n hx hb dX0_copyFrom_67 rfl (lv_at hl 2 rfl) ?_)
        obtain ⟨v_15, fv_15⟩ := OKX0_g11 ho_p1
        refine qg_X0_11 hx hb hts i_X0 hown hK hP10 3 rfl k_8 fv_15 dX0_copyFrom_68 (lv_aload_n hx hb dX0_copyFrom_71 rfl (lv_at hl 2 rfl) ?_)
        obtain ⟨v_16, fv_16⟩ := OKX0_g12 ho_p1
        refine qg_X0_12 hx hb hts i_X0 hown hK hP10 3 rfl k_9 fv_16 dX0_copyFrom_72 ?_
        refine q_cVv (As := [.int v_14, .int v_15, .int v_16]) (rest := []) q_w0 trivial hK hP10 hDa za_t_copyFrom hS10 hA [0] [] (by decide +kernel) ⟨hx, hb, hml, hown, hts⟩ (t_takeCord l dC dI H10.size p0 o_11 v_14 v_15 v_16 ho_12) rfl rfl (cwV 3 hts (p1_gV m_10 m_11 m_12 m_6 g_t_takeCord gz_t_takeCord) rfl rfl rfl (by decide +kernel) ⟨by decide, by decide⟩) (va_recv hK hP10 (ci := 0) (q0 := 0) rfl rfl) zm_t_takeCord rfl hl.1 rfl (Nat.le_of_ble_eq_true rfl) dX0_copyFrom_75 ⟨by decide, by decide⟩ (fun H18 lo18 hG18 hS18 => ?_)
        obtain ⟨o_19, ho_20, hf_21, hQ18⟩ := hG18
        have hP18 : va_P (dC, dI) vwCl (zW_t_copyFrom p0 o_19 p0_ends c_p0_ends g6 p0_tight c_p0_tight bz_p0_tight p1 f_p1 p1_ends c_p1_ends b_p1_ends p1_tight c_p1_tight b_p1_tight) H18 := hQ18
        clear hQ18 hP10 hS10
        refine lv_aload_n hx hb dX0_copyFrom_78 rfl (lv_at hl 1 rfl) (lv_aload_n hx hb dX0_copyFrom_79 rfl (lv_at hl 2 rfl) ?_)
        obtain ⟨v_22, fv_22, tv_22⟩ := OKX0_g3 ho_p1
        refine qg_X0_3 hx hb hts i_X0 hown hK hP18 3 rfl k_13 fv_22 dX0_copyFrom_80 (qp_X0_3 hx hb hts i_X0 hown hK hP18 hDa za_t_copyFrom hS18 0 rfl k_13 (OKX0_l ho_20) dX0_copyFrom_83 (fun H23 lo23 fs23 efs23 (hP23 : va_P (dC, dI) vwCl (zW_t_copyFrom p0 fs23 p0_ends c_p0_ends g6 p0_tight c_p0_tight bz_p0_tight p1 f_p1 p1_ends c_p1_ends b_p1_ends p1_tight c_p1_tight b_p1_tight) H23) hS23 => ?_))
        have ho23 := OKX0_p3 ho_20 efs23 ⟨by omega, by omega⟩
        clear hP18 hS18
        refine lv_aload_n hx hb dX0_copyFrom_86 rfl (lv_at hl 1 rfl) (lv_aload_n hx hb dX0_copyFrom_87 rfl (lv_at hl 2 rfl) ?_)
        obtain ⟨v_24, fv_24⟩ := OKX0_g4 ho_p1
        refine qg_X0_4 hx hb hts i_X0 hown hK hP23 3 rfl k_14 fv_24 dX0_copyFrom_88 (qp_X0_4 hx hb hts i_X0 hown hK hP23 hDa za_t_copyFrom hS23 0 rfl k_14 (OKX0_l ho23) dX0_copyFrom_91 (fun H25 lo25 fs25 efs25 (hP25 : va_P (dC, dI) vwCl (zW_t_copyFrom p0 fs25 p0_ends c_p0_ends g6 p0_tight c_p0_tight bz_p0_tight p1 f_p1 p1_ends c_p1_ends b_p1_ends p1_tight c_p1_tight b_p1_tight) H25) hS25 => ?_))
        have ho25 := OKX0_p4 ho23 efs25
        clear hP23 hS23
        refine lv_aload_n hx hb dX0_copyFrom_94 rfl (lv_at hl 1 rfl) (lv_aload_n hx hb dX0_copyFrom_95 rfl (lv_at hl 2 rfl) ?_)
        obtain ⟨v_26, fv_26⟩ := OKX0_g5 ho_p1
        refine qg_X0_5 hx hb hts i_X0 hown hK hP25 3 rfl k_15 fv_26 dX0_copyFrom_96 (qp_X0_5 hx hb hts i_X0 hown hK hP25 hDa za_t_copyFrom hS25 0 rfl k_15 (OKX0_l ho25) dX0_copyFrom_99 (fun H27 lo27 fs27 efs27 (hP27 : va_P (dC, dI) vwCl (zW_t_copyFrom p0 fs27 p0_ends c_p0_ends g6 p0_tight c_p0_tight bz_p0_tight p1 f_p1 p1_ends c_p1_ends b_p1_ends p1_tight c_p1_tight b_p1_tight) H27) hS27 => ?_))
        have ho27 := OKX0_p5 ho25 efs27
        clear hP25 hS25
        refine lv_aload_n hx hb dX0_copyFrom_102 rfl (lv_at hl 1 rfl) (lv_aload_n hx hb dX0_copyFrom_103 rfl (lv_at hl 2 rfl) ?_)
        obtain ⟨v_28, fv_28⟩ := OKX0_g6 ho_p1
        refine qg_X0_6 hx hb hts i_X0 hown hK hP27 3 rfl k_16 fv_28 dX0_copyFrom_104 (qp_X0_6 hx hb hts i_X0 hown hK hP27 hDa za_t_copyFrom hS27 0 rfl k_16 (OKX0_l ho27) dX0_copyFrom_107 (fun H29 lo29 fs29 efs29 (hP29 : va_P (dC, dI) vwCl (zW_t_copyFrom p0 fs29 p0_ends c_p0_ends g6 p0_tight c_p0_tight bz_p0_tight p1 f_p1 p1_ends c_p1_ends b_p1_ends p1_tight c_p1_tight b_p1_tight) H29) hS29 => ?_))
        have ho29 := OKX0_p6 ho27 efs29
        clear hP27 hS27
        refine lv_aload_n hx hb dX0_copyFrom_110 rfl (lv_at hl 1 rfl) (lv_aload_n hx hb dX0_copyFrom_111 rfl (lv_at hl 2 rfl) ?_)
        obtain ⟨v_30, fv_30, tv_30⟩ := OKX0_g7 ho_p1
        refine qg_X0_7 hx hb hts i_X0 hown hK hP29 3 rfl k_17 fv_30 dX0_copyFrom_112 (qp_X0_7 hx hb hts i_X0 hown hK hP29 hDa za_t_copyFrom hS29 0 rfl k_17 (OKX0_l ho29) dX0_copyFrom_115 (fun H31 lo31 fs31 efs31 (hP31 : va_P (dC, dI) vwCl (zW_t_copyFrom p0 fs31 p0_ends c_p0_ends g6 p0_tight c_p0_tight bz_p0_tight p1 f_p1 p1_ends c_p1_ends b_p1_ends p1_tight c_p1_tight b_p1_tight) H31) hS31 => ?_))
        have ho31 := OKX0_p7 ho29 efs31 ⟨by omega, by omega⟩
        clear hP29 hS29
        exact q_vret hx hb hr hlocks hS31 dX0_copyFrom_118 ⟨fs31, g6, bz_p0_tight, ho31, (((((((q_fr.rf.tr hf_13 (by decide)).tr hf_21 (by decide)).st efs23 (by decide)).st efs25 (by decide)).st efs27 (by decide)).st efs29 (by decide)).st efs31 (by decide)), hP31, za_t_copyFrom⟩
      · have tc_2 := q_ltN c_2
        refine lv_aload_n hx hb dX0_copyFrom_8 rfl (lv_at hl 1 rfl) (qg_X0_0 hx hb hts i_X0 hown hK hP1 0 rfl k_18 fr_p0_0 dX0_copyFrom_9 (lv_iload_n hx hb dX0_copyFrom_12 rfl (lv_at hl 0 rfl) (lv_aload_n hx hb dX0_copyFrom_13 rfl (lv_at hl 2 rfl) (qg_X0_0 hx hb hts i_X0 hown hK hP1 3 rfl k_18 fr_p1_0 dX0_copyFrom_14 (lv_iload_n hx hb dX0_copyFrom_17 rfl (lv_at hl 0 rfl) (q_ild hx hb hK hP1 5 3 rfl rfl (q_in (by omega) (by omega)) dX0_copyFrom_18 (fun v_32 ev_32 => ?_)))))))
        refine q_ist hx hb hK hP1 hDa za_t_copyFrom hS1 2 1 rfl rfl (q_in (by omega) (by omega)) dX0_copyFrom_19 (fun H33 lo33 g33 eg33 (hP33 : va_P (dC, dI) vwCl (zW_t_copyFrom p0 f_p0 p0_ends c_p0_ends b_p0_ends p0_tight c_p0_tight g33 p1 f_p1 p1_ends c_p1_ends b_p1_ends p1_tight c_p1_tight b_p1_tight) H33) hS33 => ?_)
        clear hP1 hS1
        obtain ⟨v_34, ev_34⟩ : ∃ y : Int32, y = i + 1 := ⟨_, rfl⟩
        have tv_34 := q_add ev_34 (by omega) (by omega)
        refine lv_iinc (v := v_34) (lv' := [(2, .int v_34), (0, .ref p0), (1, .ref p1)]) hx hb dX0_copyFrom_20 hl (k := 0) rfl (by rw [ev_34]; rfl) (by decide) rfl (fun ls hl => ?_)
        refine lv_goto (tgt := 2) hx hb dX0_copyFrom_23 (by decide) ?_
        exact ih2 (fu2 - 1) (by omega) v_34 g33 _ _ _ (by omega) (by omega) hP33 hS33 (lv_sub hl [0, 1, 2] rfl)
  exact key2 12 0 b_p0_tight _ _ _ (by omega) (by omega) hP hS (lv_sub hl [0, 1, 2] rfl)
