def zo_t_has0 : List Cond := [.code yX5_has cX5_has 3 (some .boolean), .fieldLink RX5 9 "BowWalk$Shop" "count" "[I"]
def zw_t_has0 : List Cond := zo_t_has0 ++ (wsX50 ++ [])
theorem gz_t_has0 : zw_t_has0.all goodWord = true := p1_ga (by decide +kernel) (p1_ga gk_X5 p1_g0)
theorem iz_t_has0 : ∀ w ∈ zw_t_has0, w ∈ lw_tbl := p1_ia (p1_all [717, 174] (by decide +kernel)) (p1_ia ik_X5 p1_i0)
def zW_t_has0 (p0 : Nat) (f_p0 : List Value) (p0_count : Nat) (c_p0_count : ClassId) (b_p0_count : Nat → Int32) : va_W := [(p0, .inr (5, f_p0)), (p0_count, .inl (c_p0_count, 5, .inl b_p0_count))]
def zT_t_has0 (c_p0_count : ClassId) : List (ClassId × FieldType) := [(c_p0_count, .int)]
def zA_t_has0 (p0 : Nat) (p0_count : Nat) : List Nat := [p0, p0_count]
theorem za_t_has0 {p0 : Nat} {f_p0 : List Value} {p0_count : Nat} {c_p0_count : ClassId} {b_p0_count : Nat → Int32} : (zW_t_has0 p0 f_p0 p0_count c_p0_count b_p0_count).map Prod.fst = (zA_t_has0 p0 p0_count) := rfl
def zG_t_has0 (p0 : Nat) (f_p0 : List Value) (p0_count : Nat) (c_p0_count : ClassId) (b_p0_count : Nat → Int32) (a2 : Int32) (r : Int32) (X : va_W → Prop) : Prop := ((r = 1 ∧ (0 ≤ a2.toInt ∧ a2.toInt ≤ 5)) ∨ (r = 0 ∧ (True))) ∧ X (zW_t_has0 p0 f_p0 p0_count c_p0_count b_p0_count)
theorem zm_t_has0 {p0 : Nat} {f_p0 : List Value} {p0_count : Nat} {c_p0_count : ClassId} {b_p0_count : Nat → Int32} {a2 : Int32} : ∀ (r : Int32), ∀ X Y : va_W → Prop, (∀ w, X w → Y w) → zG_t_has0 p0 f_p0 p0_count c_p0_count b_p0_count a2 r X → zG_t_has0 p0 f_p0 p0_count c_p0_count b_p0_count a2 r Y := fun r X Y h h1 => by obtain ⟨x0, hx⟩ := h1; exact ⟨x0, h _ hx⟩
set_option maxHeartbeats 4000000 in
set_option maxRecDepth 100000 in
theorem t_has0 (l : Launch) (dC : Nat → ClassId) (dI : Nat → Nat → Nat) (sz : Nat) (p0 : Nat) (f_p0 : List Value) (p0_count : Nat) (c_p0_count : ClassId) (b_p0_count : Nat → Int32) (a2 : Int32) (ho_p0 : OKX5 f_p0) (fr_p0_0 : q_rf f_p0 0 p0_count) (hr_p0_count : q_cnt b_p0_count) : Met l yX5_has zw_t_has0 ({ frames := 0, cells := 0, slots := 0, locals := 0 }) (va_Pc [.ref p0, .int 0, .int a2] (q_pre (dC, dI) (zW_t_has0 p0 f_p0 p0_count c_p0_count b_p0_count) (zT_t_has0 c_p0_count) q_E0 sz)) (q_Qi (dC, dI) (zG_t_has0 p0 f_p0 p0_count c_p0_count b_p0_count a2) (zA_t_has0 p0 p0_count) (va_A (zW_t_has0 p0 f_p0 p0_count c_p0_count b_p0_count) sz)) 0 0 (va_A (zW_t_has0 p0 f_p0 p0_count c_p0_count b_p0_count) sz) := by
  refine Met.ofW (cc := cX5_has) (maxL := 3) (ret := (some .boolean)) (by decide) rfl ?_
  intro p e s m args below meth c s₁ B hml hv
  obtain ⟨rfl, hsz, hP, hK, hD0, hE⟩ := hv
  have hx := B.exec
  have hb := B.bytes
  have hr := B.returns
  have hts := atoms_spec (ws := zw_t_has0) B.pre
  have hown : s.vm.findClass RX5 = some m.cls := findClass_of_methodNamed B.named
  have hlocks := B.notSynchronized
  subst hsz
  have hD := hD0.self (sz := s.heap.size)
  generalize hAe : va_A (zW_t_has0 p0 f_p0 p0_count c_p0_count b_p0_count) s.heap.size = A at hD hE ⊢
  have hA : ∀ q : Nat, s.heap.size ≤ q → A q := fun q h => by rw [← hAe]; exact Or.inr h
  have hDa : q_DA A (zA_t_has0 p0 p0_count) := q_DA.mk hD za_t_has0
  clear hAe hD0 hD
  have hS : va_S A s.heap s.heap [] := va_S.rf
  have m_0 : (.fieldLink RX5 9 "BowWalk$Shop" "count" "[I" : Cond) ∈ zw_t_has0 := List.mem_append_left _ (List.mem_of_getElem? (i := 1) rfl)
  have k_0 := hts _ m_0
  have i_X5 : ∀ w ∈ u_ws RX5 TX5 15, w ∈ zw_t_has0 := fun w h => List.mem_append_right _ (List.mem_append_left _ h)
  have lt_0 : (0 : Int32).toInt = 0 := by decide
  have lt_1 : (1 : Int32).toInt = 1 := by decide
  have hl := lv_entry ([.ref p0, .int 0, .int a2]) (n := 3) (Nat.le_of_ble_eq_true rfl)
  rw [lg_entry_eq]
  generalize (lg_sl ([.ref p0, .int 0, .int a2]) ++ List.replicate (3 - (lg_sl ([.ref p0, .int 0, .int a2])).length) Slot.unset).toArray = ls at hl ⊢
  have hl : lv_has ls 3 [(0, .ref p0), (1, .int 0), (2, .int a2)] := hl
  refine lv_iload_n hx hb dX5_has_0 rfl (lv_at hl 2 rfl) ?_
  refine lv_if_lt (tgt := 18) hx hb dX5_has_1 (by decide) (fun c_1 => ?_) (fun c_1 => ?_)
  · have tc_1 := q_lt c_1
    refine lv_iconst (v := 0) hx hb dX5_has_18 (by decide) ?_
    exact q_zret hx hb hr hlocks (by decide) hS dX5_has_19 ⟨(Or.inr ⟨rfl, by first | trivial | omega⟩), hP, za_t_has0⟩
  · have tc_1 := q_geN c_1
    refine lv_iload_n hx hb dX5_has_4 rfl (lv_at hl 2 rfl) (lv_aload_n hx hb dX5_has_5 rfl (lv_at hl 0 rfl) (qg_X5_0 hx hb hts i_X5 hown hK hP 0 rfl k_0 fr_p0_0 dX5_has_6 (lv_iload_n hx hb dX5_has_9 rfl (lv_at hl 1 rfl) (q_ild hx hb hK hP 1 0 rfl rfl (p1_in (i := 0) (n := 5) (by decide)) dX5_has_10 (fun v_2 ev_2 => ?_)))))
    have tv_2 : 0 ≤ v_2.toInt ∧ v_2.toInt ≤ 6 := by rw [ev_2]; exact q_cnt_0 hr_p0_count
    refine lv_icmp_ge (tgt := 18) hx hb dX5_has_11 (by decide) (fun c_3 => ?_) (fun c_3 => ?_)
    · have tc_3 := q_ge c_3
      refine lv_iconst (v := 0) hx hb dX5_has_18 (by decide) ?_
      exact q_zret hx hb hr hlocks (by decide) hS dX5_has_19 ⟨(Or.inr ⟨rfl, by first | trivial | omega⟩), hP, za_t_has0⟩
    · have tc_3 := q_ltN c_3
      refine lv_iconst (v := 1) hx hb dX5_has_14 (by decide) (lv_goto (tgt := 19) hx hb dX5_has_15 (by decide) ?_)
      exact q_zret hx hb hr hlocks (by decide) hS dX5_has_19 ⟨(Or.inl ⟨rfl, by first | trivial | omega⟩), hP, za_t_has0⟩
def zo_t_has1 : List Cond := [.code yX5_has cX5_has 3 (some .boolean), .fieldLink RX5 9 "BowWalk$Shop" "count" "[I"]
def zw_t_has1 : List Cond := zo_t_has1 ++ (wsX50 ++ [])
theorem gz_t_has1 : zw_t_has1.all goodWord = true := p1_ga (by decide +kernel) (p1_ga gk_X5 p1_g0)
theorem iz_t_has1 : ∀ w ∈ zw_t_has1, w ∈ lw_tbl := p1_ia (p1_all [717, 174] (by decide +kernel)) (p1_ia ik_X5 p1_i0)
def zW_t_has1 (p0 : Nat) (f_p0 : List Value) (p0_count : Nat) (c_p0_count : ClassId) (b_p0_count : Nat → Int32) : va_W := [(p0, .inr (5, f_p0)), (p0_count, .inl (c_p0_count, 5, .inl b_p0_count))]
def zT_t_has1 (c_p0_count : ClassId) : List (ClassId × FieldType) := [(c_p0_count, .int)]
def zA_t_has1 (p0 : Nat) (p0_count : Nat) : List Nat := [p0, p0_count]
theorem za_t_has1 {p0 : Nat} {f_p0 : List Value} {p0_count : Nat} {c_p0_count : ClassId} {b_p0_count : Nat → Int32} : (zW_t_has1 p0 f_p0 p0_count c_p0_count b_p0_count).map Prod.fst = (zA_t_has1 p0 p0_count) := rfl
def zG_t_has1 (p0 : Nat) (f_p0 : List Value) (p0_count : Nat) (c_p0_count : ClassId) (b_p0_count : Nat → Int32) (a2 : Int32) (r : Int32) (X : va_W → Prop) : Prop := ((r = 1 ∧ (0 ≤ a2.toInt ∧ a2.toInt ≤ 3)) ∨ (r = 0 ∧ (True))) ∧ X (zW_t_has1 p0 f_p0 p0_count c_p0_count b_p0_count)
theorem zm_t_has1 {p0 : Nat} {f_p0 : List Value} {p0_count : Nat} {c_p0_count : ClassId} {b_p0_count : Nat → Int32} {a2 : Int32} : ∀ (r : Int32), ∀ X Y : va_W → Prop, (∀ w, X w → Y w) → zG_t_has1 p0 f_p0 p0_count c_p0_count b_p0_count a2 r X → zG_t_has1 p0 f_p0 p0_count c_p0_count b_p0_count a2 r Y := fun r X Y h h1 => by obtain ⟨x0, hx⟩ := h1; exact ⟨x0, h _ hx⟩
set_option maxHeartbeats 4000000 in
set_option maxRecDepth 100000 in
theorem t_has1 (l : Launch) (dC : Nat → ClassId) (dI : Nat → Nat → Nat) (sz : Nat) (p0 : Nat) (f_p0 : List Value) (p0_count : Nat) (c_p0_count : ClassId) (b_p0_count : Nat → Int32) (a2 : Int32) (ho_p0 : OKX5 f_p0) (fr_p0_0 : q_rf f_p0 0 p0_count) (hr_p0_count : q_cnt b_p0_count) : Met l yX5_has zw_t_has1 ({ frames := 0, cells := 0, slots := 0, locals := 0 }) (va_Pc [.ref p0, .int 1, .int a2] (q_pre (dC, dI) (zW_t_has1 p0 f_p0 p0_count c_p0_count b_p0_count) (zT_t_has1 c_p0_count) q_E0 sz)) (q_Qi (dC, dI) (zG_t_has1 p0 f_p0 p0_count c_p0_count b_p0_count a2) (zA_t_has1 p0 p0_count) (va_A (zW_t_has1 p0 f_p0 p0_count c_p0_count b_p0_count) sz)) 0 0 (va_A (zW_t_has1 p0 f_p0 p0_count c_p0_count b_p0_count) sz) := by
  refine Met.ofW (cc := cX5_has) (maxL := 3) (ret := (some .boolean)) (by decide) rfl ?_
  intro p e s m args below meth c s₁ B hml hv
  obtain ⟨rfl, hsz, hP, hK, hD0, hE⟩ := hv
  have hx := B.exec
  have hb := B.bytes
  have hr := B.returns
  have hts := atoms_spec (ws := zw_t_has1) B.pre
  have hown : s.vm.findClass RX5 = some m.cls := findClass_of_methodNamed B.named
  have hlocks := B.notSynchronized
  subst hsz
  have hD := hD0.self (sz := s.heap.size)
  generalize hAe : va_A (zW_t_has1 p0 f_p0 p0_count c_p0_count b_p0_count) s.heap.size = A at hD hE ⊢
  have hA : ∀ q : Nat, s.heap.size ≤ q → A q := fun q h => by rw [← hAe]; exact Or.inr h
  have hDa : q_DA A (zA_t_has1 p0 p0_count) := q_DA.mk hD za_t_has1
  clear hAe hD0 hD
  have hS : va_S A s.heap s.heap [] := va_S.rf
  have m_0 : (.fieldLink RX5 9 "BowWalk$Shop" "count" "[I" : Cond) ∈ zw_t_has1 := List.mem_append_left _ (List.mem_of_getElem? (i := 1) rfl)
  have k_0 := hts _ m_0
  have i_X5 : ∀ w ∈ u_ws RX5 TX5 15, w ∈ zw_t_has1 := fun w h => List.mem_append_right _ (List.mem_append_left _ h)
  have lt_0 : (0 : Int32).toInt = 0 := by decide
  have lt_1 : (1 : Int32).toInt = 1 := by decide
  have hl := lv_entry ([.ref p0, .int 1, .int a2]) (n := 3) (Nat.le_of_ble_eq_true rfl)
  rw [lg_entry_eq]
  generalize (lg_sl ([.ref p0, .int 1, .int a2]) ++ List.replicate (3 - (lg_sl ([.ref p0, .int 1, .int a2])).length) Slot.unset).toArray = ls at hl ⊢
  have hl : lv_has ls 3 [(0, .ref p0), (1, .int 1), (2, .int a2)] := hl
  refine lv_iload_n hx hb dX5_has_0 rfl (lv_at hl 2 rfl) ?_
  refine lv_if_lt (tgt := 18) hx hb dX5_has_1 (by decide) (fun c_1 => ?_) (fun c_1 => ?_)
  · have tc_1 := q_lt c_1
    refine lv_iconst (v := 0) hx hb dX5_has_18 (by decide) ?_
    exact q_zret hx hb hr hlocks (by decide) hS dX5_has_19 ⟨(Or.inr ⟨rfl, by first | trivial | omega⟩), hP, za_t_has1⟩
  · have tc_1 := q_geN c_1
    refine lv_iload_n hx hb dX5_has_4 rfl (lv_at hl 2 rfl) (lv_aload_n hx hb dX5_has_5 rfl (lv_at hl 0 rfl) (qg_X5_0 hx hb hts i_X5 hown hK hP 0 rfl k_0 fr_p0_0 dX5_has_6 (lv_iload_n hx hb dX5_has_9 rfl (lv_at hl 1 rfl) (q_ild hx hb hK hP 1 0 rfl rfl (p1_in (i := 1) (n := 5) (by decide)) dX5_has_10 (fun v_2 ev_2 => ?_)))))
    have tv_2 : 0 ≤ v_2.toInt ∧ v_2.toInt ≤ 4 := by rw [ev_2]; exact q_cnt_1 hr_p0_count
    refine lv_icmp_ge (tgt := 18) hx hb dX5_has_11 (by decide) (fun c_3 => ?_) (fun c_3 => ?_)
    · have tc_3 := q_ge c_3
      refine lv_iconst (v := 0) hx hb dX5_has_18 (by decide) ?_
      exact q_zret hx hb hr hlocks (by decide) hS dX5_has_19 ⟨(Or.inr ⟨rfl, by first | trivial | omega⟩), hP, za_t_has1⟩
    · have tc_3 := q_ltN c_3
      refine lv_iconst (v := 1) hx hb dX5_has_14 (by decide) (lv_goto (tgt := 19) hx hb dX5_has_15 (by decide) ?_)
      exact q_zret hx hb hr hlocks (by decide) hS dX5_has_19 ⟨(Or.inl ⟨rfl, by first | trivial | omega⟩), hP, za_t_has1⟩
def zo_t_has2 : List Cond := [.code yX5_has cX5_has 3 (some .boolean), .fieldLink RX5 9 "BowWalk$Shop" "count" "[I"]
def zw_t_has2 : List Cond := zo_t_has2 ++ (wsX50 ++ [])
theorem gz_t_has2 : zw_t_has2.all goodWord = true := p1_ga (by decide +kernel) (p1_ga gk_X5 p1_g0)
theorem iz_t_has2 : ∀ w ∈ zw_t_has2, w ∈ lw_tbl := p1_ia (p1_all [717, 174] (by decide +kernel)) (p1_ia ik_X5 p1_i0)
def zW_t_has2 (p0 : Nat) (f_p0 : List Value) (p0_count : Nat) (c_p0_count : ClassId) (b_p0_count : Nat → Int32) : va_W := [(p0, .inr (5, f_p0)), (p0_count, .inl (c_p0_count, 5, .inl b_p0_count))]
def zT_t_has2 (c_p0_count : ClassId) : List (ClassId × FieldType) := [(c_p0_count, .int)]
def zA_t_has2 (p0 : Nat) (p0_count : Nat) : List Nat := [p0, p0_count]
theorem za_t_has2 {p0 : Nat} {f_p0 : List Value} {p0_count : Nat} {c_p0_count : ClassId} {b_p0_count : Nat → Int32} : (zW_t_has2 p0 f_p0 p0_count c_p0_count b_p0_count).map Prod.fst = (zA_t_has2 p0 p0_count) := rfl
def zG_t_has2 (p0 : Nat) (f_p0 : List Value) (p0_count : Nat) (c_p0_count : ClassId) (b_p0_count : Nat → Int32) (a2 : Int32) (r : Int32) (X : va_W → Prop) : Prop := ((r = 1 ∧ (0 ≤ a2.toInt ∧ a2.toInt ≤ 3)) ∨ (r = 0 ∧ (True))) ∧ X (zW_t_has2 p0 f_p0 p0_count c_p0_count b_p0_count)
theorem zm_t_has2 {p0 : Nat} {f_p0 : List Value} {p0_count : Nat} {c_p0_count : ClassId} {b_p0_count : Nat → Int32} {a2 : Int32} : ∀ (r : Int32), ∀ X Y : va_W → Prop, (∀ w, X w → Y w) → zG_t_has2 p0 f_p0 p0_count c_p0_count b_p0_count a2 r X → zG_t_has2 p0 f_p0 p0_count c_p0_count b_p0_count a2 r Y := fun r X Y h h1 => by obtain ⟨x0, hx⟩ := h1; exact ⟨x0, h _ hx⟩
set_option maxHeartbeats 4000000 in
set_option maxRecDepth 100000 in
theorem t_has2 (l : Launch) (dC : Nat → ClassId) (dI : Nat → Nat → Nat) (sz : Nat) (p0 : Nat) (f_p0 : List Value) (p0_count : Nat) (c_p0_count : ClassId) (b_p0_count : Nat → Int32) (a2 : Int32) (ho_p0 : OKX5 f_p0) (fr_p0_0 : q_rf f_p0 0 p0_count) (hr_p0_count : q_cnt b_p0_count) : Met l yX5_has zw_t_has2 ({ frames := 0, cells := 0, slots := 0, locals := 0 }) (va_Pc [.ref p0, .int 2, .int a2] (q_pre (dC, dI) (zW_t_has2 p0 f_p0 p0_count c_p0_count b_p0_count) (zT_t_has2 c_p0_count) q_E0 sz)) (q_Qi (dC, dI) (zG_t_has2 p0 f_p0 p0_count c_p0_count b_p0_count a2) (zA_t_has2 p0 p0_count) (va_A (zW_t_has2 p0 f_p0 p0_count c_p0_count b_p0_count) sz)) 0 0 (va_A (zW_t_has2 p0 f_p0 p0_count c_p0_count b_p0_count) sz) := by
  refine Met.ofW (cc := cX5_has) (maxL := 3) (ret := (some .boolean)) (by decide) rfl ?_
  intro p e s m args below meth c s₁ B hml hv
  obtain ⟨rfl, hsz, hP, hK, hD0, hE⟩ := hv
  have hx := B.exec
  have hb := B.bytes
  have hr := B.returns
  have hts := atoms_spec (ws := zw_t_has2) B.pre
  have hown : s.vm.findClass RX5 = some m.cls := findClass_of_methodNamed B.named
  have hlocks := B.notSynchronized
  subst hsz
  have hD := hD0.self (sz := s.heap.size)
  generalize hAe : va_A (zW_t_has2 p0 f_p0 p0_count c_p0_count b_p0_count) s.heap.size = A at hD hE ⊢
  have hA : ∀ q : Nat, s.heap.size ≤ q → A q := fun q h => by rw [← hAe]; exact Or.inr h
  have hDa : q_DA A (zA_t_has2 p0 p0_count) := q_DA.mk hD za_t_has2
  clear hAe hD0 hD
  have hS : va_S A s.heap s.heap [] := va_S.rf
  have m_0 : (.fieldLink RX5 9 "BowWalk$Shop" "count" "[I" : Cond) ∈ zw_t_has2 := List.mem_append_left _ (List.mem_of_getElem? (i := 1) rfl)
  have k_0 := hts _ m_0
  have i_X5 : ∀ w ∈ u_ws RX5 TX5 15, w ∈ zw_t_has2 := fun w h => List.mem_append_right _ (List.mem_append_left _ h)
  have lt_0 : (0 : Int32).toInt = 0 := by decide
  have lt_1 : (1 : Int32).toInt = 1 := by decide
  have lt_2 : (2 : Int32).toInt = 2 := by decide
  have hl := lv_entry ([.ref p0, .int 2, .int a2]) (n := 3) (Nat.le_of_ble_eq_true rfl)
  rw [lg_entry_eq]
  generalize (lg_sl ([.ref p0, .int 2, .int a2]) ++ List.replicate (3 - (lg_sl ([.ref p0, .int 2, .int a2])).length) Slot.unset).toArray = ls at hl ⊢
  have hl : lv_has ls 3 [(0, .ref p0), (1, .int 2), (2, .int a2)] := hl
  refine lv_iload_n hx hb dX5_has_0 rfl (lv_at hl 2 rfl) ?_
  refine lv_if_lt (tgt := 18) hx hb dX5_has_1 (by decide) (fun c_1 => ?_) (fun c_1 => ?_)
  · have tc_1 := q_lt c_1
    refine lv_iconst (v := 0) hx hb dX5_has_18 (by decide) ?_
    exact q_zret hx hb hr hlocks (by decide) hS dX5_has_19 ⟨(Or.inr ⟨rfl, by first | trivial | omega⟩), hP, za_t_has2⟩
  · have tc_1 := q_geN c_1
    refine lv_iload_n hx hb dX5_has_4 rfl (lv_at hl 2 rfl) (lv_aload_n hx hb dX5_has_5 rfl (lv_at hl 0 rfl) (qg_X5_0 hx hb hts i_X5 hown hK hP 0 rfl k_0 fr_p0_0 dX5_has_6 (lv_iload_n hx hb dX5_has_9 rfl (lv_at hl 1 rfl) (q_ild hx hb hK hP 1 0 rfl rfl (p1_in (i := 2) (n := 5) (by decide)) dX5_has_10 (fun v_2 ev_2 => ?_)))))
    have tv_2 : 0 ≤ v_2.toInt ∧ v_2.toInt ≤ 4 := by rw [ev_2]; exact q_cnt_2 hr_p0_count
    refine lv_icmp_ge (tgt := 18) hx hb dX5_has_11 (by decide) (fun c_3 => ?_) (fun c_3 => ?_)
    · have tc_3 := q_ge c_3
      refine lv_iconst (v := 0) hx hb dX5_has_18 (by decide) ?_
      exact q_zret hx hb hr hlocks (by decide) hS dX5_has_19 ⟨(Or.inr ⟨rfl, by first | trivial | omega⟩), hP, za_t_has2⟩
    · have tc_3 := q_ltN c_3
      refine lv_iconst (v := 1) hx hb dX5_has_14 (by decide) (lv_goto (tgt := 19) hx hb dX5_has_15 (by decide) ?_)
      exact q_zret hx hb hr hlocks (by decide) hS dX5_has_19 ⟨(Or.inl ⟨rfl, by first | trivial | omega⟩), hP, za_t_has2⟩
def zo_t_has3 : List Cond := [.code yX5_has cX5_has 3 (some .boolean), .fieldLink RX5 9 "BowWalk$Shop" "count" "[I"]
def zw_t_has3 : List Cond := zo_t_has3 ++ (wsX50 ++ [])
theorem gz_t_has3 : zw_t_has3.all goodWord = true := p1_ga (by decide +kernel) (p1_ga gk_X5 p1_g0)
theorem iz_t_has3 : ∀ w ∈ zw_t_has3, w ∈ lw_tbl := p1_ia (p1_all [717, 174] (by decide +kernel)) (p1_ia ik_X5 p1_i0)
def zW_t_has3 (p0 : Nat) (f_p0 : List Value) (p0_count : Nat) (c_p0_count : ClassId) (b_p0_count : Nat → Int32) : va_W := [(p0, .inr (5, f_p0)), (p0_count, .inl (c_p0_count, 5, .inl b_p0_count))]
def zT_t_has3 (c_p0_count : ClassId) : List (ClassId × FieldType) := [(c_p0_count, .int)]
def zA_t_has3 (p0 : Nat) (p0_count : Nat) : List Nat := [p0, p0_count]
theorem za_t_has3 {p0 : Nat} {f_p0 : List Value} {p0_count : Nat} {c_p0_count : ClassId} {b_p0_count : Nat → Int32} : (zW_t_has3 p0 f_p0 p0_count c_p0_count b_p0_count).map Prod.fst = (zA_t_has3 p0 p0_count) := rfl
def zG_t_has3 (p0 : Nat) (f_p0 : List Value) (p0_count : Nat) (c_p0_count : ClassId) (b_p0_count : Nat → Int32) (a2 : Int32) (r : Int32) (X : va_W → Prop) : Prop := ((r = 1 ∧ (0 ≤ a2.toInt ∧ a2.toInt ≤ 2)) ∨ (r = 0 ∧ (True))) ∧ X (zW_t_has3 p0 f_p0 p0_count c_p0_count b_p0_count)
theorem zm_t_has3 {p0 : Nat} {f_p0 : List Value} {p0_count : Nat} {c_p0_count : ClassId} {b_p0_count : Nat → Int32} {a2 : Int32} : ∀ (r : Int32), ∀ X Y : va_W → Prop, (∀ w, X w → Y w) → zG_t_has3 p0 f_p0 p0_count c_p0_count b_p0_count a2 r X → zG_t_has3 p0 f_p0 p0_count c_p0_count b_p0_count a2 r Y := fun r X Y h h1 => by obtain ⟨x0, hx⟩ := h1; exact ⟨x0, h _ hx⟩
set_option maxHeartbeats 4000000 in
set_option maxRecDepth 100000 in
theorem t_has3 (l : Launch) (dC : Nat → ClassId) (dI : Nat → Nat → Nat) (sz : Nat) (p0 : Nat) (f_p0 : List Value) (p0_count : Nat) (c_p0_count : ClassId) (b_p0_count : Nat → Int32) (a2 : Int32) (ho_p0 : OKX5 f_p0) (fr_p0_0 : q_rf f_p0 0 p0_count) (hr_p0_count : q_cnt b_p0_count) : Met l yX5_has zw_t_has3 ({ frames := 0, cells := 0, slots := 0, locals := 0 }) (va_Pc [.ref p0, .int 3, .int a2] (q_pre (dC, dI) (zW_t_has3 p0 f_p0 p0_count c_p0_count b_p0_count) (zT_t_has3 c_p0_count) q_E0 sz)) (q_Qi (dC, dI) (zG_t_has3 p0 f_p0 p0_count c_p0_count b_p0_count a2) (zA_t_has3 p0 p0_count) (va_A (zW_t_has3 p0 f_p0 p0_count c_p0_count b_p0_count) sz)) 0 0 (va_A (zW_t_has3 p0 f_p0 p0_count c_p0_count b_p0_count) sz) := by
  refine Met.ofW (cc := cX5_has) (maxL := 3) (ret := (some .boolean)) (by decide) rfl ?_
  intro p e s m args below meth c s₁ B hml hv
  obtain ⟨rfl, hsz, hP, hK, hD0, hE⟩ := hv
  have hx := B.exec
  have hb := B.bytes
  have hr := B.returns
  have hts := atoms_spec (ws := zw_t_has3) B.pre
  have hown : s.vm.findClass RX5 = some m.cls := findClass_of_methodNamed B.named
  have hlocks := B.notSynchronized
  subst hsz
  have hD := hD0.self (sz := s.heap.size)
  generalize hAe : va_A (zW_t_has3 p0 f_p0 p0_count c_p0_count b_p0_count) s.heap.size = A at hD hE ⊢
  have hA : ∀ q : Nat, s.heap.size ≤ q → A q := fun q h => by rw [← hAe]; exact Or.inr h
  have hDa : q_DA A (zA_t_has3 p0 p0_count) := q_DA.mk hD za_t_has3
  clear hAe hD0 hD
  have hS : va_S A s.heap s.heap [] := va_S.rf
  have m_0 : (.fieldLink RX5 9 "BowWalk$Shop" "count" "[I" : Cond) ∈ zw_t_has3 := List.mem_append_left _ (List.mem_of_getElem? (i := 1) rfl)
  have k_0 := hts _ m_0
  have i_X5 : ∀ w ∈ u_ws RX5 TX5 15, w ∈ zw_t_has3 := fun w h => List.mem_append_right _ (List.mem_append_left _ h)
  have lt_0 : (0 : Int32).toInt = 0 := by decide
  have lt_1 : (1 : Int32).toInt = 1 := by decide
  have lt_3 : (3 : Int32).toInt = 3 := by decide
  have hl := lv_entry ([.ref p0, .int 3, .int a2]) (n := 3) (Nat.le_of_ble_eq_true rfl)
  rw [lg_entry_eq]
  generalize (lg_sl ([.ref p0, .int 3, .int a2]) ++ List.replicate (3 - (lg_sl ([.ref p0, .int 3, .int a2])).length) Slot.unset).toArray = ls at hl ⊢
  have hl : lv_has ls 3 [(0, .ref p0), (1, .int 3), (2, .int a2)] := hl
  refine lv_iload_n hx hb dX5_has_0 rfl (lv_at hl 2 rfl) ?_
  refine lv_if_lt (tgt := 18) hx hb dX5_has_1 (by decide) (fun c_1 => ?_) (fun c_1 => ?_)
  · have tc_1 := q_lt c_1
    refine lv_iconst (v := 0) hx hb dX5_has_18 (by decide) ?_
    exact q_zret hx hb hr hlocks (by decide) hS dX5_has_19 ⟨(Or.inr ⟨rfl, by first | trivial | omega⟩), hP, za_t_has3⟩
  · have tc_1 := q_geN c_1
    refine lv_iload_n hx hb dX5_has_4 rfl (lv_at hl 2 rfl) (lv_aload_n hx hb dX5_has_5 rfl (lv_at hl 0 rfl) (qg_X5_0 hx hb hts i_X5 hown hK hP 0 rfl k_0 fr_p0_0 dX5_has_6 (lv_iload_n hx hb dX5_has_9 rfl (lv_at hl 1 rfl) (q_ild hx hb hK hP 1 0 rfl rfl (p1_in (i := 3) (n := 5) (by decide)) dX5_has_10 (fun v_2 ev_2 => ?_)))))
    have tv_2 : 0 ≤ v_2.toInt ∧ v_2.toInt ≤ 3 := by rw [ev_2]; exact q_cnt_3 hr_p0_count
    refine lv_icmp_ge (tgt := 18) hx hb dX5_has_11 (by decide) (fun c_3 => ?_) (fun c_3 => ?_)
    · have tc_3 := q_ge c_3
      refine lv_iconst (v := 0) hx hb dX5_has_18 (by decide) ?_
      exact q_zret hx hb hr hlocks (by decide) hS dX5_has_19 ⟨(Or.inr ⟨rfl, by first | trivial | omega⟩), hP, za_t_has3⟩
    · have tc_3 := q_ltN c_3
      refine lv_iconst (v := 1) hx hb dX5_has_14 (by decide) (lv_goto (tgt := 19) hx hb dX5_has_15 (by decide) ?_)
      exact q_zret hx hb hr hlocks (by decide) hS dX5_has_19 ⟨(Or.inl ⟨rfl, by first | trivial | omega⟩), hP, za_t_has3⟩
def zo_t_has4 : List Cond := [.code yX5_has cX5_has 3 (some .boolean), .fieldLink RX5 9 "BowWalk$Shop" "count" "[I"]
def zw_t_has4 : List Cond := zo_t_has4 ++ (wsX50 ++ [])
theorem gz_t_has4 : zw_t_has4.all goodWord = true := p1_ga (by decide +kernel) (p1_ga gk_X5 p1_g0)
theorem iz_t_has4 : ∀ w ∈ zw_t_has4, w ∈ lw_tbl := p1_ia (p1_all [717, 174] (by decide +kernel)) (p1_ia ik_X5 p1_i0)
def zW_t_has4 (p0 : Nat) (f_p0 : List Value) (p0_count : Nat) (c_p0_count : ClassId) (b_p0_count : Nat → Int32) : va_W := [(p0, .inr (5, f_p0)), (p0_count, .inl (c_p0_count, 5, .inl b_p0_count))]
def zT_t_has4 (c_p0_count : ClassId) : List (ClassId × FieldType) := [(c_p0_count, .int)]
def zA_t_has4 (p0 : Nat) (p0_count : Nat) : List Nat := [p0, p0_count]
theorem za_t_has4 {p0 : Nat} {f_p0 : List Value} {p0_count : Nat} {c_p0_count : ClassId} {b_p0_count : Nat → Int32} : (zW_t_has4 p0 f_p0 p0_count c_p0_count b_p0_count).map Prod.fst = (zA_t_has4 p0 p0_count) := rfl
def zG_t_has4 (p0 : Nat) (f_p0 : List Value) (p0_count : Nat) (c_p0_count : ClassId) (b_p0_count : Nat → Int32) (a2 : Int32) (r : Int32) (X : va_W → Prop) : Prop := ((r = 1 ∧ (0 ≤ a2.toInt ∧ a2.toInt ≤ 3)) ∨ (r = 0 ∧ (True))) ∧ X (zW_t_has4 p0 f_p0 p0_count c_p0_count b_p0_count)
theorem zm_t_has4 {p0 : Nat} {f_p0 : List Value} {p0_count : Nat} {c_p0_count : ClassId} {b_p0_count : Nat → Int32} {a2 : Int32} : ∀ (r : Int32), ∀ X Y : va_W → Prop, (∀ w, X w → Y w) → zG_t_has4 p0 f_p0 p0_count c_p0_count b_p0_count a2 r X → zG_t_has4 p0 f_p0 p0_count c_p0_count b_p0_count a2 r Y := fun r X Y h h1 => by obtain ⟨x0, hx⟩ := h1; exact ⟨x0, h _ hx⟩
set_option maxHeartbeats 4000000 in
set_option maxRecDepth 100000 in
theorem t_has4 (l : Launch) (dC : Nat → ClassId) (dI : Nat → Nat → Nat) (sz : Nat) (p0 : Nat) (f_p0 : List Value) (p0_count : Nat) (c_p0_count : ClassId) (b_p0_count : Nat → Int32) (a2 : Int32) (ho_p0 : OKX5 f_p0) (fr_p0_0 : q_rf f_p0 0 p0_count) (hr_p0_count : q_cnt b_p0_count) : Met l yX5_has zw_t_has4 ({ frames := 0, cells := 0, slots := 0, locals := 0 }) (va_Pc [.ref p0, .int 4, .int a2] (q_pre (dC, dI) (zW_t_has4 p0 f_p0 p0_count c_p0_count b_p0_count) (zT_t_has4 c_p0_count) q_E0 sz)) (q_Qi (dC, dI) (zG_t_has4 p0 f_p0 p0_count c_p0_count b_p0_count a2) (zA_t_has4 p0 p0_count) (va_A (zW_t_has4 p0 f_p0 p0_count c_p0_count b_p0_count) sz)) 0 0 (va_A (zW_t_has4 p0 f_p0 p0_count c_p0_count b_p0_count) sz) := by
  refine Met.ofW (cc := cX5_has) (maxL := 3) (ret := (some .boolean)) (by decide) rfl ?_
  intro p e s m args below meth c s₁ B hml hv
  obtain ⟨rfl, hsz, hP, hK, hD0, hE⟩ := hv
  have hx := B.exec
  have hb := B.bytes
  have hr := B.returns
  have hts := atoms_spec (ws := zw_t_has4) B.pre
  have hown : s.vm.findClass RX5 = some m.cls := findClass_of_methodNamed B.named
  have hlocks := B.notSynchronized
  subst hsz
  have hD := hD0.self (sz := s.heap.size)
  generalize hAe : va_A (zW_t_has4 p0 f_p0 p0_count c_p0_count b_p0_count) s.heap.size = A at hD hE ⊢
  have hA : ∀ q : Nat, s.heap.size ≤ q → A q := fun q h => by rw [← hAe]; exact Or.inr h
  have hDa : q_DA A (zA_t_has4 p0 p0_count) := q_DA.mk hD za_t_has4
  clear hAe hD0 hD
  have hS : va_S A s.heap s.heap [] := va_S.rf
  have m_0 : (.fieldLink RX5 9 "BowWalk$Shop" "count" "[I" : Cond) ∈ zw_t_has4 := List.mem_append_left _ (List.mem_of_getElem? (i := 1) rfl)
  have k_0 := hts _ m_0
  have i_X5 : ∀ w ∈ u_ws RX5 TX5 15, w ∈ zw_t_has4 := fun w h => List.mem_append_right _ (List.mem_append_left _ h)
  have lt_0 : (0 : Int32).toInt = 0 := by decide
  have lt_1 : (1 : Int32).toInt = 1 := by decide
  have lt_4 : (4 : Int32).toInt = 4 := by decide
  have hl := lv_entry ([.ref p0, .int 4, .int a2]) (n := 3) (Nat.le_of_ble_eq_true rfl)
  rw [lg_entry_eq]
  generalize (lg_sl ([.ref p0, .int 4, .int a2]) ++ List.replicate (3 - (lg_sl ([.ref p0, .int 4, .int a2])).length) Slot.unset).toArray = ls at hl ⊢
  have hl : lv_has ls 3 [(0, .ref p0), (1, .int 4), (2, .int a2)] := hl
  refine lv_iload_n hx hb dX5_has_0 rfl (lv_at hl 2 rfl) ?_
  refine lv_if_lt (tgt := 18) hx hb dX5_has_1 (by decide) (fun c_1 => ?_) (fun c_1 => ?_)
  · have tc_1 := q_lt c_1
    refine lv_iconst (v := 0) hx hb dX5_has_18 (by decide) ?_
    exact q_zret hx hb hr hlocks (by decide) hS dX5_has_19 ⟨(Or.inr ⟨rfl, by first | trivial | omega⟩), hP, za_t_has4⟩
  · have tc_1 := q_geN c_1
    refine lv_iload_n hx hb dX5_has_4 rfl (lv_at hl 2 rfl) (lv_aload_n hx hb dX5_has_5 rfl (lv_at hl 0 rfl) (qg_X5_0 hx hb hts i_X5 hown hK hP 0 rfl k_0 fr_p0_0 dX5_has_6 (lv_iload_n hx hb dX5_has_9 rfl (lv_at hl 1 rfl) (q_ild hx hb hK hP 1 0 rfl rfl (p1_in (i := 4) (n := 5) (by decide)) dX5_has_10 (fun v_2 ev_2 => ?_)))))
    have tv_2 : 0 ≤ v_2.toInt ∧ v_2.toInt ≤ 4 := by rw [ev_2]; exact q_cnt_4 hr_p0_count
    refine lv_icmp_ge (tgt := 18) hx hb dX5_has_11 (by decide) (fun c_3 => ?_) (fun c_3 => ?_)
    · have tc_3 := q_ge c_3
      refine lv_iconst (v := 0) hx hb dX5_has_18 (by decide) ?_
      exact q_zret hx hb hr hlocks (by decide) hS dX5_has_19 ⟨(Or.inr ⟨rfl, by first | trivial | omega⟩), hP, za_t_has4⟩
    · have tc_3 := q_ltN c_3
      refine lv_iconst (v := 1) hx hb dX5_has_14 (by decide) (lv_goto (tgt := 19) hx hb dX5_has_15 (by decide) ?_)
      exact q_zret hx hb hr hlocks (by decide) hS dX5_has_19 ⟨(Or.inl ⟨rfl, by first | trivial | omega⟩), hP, za_t_has4⟩
def zo_t_most : List Cond := [.code yX5_most cX5_most 1 (some .int)]
def zw_t_most : List Cond := zo_t_most ++ []
theorem gz_t_most : zw_t_most.all goodWord = true := p1_ga (by decide +kernel) p1_g0
theorem iz_t_most : ∀ w ∈ zw_t_most, w ∈ lw_tbl := p1_ia (p1_all [612] (by decide +kernel)) p1_i0
def zW_t_most : va_W := []
def zT_t_most : List (ClassId × FieldType) := []
def zA_t_most : List Nat := []
theorem za_t_most : (zW_t_most).map Prod.fst = zA_t_most := rfl
def zG_t_most (a0 : Int32) (r : Int32) (X : va_W → Prop) : Prop := ((3) ≤ r.toInt ∧ r.toInt ≤ 6) ∧ X (zW_t_most)
theorem zm_t_most {a0 : Int32} : ∀ (r : Int32), ∀ X Y : va_W → Prop, (∀ w, X w → Y w) → zG_t_most a0 r X → zG_t_most a0 r Y := fun r X Y h h1 => by obtain ⟨x0, hx⟩ := h1; exact ⟨x0, h _ hx⟩
set_option maxHeartbeats 4000000 in
set_option maxRecDepth 100000 in
theorem t_most (l : Launch) (dC : Nat → ClassId) (dI : Nat → Nat → Nat) (sz : Nat) (a0 : Int32) : Met l yX5_most zw_t_most ({ frames := 0, cells := 0, slots := 0, locals := 0 }) (va_Pc [.int a0] (q_pre (dC, dI) (zW_t_most) (zT_t_most) q_E0 sz)) (q_Qi (dC, dI) (zG_t_most a0) zA_t_most (va_A (zW_t_most) sz)) 0 0 (va_A (zW_t_most) sz) := by
  refine Met.ofW (cc := cX5_most) (maxL := 1) (ret := (some .int)) (by decide) rfl ?_
  intro p e s m args below meth c s₁ B hml hv
  obtain ⟨rfl, hsz, hP, hK, hD0, hE⟩ := hv
  have hx := B.exec
  have hb := B.bytes
  have hr := B.returns
  have hts := atoms_spec (ws := zw_t_most) B.pre
  have hown : s.vm.findClass RX5 = some m.cls := findClass_of_methodNamed B.named
  have hlocks := B.notSynchronized
  subst hsz
  have hD := hD0.self (sz := s.heap.size)
  generalize hAe : va_A (zW_t_most) s.heap.size = A at hD hE ⊢
  have hA : ∀ q : Nat, s.heap.size ≤ q → A q := fun q h => by rw [← hAe]; exact Or.inr h
  have hDa : q_DA A zA_t_most := q_DA.mk hD za_t_most
  clear hAe hD0 hD
  have hS : va_S A s.heap s.heap [] := va_S.rf
  have lt_0 : (0 : Int32).toInt = 0 := by decide
  have lt_1 : (1 : Int32).toInt = 1 := by decide
  have lt_2 : (2 : Int32).toInt = 2 := by decide
  have lt_3 : (3 : Int32).toInt = 3 := by decide
  have lt_4 : (4 : Int32).toInt = 4 := by decide
  have lt_6 : (6 : Int32).toInt = 6 := by decide
  have hl := lv_entry ([.int a0]) (n := 1) (Nat.le_of_ble_eq_true rfl)
  rw [lg_entry_eq]
  generalize (lg_sl ([.int a0]) ++ List.replicate (1 - (lg_sl ([.int a0])).length) Slot.unset).toArray = ls at hl ⊢
  have hl : lv_has ls 1 [(0, .int a0)] := hl
  refine lv_iload_n hx hb dX5_most_0 rfl (lv_at hl 0 rfl) ?_
  by_cases hk_1 : a0 = 0
  · refine lv_tableIn (tgt := 32) (off := 31) hx hb dX5_most_1 (by rw [hk_1]; decide) (by rw [hk_1]; decide) (by rw [hk_1]; decide) (by decide) ?_
    have thk_1 := q_eq hk_1
    refine lv_bipush (v := 6) hx hb dX5_most_32 (by decide) ?_
    exact q_iret hx hb hr hlocks hS dX5_most_34 ⟨(by omega), hP, za_t_most⟩
  by_cases hk_2 : a0 = 1
  · refine lv_tableIn (tgt := 35) (off := 34) hx hb dX5_most_1 (by rw [hk_2]; decide) (by rw [hk_2]; decide) (by rw [hk_2]; decide) (by decide) ?_
    have thk_2 := q_eq hk_2
    refine lv_iconst (v := 4) hx hb dX5_most_35 (by decide) ?_
    exact q_iret hx hb hr hlocks hS dX5_most_36 ⟨(by omega), hP, za_t_most⟩
  by_cases hk_3 : a0 = 2
  · refine lv_tableIn (tgt := 37) (off := 36) hx hb dX5_most_1 (by rw [hk_3]; decide) (by rw [hk_3]; decide) (by rw [hk_3]; decide) (by decide) ?_
    have thk_3 := q_eq hk_3
    refine lv_iconst (v := 4) hx hb dX5_most_37 (by decide) ?_
    exact q_iret hx hb hr hlocks hS dX5_most_38 ⟨(by omega), hP, za_t_most⟩
  by_cases hk_4 : a0 = 3
  · refine lv_tableIn (tgt := 39) (off := 38) hx hb dX5_most_1 (by rw [hk_4]; decide) (by rw [hk_4]; decide) (by rw [hk_4]; decide) (by decide) ?_
    have thk_4 := q_eq hk_4
    refine lv_iconst (v := 3) hx hb dX5_most_39 (by decide) ?_
    exact q_iret hx hb hr hlocks hS dX5_most_40 ⟨(by omega), hP, za_t_most⟩
  have thk_1 := q_ne hk_1
  have thk_2 := q_ne hk_2
  have thk_3 := q_ne hk_3
  have thk_4 := q_ne hk_4
  refine lv_tableOut (tgt := 41) hx hb dX5_most_1 (by omega) (by decide) ?_
  refine lv_iconst (v := 4) hx hb dX5_most_41 (by decide) ?_
  exact q_iret hx hb hr hlocks hS dX5_most_42 ⟨(by omega), hP, za_t_most⟩
def zo_t_lawsAsked : List Cond := [.code yX5_lawsAsked cX5_lawsAsked 1 (some .int), .fieldLink RX5 9 "BowWalk$Shop" "count" "[I", .methodLink RX5 67 Lib.Math.max.name, .static Lib.Math.max.name, .initialized "java/lang/Math", .code Lib.Math.max.name Lib.Math.max.code 2 (some .int)]
def zw_t_lawsAsked : List Cond := zo_t_lawsAsked ++ (wsX50 ++ [])
theorem gz_t_lawsAsked : zw_t_lawsAsked.all goodWord = true := p1_ga (by decide +kernel) (p1_ga gk_X5 p1_g0)
theorem iz_t_lawsAsked : ∀ w ∈ zw_t_lawsAsked, w ∈ lw_tbl := p1_ia (p1_all [821, 174, 822, 763, 117, 764] (by decide +kernel)) (p1_ia ik_X5 p1_i0)
def zW_t_lawsAsked (p0 : Nat) (f_p0 : List Value) (p0_count : Nat) (c_p0_count : ClassId) (b_p0_count : Nat → Int32) : va_W := [(p0, .inr (5, f_p0)), (p0_count, .inl (c_p0_count, 5, .inl b_p0_count))]
def zT_t_lawsAsked (c_p0_count : ClassId) : List (ClassId × FieldType) := [(c_p0_count, .int)]
def zA_t_lawsAsked (p0 : Nat) (p0_count : Nat) : List Nat := [p0, p0_count]
theorem za_t_lawsAsked {p0 : Nat} {f_p0 : List Value} {p0_count : Nat} {c_p0_count : ClassId} {b_p0_count : Nat → Int32} : (zW_t_lawsAsked p0 f_p0 p0_count c_p0_count b_p0_count).map Prod.fst = (zA_t_lawsAsked p0 p0_count) := rfl
def zG_t_lawsAsked (p0 : Nat) (f_p0 : List Value) (p0_count : Nat) (c_p0_count : ClassId) (b_p0_count : Nat → Int32) (r : Int32) (X : va_W → Prop) : Prop := X (zW_t_lawsAsked p0 f_p0 p0_count c_p0_count b_p0_count)
theorem zm_t_lawsAsked {p0 : Nat} {f_p0 : List Value} {p0_count : Nat} {c_p0_count : ClassId} {b_p0_count : Nat → Int32} : ∀ (r : Int32), ∀ X Y : va_W → Prop, (∀ w, X w → Y w) → zG_t_lawsAsked p0 f_p0 p0_count c_p0_count b_p0_count r X → zG_t_lawsAsked p0 f_p0 p0_count c_p0_count b_p0_count r Y := fun r X Y h h1 => h _ h1
set_option maxHeartbeats 4000000 in
set_option maxRecDepth 100000 in
theorem t_lawsAsked (l : Launch) (dC : Nat → ClassId) (dI : Nat → Nat → Nat) (sz : Nat) (p0 : Nat) (f_p0 : List Value) (p0_count : Nat) (c_p0_count : ClassId) (b_p0_count : Nat → Int32) (ho_p0 : OKX5 f_p0) (fr_p0_0 : q_rf f_p0 0 p0_count) (hr_p0_count : q_cnt b_p0_count) : Met l yX5_lawsAsked zw_t_lawsAsked ({ frames := 1, cells := 0, slots := 0, locals := 22 }) (va_Pc [.ref p0] (q_pre (dC, dI) (zW_t_lawsAsked p0 f_p0 p0_count c_p0_count b_p0_count) (zT_t_lawsAsked c_p0_count) q_E0 sz)) (q_Qi (dC, dI) (zG_t_lawsAsked p0 f_p0 p0_count c_p0_count b_p0_count) (zA_t_lawsAsked p0 p0_count) (va_A (zW_t_lawsAsked p0 f_p0 p0_count c_p0_count b_p0_count) sz)) 0 0 (va_A (zW_t_lawsAsked p0 f_p0 p0_count c_p0_count b_p0_count) sz) := by
  refine Met.ofW (cc := cX5_lawsAsked) (maxL := 1) (ret := (some .int)) (by decide) rfl ?_
  intro p e s m args below meth c s₁ B hml hv
  obtain ⟨rfl, hsz, hP, hK, hD0, hE⟩ := hv
  have hx := B.exec
  have hb := B.bytes
  have hr := B.returns
  have hts := atoms_spec (ws := zw_t_lawsAsked) B.pre
  have hown : s.vm.findClass RX5 = some m.cls := findClass_of_methodNamed B.named
  have hlocks := B.notSynchronized
  subst hsz
  have hD := hD0.self (sz := s.heap.size)
  generalize hAe : va_A (zW_t_lawsAsked p0 f_p0 p0_count c_p0_count b_p0_count) s.heap.size = A at hD hE ⊢
  have hA : ∀ q : Nat, s.heap.size ≤ q → A q := fun q h => by rw [← hAe]; exact Or.inr h
  have hDa : q_DA A (zA_t_lawsAsked p0 p0_count) := q_DA.mk hD za_t_lawsAsked
  clear hAe hD0 hD
  have hS : va_S A s.heap s.heap [] := va_S.rf
  have m_0 : (.fieldLink RX5 9 "BowWalk$Shop" "count" "[I" : Cond) ∈ zw_t_lawsAsked := List.mem_append_left _ (List.mem_of_getElem? (i := 1) rfl)
  have k_0 := hts _ m_0
  have m_1 : (.methodLink RX5 67 Lib.Math.max.name : Cond) ∈ zw_t_lawsAsked := List.mem_append_left _ (List.mem_of_getElem? (i := 2) rfl)
  have k_1 := hts _ m_1
  have m_2 : (.static Lib.Math.max.name : Cond) ∈ zw_t_lawsAsked := List.mem_append_left _ (List.mem_of_getElem? (i := 3) rfl)
  have k_2 := hts _ m_2
  have m_3 : (.initialized "java/lang/Math" : Cond) ∈ zw_t_lawsAsked := List.mem_append_left _ (List.mem_of_getElem? (i := 4) rfl)
  have k_3 := hts _ m_3
  have m_4 : (.code Lib.Math.max.name Lib.Math.max.code 2 (some .int) : Cond) ∈ zw_t_lawsAsked := List.mem_append_left _ (List.mem_of_getElem? (i := 5) rfl)
  have k_4 := hts _ m_4
  have i_X5 : ∀ w ∈ u_ws RX5 TX5 15, w ∈ zw_t_lawsAsked := fun w h => List.mem_append_right _ (List.mem_append_left _ h)
  have lt_1 : (1 : Int32).toInt = 1 := by decide
  have lt_3 : (3 : Int32).toInt = 3 := by decide
  have hl := lv_entry ([.ref p0]) (n := 1) (Nat.le_of_ble_eq_true rfl)
  rw [lg_entry_eq]
  generalize (lg_sl ([.ref p0]) ++ List.replicate (1 - (lg_sl ([.ref p0])).length) Slot.unset).toArray = ls at hl ⊢
  have hl : lv_has ls 1 [(0, .ref p0)] := hl
  refine lv_iconst (v := 1) hx hb dX5_lawsAsked_0 (by decide) (lv_aload_n hx hb dX5_lawsAsked_1 rfl (lv_at hl 0 rfl) (qg_X5_0 hx hb hts i_X5 hown hK hP 0 rfl k_0 fr_p0_0 dX5_lawsAsked_2 (lv_iconst (v := 3) hx hb dX5_lawsAsked_5 (by decide) (q_ild hx hb hK hP 1 0 rfl rfl (p1_in (i := 3) (n := 5) (by decide)) dX5_lawsAsked_6 (fun v_1 ev_1 => ?_)))))
  have tv_1 : 0 ≤ v_1.toInt ∧ v_1.toInt ≤ 3 := by rw [ev_1]; exact q_cnt_3 hr_p0_count
  refine va_mmax hx hb (by rw [hml]; exact hl.1.symm) hown k_1 k_2 k_3 k_4 (Nat.le_of_ble_eq_true rfl) (Nat.le_of_ble_eq_true rfl) (Nat.le_of_ble_eq_true rfl) (Nat.le_of_ble_eq_true rfl) dX5_lawsAsked_7 (lv_topi fun v_2 ev_2 => ?_)
  have tv_2 := q_max ev_2
  have rv_2 : 1 ≤ v_2.toInt ∧ v_2.toInt ≤ 3 := by omega
  exact q_iret hx hb hr hlocks hS dX5_lawsAsked_10 ⟨hP, za_t_lawsAsked⟩
def zo_t_hasPair : List Cond := [.code yX5_hasPair cX5_hasPair 2 (some .boolean), .methodLink RX5 73 yX5_lawsAsked, .instanceMethod yX5_lawsAsked, .selects RX5 yX5_lawsAsked yX5_lawsAsked, .initialized RX5, .methodLink RX5 77 yX5_has, .instanceMethod yX5_has, .selects RX5 yX5_has yX5_has]
def zw_t_hasPair : List Cond := zo_t_hasPair ++ (zw_t_lawsAsked ++ (zw_t_has1 ++ []))
theorem gz_t_hasPair : zw_t_hasPair.all goodWord = true := p1_ga (by decide +kernel) (p1_ga gz_t_lawsAsked (p1_ga gz_t_has1 p1_g0))
theorem iz_t_hasPair : ∀ w ∈ zw_t_hasPair, w ∈ lw_tbl := p1_ia (p1_all [954, 955, 819, 820, 106, 956, 715, 716] (by decide +kernel)) (p1_ia iz_t_lawsAsked (p1_ia iz_t_has1 p1_i0))
def zW_t_hasPair (p0 : Nat) (f_p0 : List Value) (p0_count : Nat) (c_p0_count : ClassId) (b_p0_count : Nat → Int32) : va_W := [(p0, .inr (5, f_p0)), (p0_count, .inl (c_p0_count, 5, .inl b_p0_count))]
def zT_t_hasPair (c_p0_count : ClassId) : List (ClassId × FieldType) := [(c_p0_count, .int)]
def zA_t_hasPair (p0 : Nat) (p0_count : Nat) : List Nat := [p0, p0_count]
theorem za_t_hasPair {p0 : Nat} {f_p0 : List Value} {p0_count : Nat} {c_p0_count : ClassId} {b_p0_count : Nat → Int32} : (zW_t_hasPair p0 f_p0 p0_count c_p0_count b_p0_count).map Prod.fst = (zA_t_hasPair p0 p0_count) := rfl
def zG_t_hasPair (p0 : Nat) (f_p0 : List Value) (p0_count : Nat) (c_p0_count : ClassId) (b_p0_count : Nat → Int32) (a1 : Int32) (r : Int32) (X : va_W → Prop) : Prop := ((r = 1 ∧ (0 ≤ a1.toInt)) ∨ (r = 0 ∧ (True))) ∧ X (zW_t_hasPair p0 f_p0 p0_count c_p0_count b_p0_count)
theorem zm_t_hasPair {p0 : Nat} {f_p0 : List Value} {p0_count : Nat} {c_p0_count : ClassId} {b_p0_count : Nat → Int32} {a1 : Int32} : ∀ (r : Int32), ∀ X Y : va_W → Prop, (∀ w, X w → Y w) → zG_t_hasPair p0 f_p0 p0_count c_p0_count b_p0_count a1 r X → zG_t_hasPair p0 f_p0 p0_count c_p0_count b_p0_count a1 r Y := fun r X Y h h1 => by obtain ⟨x0, hx⟩ := h1; exact ⟨x0, h _ hx⟩
set_option maxHeartbeats 4000000 in
set_option maxRecDepth 100000 in
theorem t_hasPair (l : Launch) (dC : Nat → ClassId) (dI : Nat → Nat → Nat) (sz : Nat) (p0 : Nat) (f_p0 : List Value) (p0_count : Nat) (c_p0_count : ClassId) (b_p0_count : Nat → Int32) (a1 : Int32) (ho_p0 : OKX5 f_p0) (fr_p0_0 : q_rf f_p0 0 p0_count) (hr_p0_count : q_cnt b_p0_count) : Met l yX5_hasPair zw_t_hasPair ({ frames := 2, cells := 0, slots := 0, locals := 42 }) (va_Pc [.ref p0, .int a1] (q_pre (dC, dI) (zW_t_hasPair p0 f_p0 p0_count c_p0_count b_p0_count) (zT_t_hasPair c_p0_count) q_E0 sz)) (q_Qi (dC, dI) (zG_t_hasPair p0 f_p0 p0_count c_p0_count b_p0_count a1) (zA_t_hasPair p0 p0_count) (va_A (zW_t_hasPair p0 f_p0 p0_count c_p0_count b_p0_count) sz)) 0 0 (va_A (zW_t_hasPair p0 f_p0 p0_count c_p0_count b_p0_count) sz) := by
  refine Met.ofW (cc := cX5_hasPair) (maxL := 2) (ret := (some .boolean)) (by decide) rfl ?_
  intro p e s m args below meth c s₁ B hml hv
  obtain ⟨rfl, hsz, hP, hK, hD0, hE⟩ := hv
  have hx := B.exec
  have hb := B.bytes
  have hr := B.returns
  have hts := atoms_spec (ws := zw_t_hasPair) B.pre
  have hown : s.vm.findClass RX5 = some m.cls := findClass_of_methodNamed B.named
  have hlocks := B.notSynchronized
  subst hsz
  have hD := hD0.self (sz := s.heap.size)
  generalize hAe : va_A (zW_t_hasPair p0 f_p0 p0_count c_p0_count b_p0_count) s.heap.size = A at hD hE ⊢
  have hA : ∀ q : Nat, s.heap.size ≤ q → A q := fun q h => by rw [← hAe]; exact Or.inr h
  have hDa : q_DA A (zA_t_hasPair p0 p0_count) := q_DA.mk hD za_t_hasPair
  clear hAe hD0 hD
  have hS : va_S A s.heap s.heap [] := va_S.rf
  have m_0 : (.methodLink RX5 73 yX5_lawsAsked : Cond) ∈ zw_t_hasPair := List.mem_append_left _ (List.mem_of_getElem? (i := 1) rfl)
  have k_0 := hts _ m_0
  have m_1 : (.instanceMethod yX5_lawsAsked : Cond) ∈ zw_t_hasPair := List.mem_append_left _ (List.mem_of_getElem? (i := 2) rfl)
  have k_1 := hts _ m_1
  have m_2 : (.selects RX5 yX5_lawsAsked yX5_lawsAsked : Cond) ∈ zw_t_hasPair := List.mem_append_left _ (List.mem_of_getElem? (i := 3) rfl)
  have k_2 := hts _ m_2
  have m_3 : (.initialized RX5 : Cond) ∈ zw_t_hasPair := List.mem_append_left _ (List.mem_of_getElem? (i := 4) rfl)
  have k_3 := hts _ m_3
  have m_4 : (.methodLink RX5 77 yX5_has : Cond) ∈ zw_t_hasPair := List.mem_append_left _ (List.mem_of_getElem? (i := 5) rfl)
  have k_4 := hts _ m_4
  have m_5 : (.instanceMethod yX5_has : Cond) ∈ zw_t_hasPair := List.mem_append_left _ (List.mem_of_getElem? (i := 6) rfl)
  have k_5 := hts _ m_5
  have m_6 : (.selects RX5 yX5_has yX5_has : Cond) ∈ zw_t_hasPair := List.mem_append_left _ (List.mem_of_getElem? (i := 7) rfl)
  have k_6 := hts _ m_6
  have g_t_lawsAsked : ∀ w ∈ zw_t_lawsAsked, w ∈ zw_t_hasPair := fun w h => List.mem_append_right _ (List.mem_append_left _ h)
  have g_t_has1 : ∀ w ∈ zw_t_has1, w ∈ zw_t_hasPair := fun w h => List.mem_append_right _ (List.mem_append_right _ (List.mem_append_left _ h))
  have lt_0 : (0 : Int32).toInt = 0 := by decide
  have lt_1 : (1 : Int32).toInt = 1 := by decide
  have lt_4 : (4 : Int32).toInt = 4 := by decide
  have hl := lv_entry ([.ref p0, .int a1]) (n := 2) (Nat.le_of_ble_eq_true rfl)
  rw [lg_entry_eq]
  generalize (lg_sl ([.ref p0, .int a1]) ++ List.replicate (2 - (lg_sl ([.ref p0, .int a1])).length) Slot.unset).toArray = ls at hl ⊢
  have hl : lv_has ls 2 [(0, .ref p0), (1, .int a1)] := hl
  refine lv_iload_n hx hb dX5_hasPair_0 rfl (lv_at hl 1 rfl) ?_
  refine lv_if_lt (tgt := 29) hx hb dX5_hasPair_1 (by decide) (fun c_1 => ?_) (fun c_1 => ?_)
  · have tc_1 := q_lt c_1
    refine lv_iconst (v := 0) hx hb dX5_hasPair_29 (by decide) ?_
    exact q_zret hx hb hr hlocks (by decide) hS dX5_hasPair_30 ⟨(Or.inr ⟨rfl, by first | trivial | omega⟩), hP, za_t_hasPair⟩
  · have tc_1 := q_geN c_1
    refine lv_iload_n hx hb dX5_hasPair_4 rfl (lv_at hl 1 rfl) (lv_iconst (v := 4) hx hb dX5_hasPair_5 (by decide) (lv_idiv hx hb dX5_hasPair_6 (by decide) (lv_topi fun v_2 ev_2 => ?_)))
    have tv_2 := q_div (c := 4) ev_2 (by decide) (by decide) (by omega)
    refine lv_aload_n hx hb dX5_hasPair_7 rfl (lv_at hl 0 rfl) ?_
    refine q_cVi (As := []) (rest := [.int v_2]) q_w0 trivial hK hP hDa za_t_hasPair hS hA [0, 1] [0] (by decide +kernel) ⟨hx, hb, hml, hown, hts⟩ (t_lawsAsked l dC dI s.heap.size p0 f_p0 p0_count c_p0_count b_p0_count ho_p0 fr_p0_0 hr_p0_count) rfl rfl (cwV 0 hts (p1_gV m_0 m_1 m_2 m_3 g_t_lawsAsked gz_t_lawsAsked) rfl rfl rfl (by decide +kernel) ⟨by decide, by decide⟩) (va_recv hK hP (ci := 5) (q0 := 0) rfl rfl) zm_t_lawsAsked rfl hl.1 rfl (Nat.le_of_ble_eq_true rfl) dX5_hasPair_8 ⟨by decide, by decide⟩ (fun r_3 H4 lo4 hG4 hS4 => ?_)
    have hQ4 := hG4
    have hP4 : va_P (dC, dI) vwCl (zW_t_hasPair p0 f_p0 p0_count c_p0_count b_p0_count) H4 := hQ4
    clear hQ4 hP hS
    refine lv_icmp_ge (tgt := 29) hx hb dX5_hasPair_11 (by decide) (fun c_5 => ?_) (fun c_5 => ?_)
    · have tc_5 := q_ge c_5
      refine lv_iconst (v := 0) hx hb dX5_hasPair_29 (by decide) ?_
      exact q_zret hx hb hr hlocks (by decide) hS4 dX5_hasPair_30 ⟨(Or.inr ⟨rfl, by first | trivial | omega⟩), hP4, za_t_hasPair⟩
    · have tc_5 := q_ltN c_5
      refine lv_aload_n hx hb dX5_hasPair_14 rfl (lv_at hl 0 rfl) (lv_iconst (v := 1) hx hb dX5_hasPair_15 (by decide) (lv_iload_n hx hb dX5_hasPair_16 rfl (lv_at hl 1 rfl) (lv_iconst (v := 4) hx hb dX5_hasPair_17 (by decide) (lv_irem hx hb dX5_hasPair_18 (by decide) (lv_topi fun v_6 ev_6 => ?_)))))
      have tv_6 := q_rem (c := 4) ev_6 (by decide) (by decide) (by omega)
      refine q_cVi (As := [.int 1, .int v_6]) (rest := []) q_w0 trivial hK hP4 hDa za_t_hasPair hS4 hA [0, 1] [0] (by decide +kernel) ⟨hx, hb, hml, hown, hts⟩ (t_has1 l dC dI H4.size p0 f_p0 p0_count c_p0_count b_p0_count v_6 ho_p0 fr_p0_0 hr_p0_count) rfl rfl (cwV 2 hts (p1_gV m_4 m_5 m_6 m_3 g_t_has1 gz_t_has1) rfl rfl rfl (by decide +kernel) ⟨by decide, by decide⟩) (va_recv hK hP4 (ci := 5) (q0 := 0) rfl rfl) zm_t_has1 rfl hl.1 rfl (Nat.le_of_ble_eq_true rfl) dX5_hasPair_19 ⟨by decide, by decide⟩ (fun r_7 H8 lo8 hG8 hS8 => ?_)
      obtain ⟨z_9, hQ8⟩ := hG8
      have hP8 : va_P (dC, dI) vwCl (zW_t_hasPair p0 f_p0 p0_count c_p0_count b_p0_count) H8 := hQ8
      clear hQ8 hP4 hS4
      rcases z_9 with ⟨rfl, z_9⟩ | ⟨rfl, z_9⟩
      · refine lv_if_eq (tgt := 29) hx hb dX5_hasPair_22 (by decide) (fun c_10 => absurd c_10 (by decide)) (fun c_10 => ?_)
        refine lv_iconst (v := 1) hx hb dX5_hasPair_25 (by decide) (lv_goto (tgt := 30) hx hb dX5_hasPair_26 (by decide) ?_)
        exact q_zret hx hb hr hlocks (by decide) hS8 dX5_hasPair_30 ⟨(Or.inl ⟨rfl, by first | trivial | omega⟩), hP8, za_t_hasPair⟩
      · refine lv_if_eq (tgt := 29) hx hb dX5_hasPair_22 (by decide) (fun c_11 => ?_) (fun c_11 => absurd c_11 (by decide))
        refine lv_iconst (v := 0) hx hb dX5_hasPair_29 (by decide) ?_
        exact q_zret hx hb hr hlocks (by decide) hS8 dX5_hasPair_30 ⟨(Or.inr ⟨rfl, by first | trivial | omega⟩), hP8, za_t_hasPair⟩
def zo_t_isNamed0 : List Cond := [.code yX5_isNamed cX5_isNamed 5 (some .boolean), .fieldLink RX5 9 "BowWalk$Shop" "count" "[I", .fieldLink RX5 15 "BowWalk$Shop" "names" "[[J"]
def zw_t_isNamed0 : List Cond := zo_t_isNamed0 ++ (wsX50 ++ [])
theorem gz_t_isNamed0 : zw_t_isNamed0.all goodWord = true := p1_ga (by decide +kernel) (p1_ga gk_X5 p1_g0)
theorem iz_t_isNamed0 : ∀ w ∈ zw_t_isNamed0, w ∈ lw_tbl := p1_ia (p1_all [620, 174, 177] (by decide +kernel)) (p1_ia ik_X5 p1_i0)
def zW_t_isNamed0 (p0 : Nat) (f_p0 : List Value) (p0_count : Nat) (c_p0_count : ClassId) (b_p0_count : Nat → Int32) (p0_names : Nat) (c_p0_names : ClassId) (b_p0_names : Nat → Option Nat) (p0_names_0 : Nat) (c_p0_names_0 : ClassId) (b_p0_names_0 : Nat → Int64) (p0_names_1 : Nat) (c_p0_names_1 : ClassId) (b_p0_names_1 : Nat → Int64) (p0_names_2 : Nat) (c_p0_names_2 : ClassId) (b_p0_names_2 : Nat → Int64) (p0_names_3 : Nat) (c_p0_names_3 : ClassId) (b_p0_names_3 : Nat → Int64) (p0_names_4 : Nat) (c_p0_names_4 : ClassId) (b_p0_names_4 : Nat → Int64) : va_W := [(p0, .inr (5, f_p0)), (p0_count, .inl (c_p0_count, 5, .inl b_p0_count)), (p0_names, .inl (c_p0_names, 5, .inr (.inr (.inr (.inr b_p0_names))))), (p0_names_0, .inl (c_p0_names_0, 6, .inr (.inl b_p0_names_0))), (p0_names_1, .inl (c_p0_names_1, 6, .inr (.inl b_p0_names_1))), (p0_names_2, .inl (c_p0_names_2, 6, .inr (.inl b_p0_names_2))), (p0_names_3, .inl (c_p0_names_3, 6, .inr (.inl b_p0_names_3))), (p0_names_4, .inl (c_p0_names_4, 6, .inr (.inl b_p0_names_4)))]
def zT_t_isNamed0 (c_p0_count : ClassId) (c_p0_names : ClassId) (c_p0_names_0 : ClassId) (c_p0_names_1 : ClassId) (c_p0_names_2 : ClassId) (c_p0_names_3 : ClassId) (c_p0_names_4 : ClassId) : List (ClassId × FieldType) := [(c_p0_count, .int), (c_p0_names, .array .long), (c_p0_names_0, .long), (c_p0_names_1, .long), (c_p0_names_2, .long), (c_p0_names_3, .long), (c_p0_names_4, .long)]
def zA_t_isNamed0 (p0 : Nat) (p0_count : Nat) (p0_names : Nat) (p0_names_0 : Nat) (p0_names_1 : Nat) (p0_names_2 : Nat) (p0_names_3 : Nat) (p0_names_4 : Nat) : List Nat := [p0, p0_count, p0_names, p0_names_0, p0_names_1, p0_names_2, p0_names_3, p0_names_4]
theorem za_t_isNamed0 {p0 : Nat} {f_p0 : List Value} {p0_count : Nat} {c_p0_count : ClassId} {b_p0_count : Nat → Int32} {p0_names : Nat} {c_p0_names : ClassId} {b_p0_names : Nat → Option Nat} {p0_names_0 : Nat} {c_p0_names_0 : ClassId} {b_p0_names_0 : Nat → Int64} {p0_names_1 : Nat} {c_p0_names_1 : ClassId} {b_p0_names_1 : Nat → Int64} {p0_names_2 : Nat} {c_p0_names_2 : ClassId} {b_p0_names_2 : Nat → Int64} {p0_names_3 : Nat} {c_p0_names_3 : ClassId} {b_p0_names_3 : Nat → Int64} {p0_names_4 : Nat} {c_p0_names_4 : ClassId} {b_p0_names_4 : Nat → Int64} : (zW_t_isNamed0 p0 f_p0 p0_count c_p0_count b_p0_count p0_names c_p0_names b_p0_names p0_names_0 c_p0_names_0 b_p0_names_0 p0_names_1 c_p0_names_1 b_p0_names_1 p0_names_2 c_p0_names_2 b_p0_names_2 p0_names_3 c_p0_names_3 b_p0_names_3 p0_names_4 c_p0_names_4 b_p0_names_4).map Prod.fst = (zA_t_isNamed0 p0 p0_count p0_names p0_names_0 p0_names_1 p0_names_2 p0_names_3 p0_names_4) := rfl
def zG_t_isNamed0 (p0 : Nat) (f_p0 : List Value) (p0_count : Nat) (c_p0_count : ClassId) (b_p0_count : Nat → Int32) (p0_names : Nat) (c_p0_names : ClassId) (b_p0_names : Nat → Option Nat) (p0_names_0 : Nat) (c_p0_names_0 : ClassId) (b_p0_names_0 : Nat → Int64) (p0_names_1 : Nat) (c_p0_names_1 : ClassId) (b_p0_names_1 : Nat → Int64) (p0_names_2 : Nat) (c_p0_names_2 : ClassId) (b_p0_names_2 : Nat → Int64) (p0_names_3 : Nat) (c_p0_names_3 : ClassId) (b_p0_names_3 : Nat → Int64) (p0_names_4 : Nat) (c_p0_names_4 : ClassId) (b_p0_names_4 : Nat → Int64) (a2 : Int64) (r : Int32) (X : va_W → Prop) : Prop := ((r = 1 ∧ (True)) ∨ (r = 0 ∧ (True))) ∧ X (zW_t_isNamed0 p0 f_p0 p0_count c_p0_count b_p0_count p0_names c_p0_names b_p0_names p0_names_0 c_p0_names_0 b_p0_names_0 p0_names_1 c_p0_names_1 b_p0_names_1 p0_names_2 c_p0_names_2 b_p0_names_2 p0_names_3 c_p0_names_3 b_p0_names_3 p0_names_4 c_p0_names_4 b_p0_names_4)
theorem zm_t_isNamed0 {p0 : Nat} {f_p0 : List Value} {p0_count : Nat} {c_p0_count : ClassId} {b_p0_count : Nat → Int32} {p0_names : Nat} {c_p0_names : ClassId} {b_p0_names : Nat → Option Nat} {p0_names_0 : Nat} {c_p0_names_0 : ClassId} {b_p0_names_0 : Nat → Int64} {p0_names_1 : Nat} {c_p0_names_1 : ClassId} {b_p0_names_1 : Nat → Int64} {p0_names_2 : Nat} {c_p0_names_2 : ClassId} {b_p0_names_2 : Nat → Int64} {p0_names_3 : Nat} {c_p0_names_3 : ClassId} {b_p0_names_3 : Nat → Int64} {p0_names_4 : Nat} {c_p0_names_4 : ClassId} {b_p0_names_4 : Nat → Int64} {a2 : Int64} : ∀ (r : Int32), ∀ X Y : va_W → Prop, (∀ w, X w → Y w) → zG_t_isNamed0 p0 f_p0 p0_count c_p0_count b_p0_count p0_names c_p0_names b_p0_names p0_names_0 c_p0_names_0 b_p0_names_0 p0_names_1 c_p0_names_1 b_p0_names_1 p0_names_2 c_p0_names_2 b_p0_names_2 p0_names_3 c_p0_names_3 b_p0_names_3 p0_names_4 c_p0_names_4 b_p0_names_4 a2 r X → zG_t_isNamed0 p0 f_p0 p0_count c_p0_count b_p0_count p0_names c_p0_names b_p0_names p0_names_0 c_p0_names_0 b_p0_names_0 p0_names_1 c_p0_names_1 b_p0_names_1 p0_names_2 c_p0_names_2 b_p0_names_2 p0_names_3 c_p0_names_3 b_p0_names_3 p0_names_4 c_p0_names_4 b_p0_names_4 a2 r Y := fun r X Y h h1 => by obtain ⟨x0, hx⟩ := h1; exact ⟨x0, h _ hx⟩
set_option maxHeartbeats 4000000 in
set_option maxRecDepth 100000 in
theorem t_isNamed0 (l : Launch) (dC : Nat → ClassId) (dI : Nat → Nat → Nat) (sz : Nat) (p0 : Nat) (f_p0 : List Value) (p0_count : Nat) (c_p0_count : ClassId) (b_p0_count : Nat → Int32) (p0_names : Nat) (c_p0_names : ClassId) (b_p0_names : Nat → Option Nat) (p0_names_0 : Nat) (c_p0_names_0 : ClassId) (b_p0_names_0 : Nat → Int64) (p0_names_1 : Nat) (c_p0_names_1 : ClassId) (b_p0_names_1 : Nat → Int64) (p0_names_2 : Nat) (c_p0_names_2 : ClassId) (b_p0_names_2 : Nat → Int64) (p0_names_3 : Nat) (c_p0_names_3 : ClassId) (b_p0_names_3 : Nat → Int64) (p0_names_4 : Nat) (c_p0_names_4 : ClassId) (b_p0_names_4 : Nat → Int64) (a2 : Int64) (ho_p0 : OKX5 f_p0) (fr_p0_0 : q_rf f_p0 0 p0_count) (fr_p0_1 : q_rf f_p0 1 p0_names) (hr_p0_count : q_cnt b_p0_count) (hn_p0_names_0 : b_p0_names 0 = some p0_names_0) (hn_p0_names_1 : b_p0_names 1 = some p0_names_1) (hn_p0_names_2 : b_p0_names 2 = some p0_names_2) (hn_p0_names_3 : b_p0_names 3 = some p0_names_3) (hn_p0_names_4 : b_p0_names 4 = some p0_names_4) : Met l yX5_isNamed zw_t_isNamed0 ({ frames := 0, cells := 0, slots := 0, locals := 0 }) (va_Pc [.ref p0, .int 0, .long a2] (q_pre (dC, dI) (zW_t_isNamed0 p0 f_p0 p0_count c_p0_count b_p0_count p0_names c_p0_names b_p0_names p0_names_0 c_p0_names_0 b_p0_names_0 p0_names_1 c_p0_names_1 b_p0_names_1 p0_names_2 c_p0_names_2 b_p0_names_2 p0_names_3 c_p0_names_3 b_p0_names_3 p0_names_4 c_p0_names_4 b_p0_names_4) (zT_t_isNamed0 c_p0_count c_p0_names c_p0_names_0 c_p0_names_1 c_p0_names_2 c_p0_names_3 c_p0_names_4) q_E0 sz)) (q_Qi (dC, dI) (zG_t_isNamed0 p0 f_p0 p0_count c_p0_count b_p0_count p0_names c_p0_names b_p0_names p0_names_0 c_p0_names_0 b_p0_names_0 p0_names_1 c_p0_names_1 b_p0_names_1 p0_names_2 c_p0_names_2 b_p0_names_2 p0_names_3 c_p0_names_3 b_p0_names_3 p0_names_4 c_p0_names_4 b_p0_names_4 a2) (zA_t_isNamed0 p0 p0_count p0_names p0_names_0 p0_names_1 p0_names_2 p0_names_3 p0_names_4) (va_A (zW_t_isNamed0 p0 f_p0 p0_count c_p0_count b_p0_count p0_names c_p0_names b_p0_names p0_names_0 c_p0_names_0 b_p0_names_0 p0_names_1 c_p0_names_1 b_p0_names_1 p0_names_2 c_p0_names_2 b_p0_names_2 p0_names_3 c_p0_names_3 b_p0_names_3 p0_names_4 c_p0_names_4 b_p0_names_4) sz)) 0 0 (va_A (zW_t_isNamed0 p0 f_p0 p0_count c_p0_count b_p0_count p0_names c_p0_names b_p0_names p0_names_0 c_p0_names_0 b_p0_names_0 p0_names_1 c_p0_names_1 b_p0_names_1 p0_names_2 c_p0_names_2 b_p0_names_2 p0_names_3 c_p0_names_3 b_p0_names_3 p0_names_4 c_p0_names_4 b_p0_names_4) sz) := by
  refine Met.ofW (cc := cX5_isNamed) (maxL := 5) (ret := (some .boolean)) (by decide) rfl ?_
  intro p e s m args below meth c s₁ B hml hv
  obtain ⟨rfl, hsz, hP, hK, hD0, hE⟩ := hv
  have hx := B.exec
  have hb := B.bytes
  have hr := B.returns
  have hts := atoms_spec (ws := zw_t_isNamed0) B.pre
  have hown : s.vm.findClass RX5 = some m.cls := findClass_of_methodNamed B.named
  have hlocks := B.notSynchronized
  subst hsz
  have hD := hD0.self (sz := s.heap.size)
  generalize hAe : va_A (zW_t_isNamed0 p0 f_p0 p0_count c_p0_count b_p0_count p0_names c_p0_names b_p0_names p0_names_0 c_p0_names_0 b_p0_names_0 p0_names_1 c_p0_names_1 b_p0_names_1 p0_names_2 c_p0_names_2 b_p0_names_2 p0_names_3 c_p0_names_3 b_p0_names_3 p0_names_4 c_p0_names_4 b_p0_names_4) s.heap.size = A at hD hE ⊢
  have hA : ∀ q : Nat, s.heap.size ≤ q → A q := fun q h => by rw [← hAe]; exact Or.inr h
  have hDa : q_DA A (zA_t_isNamed0 p0 p0_count p0_names p0_names_0 p0_names_1 p0_names_2 p0_names_3 p0_names_4) := q_DA.mk hD za_t_isNamed0
  clear hAe hD0 hD
  have hS : va_S A s.heap s.heap [] := va_S.rf
  have m_0 : (.fieldLink RX5 9 "BowWalk$Shop" "count" "[I" : Cond) ∈ zw_t_isNamed0 := List.mem_append_left _ (List.mem_of_getElem? (i := 1) rfl)
  have k_0 := hts _ m_0
  have m_1 : (.fieldLink RX5 15 "BowWalk$Shop" "names" "[[J" : Cond) ∈ zw_t_isNamed0 := List.mem_append_left _ (List.mem_of_getElem? (i := 2) rfl)
  have k_1 := hts _ m_1
  have i_X5 : ∀ w ∈ u_ws RX5 TX5 15, w ∈ zw_t_isNamed0 := fun w h => List.mem_append_right _ (List.mem_append_left _ h)
  have lt_0 : (0 : Int32).toInt = 0 := by decide
  have lt_1 : (1 : Int32).toInt = 1 := by decide
  have hl := lv_entry ([.ref p0, .int 0, .long a2]) (n := 5) (Nat.le_of_ble_eq_true rfl)
  rw [lg_entry_eq]
  generalize (lg_sl ([.ref p0, .int 0, .long a2]) ++ List.replicate (5 - (lg_sl ([.ref p0, .int 0, .long a2])).length) Slot.unset).toArray = ls at hl ⊢
  have hl : lv_has ls 5 [(0, .ref p0), (1, .int 0), (2, .long a2)] := hl
  refine lv_iconst (v := 0) hx hb dX5_isNamed_0 (by decide) (lv_istore (lv' := [(4, .int 0), (0, .ref p0), (1, .int 0), (2, .long a2)]) hx hb dX5_isNamed_1 hl (by decide) rfl (fun ls hl => ?_))
  have key3 : ∀ (fu3 : Nat) (i : Int32) (H : Heap) (locs : List Loc) (ls : Array Slot) (hfu3 : 6 - i.toInt ≤ (fu3 : Int)) (ti : (0) ≤ i.toInt ∧ i.toInt ≤ 6), va_P (dC, dI) vwCl (zW_t_isNamed0 p0 f_p0 p0_count c_p0_count b_p0_count p0_names c_p0_names b_p0_names p0_names_0 c_p0_names_0 b_p0_names_0 p0_names_1 c_p0_names_1 b_p0_names_1 p0_names_2 c_p0_names_2 b_p0_names_2 p0_names_3 c_p0_names_3 b_p0_names_3 p0_names_4 c_p0_names_4 b_p0_names_4) H → va_S A s.heap H locs → lv_has ls 5 [(4, .int i), (0, .ref p0), (1, .int 0), (2, .long a2)] → W p l e (headSpec zw_t_isNamed0 { frames := 0, cells := 0, slots := 0, locals := 0 }).room s m ([.ref p0, .int 0, .long a2] : List Value).toArray below meth c H locs 0 0 (MQ below (q_Qi (dC, dI) (zG_t_isNamed0 p0 f_p0 p0_count c_p0_count b_p0_count p0_names c_p0_names b_p0_names p0_names_0 c_p0_names_0 b_p0_names_0 p0_names_1 c_p0_names_1 b_p0_names_1 p0_names_2 c_p0_names_2 b_p0_names_2 p0_names_3 c_p0_names_3 b_p0_names_3 p0_names_4 c_p0_names_4 b_p0_names_4 a2) (zA_t_isNamed0 p0 p0_count p0_names p0_names_0 p0_names_1 p0_names_2 p0_names_3 p0_names_4) A) ([.ref p0, .int 0, .long a2] : List Value).toArray s 0 0 A) (F0 m 3 ls []) := by
    intro fu3
    induction fu3 using Nat.strongRecOn with
    | ind fu3 ih3 =>
      intro i H1 lo1 ls hfu3 ti hP1 hS1 hl
      refine lv_iload hx hb dX5_isNamed_3 (lv_at hl 0 rfl) (lv_aload_n hx hb dX5_isNamed_5 rfl (lv_at hl 1 rfl) (qg_X5_0 hx hb hts i_X5 hown hK hP1 0 rfl k_0 fr_p0_0 dX5_isNamed_6 (lv_iload_n hx hb dX5_isNamed_9 rfl (lv_at hl 2 rfl) (q_ild hx hb hK hP1 1 0 rfl rfl (p1_in (i := 0) (n := 5) (by decide)) dX5_isNamed_10 (fun v_2 ev_2 => ?_)))))
      have tv_2 : 0 ≤ v_2.toInt ∧ v_2.toInt ≤ 6 := by rw [ev_2]; exact q_cnt_0 hr_p0_count
      refine lv_icmp_ge (tgt := 36) hx hb dX5_isNamed_11 (by decide) (fun c_3 => ?_) (fun c_3 => ?_)
      · have tc_3 := q_ge c_3
        refine lv_iconst (v := 0) hx hb dX5_isNamed_36 (by decide) ?_
        exact q_zret hx hb hr hlocks (by decide) hS1 dX5_isNamed_37 ⟨(Or.inr ⟨rfl, by first | trivial | omega⟩), hP1, za_t_isNamed0⟩
      · have tc_3 := q_ltN c_3
        refine lv_aload_n hx hb dX5_isNamed_14 rfl (lv_at hl 1 rfl) (qg_X5_1 hx hb hts i_X5 hown hK hP1 0 rfl k_1 fr_p0_1 dX5_isNamed_15 (lv_iload_n hx hb dX5_isNamed_18 rfl (lv_at hl 2 rfl) ?_))
        refine q_aldr hx hb hK hP1 2 1 rfl rfl (p1_in (i := 0) (n := 5) (by decide)) dX5_isNamed_19 ?_
        refine W.eq (g2 := F0 m 20 ls [.ref p0_names_0]) (by rw [show b_p0_names (0 : Int32).toNatClampNeg = some p0_names_0 from hn_p0_names_0]; rfl) ?_
        refine lv_iload hx hb dX5_isNamed_20 (lv_at hl 0 rfl) (q_lld hx hb hK hP1 3 2 rfl rfl (q_in (by omega) (by omega)) dX5_isNamed_22 (fun w_4 ew_4 => ?_))
        refine lv_lload_n hx hb dX5_isNamed_23 rfl (lv_at hl 3 rfl) (W.lcmp hx hb dX5_isNamed_24 (lv_topi fun v_5 ev_5 => ?_))
        refine lv_if_ne (tgt := 30) hx hb dX5_isNamed_25 (by decide) (fun c_6 => ?_) (fun c_6 => ?_)
        · have tc_6 := q_ne c_6
          obtain ⟨v_7, ev_7⟩ : ∃ y : Int32, y = i + 1 := ⟨_, rfl⟩
          have tv_7 := q_add ev_7 (by omega) (by omega)
          refine lv_iinc (v := v_7) (lv' := [(4, .int v_7), (0, .ref p0), (1, .int 0), (2, .long a2)]) hx hb dX5_isNamed_30 hl (k := 0) rfl (by rw [ev_7]; rfl) (by decide) rfl (fun ls hl => ?_)
          refine lv_goto (tgt := 3) hx hb dX5_isNamed_33 (by decide) ?_
          exact ih3 (fu3 - 1) (by omega) v_7 _ _ _ (by omega) (by omega) hP1 hS1 (lv_sub hl [0, 1, 2, 3] rfl)
        · have tc_6 := q_eqN c_6
          refine lv_iconst (v := 1) hx hb dX5_isNamed_28 (by decide) ?_
          exact q_zret hx hb hr hlocks (by decide) hS1 dX5_isNamed_29 ⟨(Or.inl ⟨rfl, by first | trivial | omega⟩), hP1, za_t_isNamed0⟩
  exact key3 6 0 _ _ _ (by omega) (by omega) hP hS (lv_sub hl [0, 1, 2, 3] rfl)
def zo_t_isNamed1 : List Cond := [.code yX5_isNamed cX5_isNamed 5 (some .boolean), .fieldLink RX5 9 "BowWalk$Shop" "count" "[I", .fieldLink RX5 15 "BowWalk$Shop" "names" "[[J"]
def zw_t_isNamed1 : List Cond := zo_t_isNamed1 ++ (wsX50 ++ [])
theorem gz_t_isNamed1 : zw_t_isNamed1.all goodWord = true := p1_ga (by decide +kernel) (p1_ga gk_X5 p1_g0)
theorem iz_t_isNamed1 : ∀ w ∈ zw_t_isNamed1, w ∈ lw_tbl := p1_ia (p1_all [620, 174, 177] (by decide +kernel)) (p1_ia ik_X5 p1_i0)
def zW_t_isNamed1 (p0 : Nat) (f_p0 : List Value) (p0_count : Nat) (c_p0_count : ClassId) (b_p0_count : Nat → Int32) (p0_names : Nat) (c_p0_names : ClassId) (b_p0_names : Nat → Option Nat) (p0_names_0 : Nat) (c_p0_names_0 : ClassId) (b_p0_names_0 : Nat → Int64) (p0_names_1 : Nat) (c_p0_names_1 : ClassId) (b_p0_names_1 : Nat → Int64) (p0_names_2 : Nat) (c_p0_names_2 : ClassId) (b_p0_names_2 : Nat → Int64) (p0_names_3 : Nat) (c_p0_names_3 : ClassId) (b_p0_names_3 : Nat → Int64) (p0_names_4 : Nat) (c_p0_names_4 : ClassId) (b_p0_names_4 : Nat → Int64) : va_W := [(p0, .inr (5, f_p0)), (p0_count, .inl (c_p0_count, 5, .inl b_p0_count)), (p0_names, .inl (c_p0_names, 5, .inr (.inr (.inr (.inr b_p0_names))))), (p0_names_0, .inl (c_p0_names_0, 6, .inr (.inl b_p0_names_0))), (p0_names_1, .inl (c_p0_names_1, 6, .inr (.inl b_p0_names_1))), (p0_names_2, .inl (c_p0_names_2, 6, .inr (.inl b_p0_names_2))), (p0_names_3, .inl (c_p0_names_3, 6, .inr (.inl b_p0_names_3))), (p0_names_4, .inl (c_p0_names_4, 6, .inr (.inl b_p0_names_4)))]
def zT_t_isNamed1 (c_p0_count : ClassId) (c_p0_names : ClassId) (c_p0_names_0 : ClassId) (c_p0_names_1 : ClassId) (c_p0_names_2 : ClassId) (c_p0_names_3 : ClassId) (c_p0_names_4 : ClassId) : List (ClassId × FieldType) := [(c_p0_count, .int), (c_p0_names, .array .long), (c_p0_names_0, .long), (c_p0_names_1, .long), (c_p0_names_2, .long), (c_p0_names_3, .long), (c_p0_names_4, .long)]
def zA_t_isNamed1 (p0 : Nat) (p0_count : Nat) (p0_names : Nat) (p0_names_0 : Nat) (p0_names_1 : Nat) (p0_names_2 : Nat) (p0_names_3 : Nat) (p0_names_4 : Nat) : List Nat := [p0, p0_count, p0_names, p0_names_0, p0_names_1, p0_names_2, p0_names_3, p0_names_4]
theorem za_t_isNamed1 {p0 : Nat} {f_p0 : List Value} {p0_count : Nat} {c_p0_count : ClassId} {b_p0_count : Nat → Int32} {p0_names : Nat} {c_p0_names : ClassId} {b_p0_names : Nat → Option Nat} {p0_names_0 : Nat} {c_p0_names_0 : ClassId} {b_p0_names_0 : Nat → Int64} {p0_names_1 : Nat} {c_p0_names_1 : ClassId} {b_p0_names_1 : Nat → Int64} {p0_names_2 : Nat} {c_p0_names_2 : ClassId} {b_p0_names_2 : Nat → Int64} {p0_names_3 : Nat} {c_p0_names_3 : ClassId} {b_p0_names_3 : Nat → Int64} {p0_names_4 : Nat} {c_p0_names_4 : ClassId} {b_p0_names_4 : Nat → Int64} : (zW_t_isNamed1 p0 f_p0 p0_count c_p0_count b_p0_count p0_names c_p0_names b_p0_names p0_names_0 c_p0_names_0 b_p0_names_0 p0_names_1 c_p0_names_1 b_p0_names_1 p0_names_2 c_p0_names_2 b_p0_names_2 p0_names_3 c_p0_names_3 b_p0_names_3 p0_names_4 c_p0_names_4 b_p0_names_4).map Prod.fst = (zA_t_isNamed1 p0 p0_count p0_names p0_names_0 p0_names_1 p0_names_2 p0_names_3 p0_names_4) := rfl
def zG_t_isNamed1 (p0 : Nat) (f_p0 : List Value) (p0_count : Nat) (c_p0_count : ClassId) (b_p0_count : Nat → Int32) (p0_names : Nat) (c_p0_names : ClassId) (b_p0_names : Nat → Option Nat) (p0_names_0 : Nat) (c_p0_names_0 : ClassId) (b_p0_names_0 : Nat → Int64) (p0_names_1 : Nat) (c_p0_names_1 : ClassId) (b_p0_names_1 : Nat → Int64) (p0_names_2 : Nat) (c_p0_names_2 : ClassId) (b_p0_names_2 : Nat → Int64) (p0_names_3 : Nat) (c_p0_names_3 : ClassId) (b_p0_names_3 : Nat → Int64) (p0_names_4 : Nat) (c_p0_names_4 : ClassId) (b_p0_names_4 : Nat → Int64) (a2 : Int64) (r : Int32) (X : va_W → Prop) : Prop := ((r = 1 ∧ (True)) ∨ (r = 0 ∧ (True))) ∧ X (zW_t_isNamed1 p0 f_p0 p0_count c_p0_count b_p0_count p0_names c_p0_names b_p0_names p0_names_0 c_p0_names_0 b_p0_names_0 p0_names_1 c_p0_names_1 b_p0_names_1 p0_names_2 c_p0_names_2 b_p0_names_2 p0_names_3 c_p0_names_3 b_p0_names_3 p0_names_4 c_p0_names_4 b_p0_names_4)
theorem zm_t_isNamed1 {p0 : Nat} {f_p0 : List Value} {p0_count : Nat} {c_p0_count : ClassId} {b_p0_count : Nat → Int32} {p0_names : Nat} {c_p0_names : ClassId} {b_p0_names : Nat → Option Nat} {p0_names_0 : Nat} {c_p0_names_0 : ClassId} {b_p0_names_0 : Nat → Int64} {p0_names_1 : Nat} {c_p0_names_1 : ClassId} {b_p0_names_1 : Nat → Int64} {p0_names_2 : Nat} {c_p0_names_2 : ClassId} {b_p0_names_2 : Nat → Int64} {p0_names_3 : Nat} {c_p0_names_3 : ClassId} {b_p0_names_3 : Nat → Int64} {p0_names_4 : Nat} {c_p0_names_4 : ClassId} {b_p0_names_4 : Nat → Int64} {a2 : Int64} : ∀ (r : Int32), ∀ X Y : va_W → Prop, (∀ w, X w → Y w) → zG_t_isNamed1 p0 f_p0 p0_count c_p0_count b_p0_count p0_names c_p0_names b_p0_names p0_names_0 c_p0_names_0 b_p0_names_0 p0_names_1 c_p0_names_1 b_p0_names_1 p0_names_2 c_p0_names_2 b_p0_names_2 p0_names_3 c_p0_names_3 b_p0_names_3 p0_names_4 c_p0_names_4 b_p0_names_4 a2 r X → zG_t_isNamed1 p0 f_p0 p0_count c_p0_count b_p0_count p0_names c_p0_names b_p0_names p0_names_0 c_p0_names_0 b_p0_names_0 p0_names_1 c_p0_names_1 b_p0_names_1 p0_names_2 c_p0_names_2 b_p0_names_2 p0_names_3 c_p0_names_3 b_p0_names_3 p0_names_4 c_p0_names_4 b_p0_names_4 a2 r Y := fun r X Y h h1 => by obtain ⟨x0, hx⟩ := h1; exact ⟨x0, h _ hx⟩
set_option maxHeartbeats 4000000 in
set_option maxRecDepth 100000 in
theorem t_isNamed1 (l : Launch) (dC : Nat → ClassId) (dI : Nat → Nat → Nat) (sz : Nat) (p0 : Nat) (f_p0 : List Value) (p0_count : Nat) (c_p0_count : ClassId) (b_p0_count : Nat → Int32) (p0_names : Nat) (c_p0_names : ClassId) (b_p0_names : Nat → Option Nat) (p0_names_0 : Nat) (c_p0_names_0 : ClassId) (b_p0_names_0 : Nat → Int64) (p0_names_1 : Nat) (c_p0_names_1 : ClassId) (b_p0_names_1 : Nat → Int64) (p0_names_2 : Nat) (c_p0_names_2 : ClassId) (b_p0_names_2 : Nat → Int64) (p0_names_3 : Nat) (c_p0_names_3 : ClassId) (b_p0_names_3 : Nat → Int64) (p0_names_4 : Nat) (c_p0_names_4 : ClassId) (b_p0_names_4 : Nat → Int64) (a2 : Int64) (ho_p0 : OKX5 f_p0) (fr_p0_0 : q_rf f_p0 0 p0_count) (fr_p0_1 : q_rf f_p0 1 p0_names) (hr_p0_count : q_cnt b_p0_count) (hn_p0_names_0 : b_p0_names 0 = some p0_names_0) (hn_p0_names_1 : b_p0_names 1 = some p0_names_1) (hn_p0_names_2 : b_p0_names 2 = some p0_names_2) (hn_p0_names_3 : b_p0_names 3 = some p0_names_3) (hn_p0_names_4 : b_p0_names 4 = some p0_names_4) : Met l yX5_isNamed zw_t_isNamed1 ({ frames := 0, cells := 0, slots := 0, locals := 0 }) (va_Pc [.ref p0, .int 1, .long a2] (q_pre (dC, dI) (zW_t_isNamed1 p0 f_p0 p0_count c_p0_count b_p0_count p0_names c_p0_names b_p0_names p0_names_0 c_p0_names_0 b_p0_names_0 p0_names_1 c_p0_names_1 b_p0_names_1 p0_names_2 c_p0_names_2 b_p0_names_2 p0_names_3 c_p0_names_3 b_p0_names_3 p0_names_4 c_p0_names_4 b_p0_names_4) (zT_t_isNamed1 c_p0_count c_p0_names c_p0_names_0 c_p0_names_1 c_p0_names_2 c_p0_names_3 c_p0_names_4) q_E0 sz)) (q_Qi (dC, dI) (zG_t_isNamed1 p0 f_p0 p0_count c_p0_count b_p0_count p0_names c_p0_names b_p0_names p0_names_0 c_p0_names_0 b_p0_names_0 p0_names_1 c_p0_names_1 b_p0_names_1 p0_names_2 c_p0_names_2 b_p0_names_2 p0_names_3 c_p0_names_3 b_p0_names_3 p0_names_4 c_p0_names_4 b_p0_names_4 a2) (zA_t_isNamed1 p0 p0_count p0_names p0_names_0 p0_names_1 p0_names_2 p0_names_3 p0_names_4) (va_A (zW_t_isNamed1 p0 f_p0 p0_count c_p0_count b_p0_count p0_names c_p0_names b_p0_names p0_names_0 c_p0_names_0 b_p0_names_0 p0_names_1 c_p0_names_1 b_p0_names_1 p0_names_2 c_p0_names_2 b_p0_names_2 p0_names_3 c_p0_names_3 b_p0_names_3 p0_names_4 c_p0_names_4 b_p0_names_4) sz)) 0 0 (va_A (zW_t_isNamed1 p0 f_p0 p0_count c_p0_count b_p0_count p0_names c_p0_names b_p0_names p0_names_0 c_p0_names_0 b_p0_names_0 p0_names_1 c_p0_names_1 b_p0_names_1 p0_names_2 c_p0_names_2 b_p0_names_2 p0_names_3 c_p0_names_3 b_p0_names_3 p0_names_4 c_p0_names_4 b_p0_names_4) sz) := by
  refine Met.ofW (cc := cX5_isNamed) (maxL := 5) (ret := (some .boolean)) (by decide) rfl ?_
  intro p e s m args below meth c s₁ B hml hv
  obtain ⟨rfl, hsz, hP, hK, hD0, hE⟩ := hv
  have hx := B.exec
  have hb := B.bytes
  have hr := B.returns
  have hts := atoms_spec (ws := zw_t_isNamed1) B.pre
  have hown : s.vm.findClass RX5 = some m.cls := findClass_of_methodNamed B.named
  have hlocks := B.notSynchronized
  subst hsz
  have hD := hD0.self (sz := s.heap.size)
  generalize hAe : va_A (zW_t_isNamed1 p0 f_p0 p0_count c_p0_count b_p0_count p0_names c_p0_names b_p0_names p0_names_0 c_p0_names_0 b_p0_names_0 p0_names_1 c_p0_names_1 b_p0_names_1 p0_names_2 c_p0_names_2 b_p0_names_2 p0_names_3 c_p0_names_3 b_p0_names_3 p0_names_4 c_p0_names_4 b_p0_names_4) s.heap.size = A at hD hE ⊢
  have hA : ∀ q : Nat, s.heap.size ≤ q → A q := fun q h => by rw [← hAe]; exact Or.inr h
  have hDa : q_DA A (zA_t_isNamed1 p0 p0_count p0_names p0_names_0 p0_names_1 p0_names_2 p0_names_3 p0_names_4) := q_DA.mk hD za_t_isNamed1
  clear hAe hD0 hD
  have hS : va_S A s.heap s.heap [] := va_S.rf
  have m_0 : (.fieldLink RX5 9 "BowWalk$Shop" "count" "[I" : Cond) ∈ zw_t_isNamed1 := List.mem_append_left _ (List.mem_of_getElem? (i := 1) rfl)
  have k_0 := hts _ m_0
  have m_1 : (.fieldLink RX5 15 "BowWalk$Shop" "names" "[[J" : Cond) ∈ zw_t_isNamed1 := List.mem_append_left _ (List.mem_of_getElem? (i := 2) rfl)
  have k_1 := hts _ m_1
  have i_X5 : ∀ w ∈ u_ws RX5 TX5 15, w ∈ zw_t_isNamed1 := fun w h => List.mem_append_right _ (List.mem_append_left _ h)
  have lt_0 : (0 : Int32).toInt = 0 := by decide
  have lt_1 : (1 : Int32).toInt = 1 := by decide
  have hl := lv_entry ([.ref p0, .int 1, .long a2]) (n := 5) (Nat.le_of_ble_eq_true rfl)
  rw [lg_entry_eq]
  generalize (lg_sl ([.ref p0, .int 1, .long a2]) ++ List.replicate (5 - (lg_sl ([.ref p0, .int 1, .long a2])).length) Slot.unset).toArray = ls at hl ⊢
  have hl : lv_has ls 5 [(0, .ref p0), (1, .int 1), (2, .long a2)] := hl
  refine lv_iconst (v := 0) hx hb dX5_isNamed_0 (by decide) (lv_istore (lv' := [(4, .int 0), (0, .ref p0), (1, .int 1), (2, .long a2)]) hx hb dX5_isNamed_1 hl (by decide) rfl (fun ls hl => ?_))
  have key3 : ∀ (fu3 : Nat) (i : Int32) (H : Heap) (locs : List Loc) (ls : Array Slot) (hfu3 : 4 - i.toInt ≤ (fu3 : Int)) (ti : (0) ≤ i.toInt ∧ i.toInt ≤ 4), va_P (dC, dI) vwCl (zW_t_isNamed1 p0 f_p0 p0_count c_p0_count b_p0_count p0_names c_p0_names b_p0_names p0_names_0 c_p0_names_0 b_p0_names_0 p0_names_1 c_p0_names_1 b_p0_names_1 p0_names_2 c_p0_names_2 b_p0_names_2 p0_names_3 c_p0_names_3 b_p0_names_3 p0_names_4 c_p0_names_4 b_p0_names_4) H → va_S A s.heap H locs → lv_has ls 5 [(4, .int i), (0, .ref p0), (1, .int 1), (2, .long a2)] → W p l e (headSpec zw_t_isNamed1 { frames := 0, cells := 0, slots := 0, locals := 0 }).room s m ([.ref p0, .int 1, .long a2] : List Value).toArray below meth c H locs 0 0 (MQ below (q_Qi (dC, dI) (zG_t_isNamed1 p0 f_p0 p0_count c_p0_count b_p0_count p0_names c_p0_names b_p0_names p0_names_0 c_p0_names_0 b_p0_names_0 p0_names_1 c_p0_names_1 b_p0_names_1 p0_names_2 c_p0_names_2 b_p0_names_2 p0_names_3 c_p0_names_3 b_p0_names_3 p0_names_4 c_p0_names_4 b_p0_names_4 a2) (zA_t_isNamed1 p0 p0_count p0_names p0_names_0 p0_names_1 p0_names_2 p0_names_3 p0_names_4) A) ([.ref p0, .int 1, .long a2] : List Value).toArray s 0 0 A) (F0 m 3 ls []) := by
    intro fu3
    induction fu3 using Nat.strongRecOn with
    | ind fu3 ih3 =>
      intro i H1 lo1 ls hfu3 ti hP1 hS1 hl
      refine lv_iload hx hb dX5_isNamed_3 (lv_at hl 0 rfl) (lv_aload_n hx hb dX5_isNamed_5 rfl (lv_at hl 1 rfl) (qg_X5_0 hx hb hts i_X5 hown hK hP1 0 rfl k_0 fr_p0_0 dX5_isNamed_6 (lv_iload_n hx hb dX5_isNamed_9 rfl (lv_at hl 2 rfl) (q_ild hx hb hK hP1 1 0 rfl rfl (p1_in (i := 1) (n := 5) (by decide)) dX5_isNamed_10 (fun v_2 ev_2 => ?_)))))
      have tv_2 : 0 ≤ v_2.toInt ∧ v_2.toInt ≤ 4 := by rw [ev_2]; exact q_cnt_1 hr_p0_count
      refine lv_icmp_ge (tgt := 36) hx hb dX5_isNamed_11 (by decide) (fun c_3 => ?_) (fun c_3 => ?_)
      · have tc_3 := q_ge c_3
        refine lv_iconst (v := 0) hx hb dX5_isNamed_36 (by decide) ?_
        exact q_zret hx hb hr hlocks (by decide) hS1 dX5_isNamed_37 ⟨(Or.inr ⟨rfl, by first | trivial | omega⟩), hP1, za_t_isNamed1⟩
      · have tc_3 := q_ltN c_3
        refine lv_aload_n hx hb dX5_isNamed_14 rfl (lv_at hl 1 rfl) (qg_X5_1 hx hb hts i_X5 hown hK hP1 0 rfl k_1 fr_p0_1 dX5_isNamed_15 (lv_iload_n hx hb dX5_isNamed_18 rfl (lv_at hl 2 rfl) ?_))
        refine q_aldr hx hb hK hP1 2 1 rfl rfl (p1_in (i := 1) (n := 5) (by decide)) dX5_isNamed_19 ?_
        refine W.eq (g2 := F0 m 20 ls [.ref p0_names_1]) (by rw [show b_p0_names (1 : Int32).toNatClampNeg = some p0_names_1 from hn_p0_names_1]; rfl) ?_
        refine lv_iload hx hb dX5_isNamed_20 (lv_at hl 0 rfl) (q_lld hx hb hK hP1 4 3 rfl rfl (q_in (by omega) (by omega)) dX5_isNamed_22 (fun w_4 ew_4 => ?_))
        refine lv_lload_n hx hb dX5_isNamed_23 rfl (lv_at hl 3 rfl) (W.lcmp hx hb dX5_isNamed_24 (lv_topi fun v_5 ev_5 => ?_))
        refine lv_if_ne (tgt := 30) hx hb dX5_isNamed_25 (by decide) (fun c_6 => ?_) (fun c_6 => ?_)
        · have tc_6 := q_ne c_6
          obtain ⟨v_7, ev_7⟩ : ∃ y : Int32, y = i + 1 := ⟨_, rfl⟩
          have tv_7 := q_add ev_7 (by omega) (by omega)
          refine lv_iinc (v := v_7) (lv' := [(4, .int v_7), (0, .ref p0), (1, .int 1), (2, .long a2)]) hx hb dX5_isNamed_30 hl (k := 0) rfl (by rw [ev_7]; rfl) (by decide) rfl (fun ls hl => ?_)
          refine lv_goto (tgt := 3) hx hb dX5_isNamed_33 (by decide) ?_
          exact ih3 (fu3 - 1) (by omega) v_7 _ _ _ (by omega) (by omega) hP1 hS1 (lv_sub hl [0, 1, 2, 3] rfl)
        · have tc_6 := q_eqN c_6
          refine lv_iconst (v := 1) hx hb dX5_isNamed_28 (by decide) ?_
          exact q_zret hx hb hr hlocks (by decide) hS1 dX5_isNamed_29 ⟨(Or.inl ⟨rfl, by first | trivial | omega⟩), hP1, za_t_isNamed1⟩
  exact key3 4 0 _ _ _ (by omega) (by omega) hP hS (lv_sub hl [0, 1, 2, 3] rfl)
def zo_t_isNamed2 : List Cond := [.code yX5_isNamed cX5_isNamed 5 (some .boolean), .fieldLink RX5 9 "BowWalk$Shop" "count" "[I", .fieldLink RX5 15 "BowWalk$Shop" "names" "[[J"]
def zw_t_isNamed2 : List Cond := zo_t_isNamed2 ++ (wsX50 ++ [])
theorem gz_t_isNamed2 : zw_t_isNamed2.all goodWord = true := p1_ga (by decide +kernel) (p1_ga gk_X5 p1_g0)
theorem iz_t_isNamed2 : ∀ w ∈ zw_t_isNamed2, w ∈ lw_tbl := p1_ia (p1_all [620, 174, 177] (by decide +kernel)) (p1_ia ik_X5 p1_i0)
def zW_t_isNamed2 (p0 : Nat) (f_p0 : List Value) (p0_count : Nat) (c_p0_count : ClassId) (b_p0_count : Nat → Int32) (p0_names : Nat) (c_p0_names : ClassId) (b_p0_names : Nat → Option Nat) (p0_names_0 : Nat) (c_p0_names_0 : ClassId) (b_p0_names_0 : Nat → Int64) (p0_names_1 : Nat) (c_p0_names_1 : ClassId) (b_p0_names_1 : Nat → Int64) (p0_names_2 : Nat) (c_p0_names_2 : ClassId) (b_p0_names_2 : Nat → Int64) (p0_names_3 : Nat) (c_p0_names_3 : ClassId) (b_p0_names_3 : Nat → Int64) (p0_names_4 : Nat) (c_p0_names_4 : ClassId) (b_p0_names_4 : Nat → Int64) : va_W := [(p0, .inr (5, f_p0)), (p0_count, .inl (c_p0_count, 5, .inl b_p0_count)), (p0_names, .inl (c_p0_names, 5, .inr (.inr (.inr (.inr b_p0_names))))), (p0_names_0, .inl (c_p0_names_0, 6, .inr (.inl b_p0_names_0))), (p0_names_1, .inl (c_p0_names_1, 6, .inr (.inl b_p0_names_1))), (p0_names_2, .inl (c_p0_names_2, 6, .inr (.inl b_p0_names_2))), (p0_names_3, .inl (c_p0_names_3, 6, .inr (.inl b_p0_names_3))), (p0_names_4, .inl (c_p0_names_4, 6, .inr (.inl b_p0_names_4)))]
def zT_t_isNamed2 (c_p0_count : ClassId) (c_p0_names : ClassId) (c_p0_names_0 : ClassId) (c_p0_names_1 : ClassId) (c_p0_names_2 : ClassId) (c_p0_names_3 : ClassId) (c_p0_names_4 : ClassId) : List (ClassId × FieldType) := [(c_p0_count, .int), (c_p0_names, .array .long), (c_p0_names_0, .long), (c_p0_names_1, .long), (c_p0_names_2, .long), (c_p0_names_3, .long), (c_p0_names_4, .long)]
def zA_t_isNamed2 (p0 : Nat) (p0_count : Nat) (p0_names : Nat) (p0_names_0 : Nat) (p0_names_1 : Nat) (p0_names_2 : Nat) (p0_names_3 : Nat) (p0_names_4 : Nat) : List Nat := [p0, p0_count, p0_names, p0_names_0, p0_names_1, p0_names_2, p0_names_3, p0_names_4]
theorem za_t_isNamed2 {p0 : Nat} {f_p0 : List Value} {p0_count : Nat} {c_p0_count : ClassId} {b_p0_count : Nat → Int32} {p0_names : Nat} {c_p0_names : ClassId} {b_p0_names : Nat → Option Nat} {p0_names_0 : Nat} {c_p0_names_0 : ClassId} {b_p0_names_0 : Nat → Int64} {p0_names_1 : Nat} {c_p0_names_1 : ClassId} {b_p0_names_1 : Nat → Int64} {p0_names_2 : Nat} {c_p0_names_2 : ClassId} {b_p0_names_2 : Nat → Int64} {p0_names_3 : Nat} {c_p0_names_3 : ClassId} {b_p0_names_3 : Nat → Int64} {p0_names_4 : Nat} {c_p0_names_4 : ClassId} {b_p0_names_4 : Nat → Int64} : (zW_t_isNamed2 p0 f_p0 p0_count c_p0_count b_p0_count p0_names c_p0_names b_p0_names p0_names_0 c_p0_names_0 b_p0_names_0 p0_names_1 c_p0_names_1 b_p0_names_1 p0_names_2 c_p0_names_2 b_p0_names_2 p0_names_3 c_p0_names_3 b_p0_names_3 p0_names_4 c_p0_names_4 b_p0_names_4).map Prod.fst = (zA_t_isNamed2 p0 p0_count p0_names p0_names_0 p0_names_1 p0_names_2 p0_names_3 p0_names_4) := rfl
def zG_t_isNamed2 (p0 : Nat) (f_p0 : List Value) (p0_count : Nat) (c_p0_count : ClassId) (b_p0_count : Nat → Int32) (p0_names : Nat) (c_p0_names : ClassId) (b_p0_names : Nat → Option Nat) (p0_names_0 : Nat) (c_p0_names_0 : ClassId) (b_p0_names_0 : Nat → Int64) (p0_names_1 : Nat) (c_p0_names_1 : ClassId) (b_p0_names_1 : Nat → Int64) (p0_names_2 : Nat) (c_p0_names_2 : ClassId) (b_p0_names_2 : Nat → Int64) (p0_names_3 : Nat) (c_p0_names_3 : ClassId) (b_p0_names_3 : Nat → Int64) (p0_names_4 : Nat) (c_p0_names_4 : ClassId) (b_p0_names_4 : Nat → Int64) (a2 : Int64) (r : Int32) (X : va_W → Prop) : Prop := ((r = 1 ∧ (True)) ∨ (r = 0 ∧ (True))) ∧ X (zW_t_isNamed2 p0 f_p0 p0_count c_p0_count b_p0_count p0_names c_p0_names b_p0_names p0_names_0 c_p0_names_0 b_p0_names_0 p0_names_1 c_p0_names_1 b_p0_names_1 p0_names_2 c_p0_names_2 b_p0_names_2 p0_names_3 c_p0_names_3 b_p0_names_3 p0_names_4 c_p0_names_4 b_p0_names_4)
theorem zm_t_isNamed2 {p0 : Nat} {f_p0 : List Value} {p0_count : Nat} {c_p0_count : ClassId} {b_p0_count : Nat → Int32} {p0_names : Nat} {c_p0_names : ClassId} {b_p0_names : Nat → Option Nat} {p0_names_0 : Nat} {c_p0_names_0 : ClassId} {b_p0_names_0 : Nat → Int64} {p0_names_1 : Nat} {c_p0_names_1 : ClassId} {b_p0_names_1 : Nat → Int64} {p0_names_2 : Nat} {c_p0_names_2 : ClassId} {b_p0_names_2 : Nat → Int64} {p0_names_3 : Nat} {c_p0_names_3 : ClassId} {b_p0_names_3 : Nat → Int64} {p0_names_4 : Nat} {c_p0_names_4 : ClassId} {b_p0_names_4 : Nat → Int64} {a2 : Int64} : ∀ (r : Int32), ∀ X Y : va_W → Prop, (∀ w, X w → Y w) → zG_t_isNamed2 p0 f_p0 p0_count c_p0_count b_p0_count p0_names c_p0_names b_p0_names p0_names_0 c_p0_names_0 b_p0_names_0 p0_names_1 c_p0_names_1 b_p0_names_1 p0_names_2 c_p0_names_2 b_p0_names_2 p0_names_3 c_p0_names_3 b_p0_names_3 p0_names_4 c_p0_names_4 b_p0_names_4 a2 r X → zG_t_isNamed2 p0 f_p0 p0_count c_p0_count b_p0_count p0_names c_p0_names b_p0_names p0_names_0 c_p0_names_0 b_p0_names_0 p0_names_1 c_p0_names_1 b_p0_names_1 p0_names_2 c_p0_names_2 b_p0_names_2 p0_names_3 c_p0_names_3 b_p0_names_3 p0_names_4 c_p0_names_4 b_p0_names_4 a2 r Y := fun r X Y h h1 => by obtain ⟨x0, hx⟩ := h1; exact ⟨x0, h _ hx⟩
set_option maxHeartbeats 4000000 in
set_option maxRecDepth 100000 in
theorem t_isNamed2 (l : Launch) (dC : Nat → ClassId) (dI : Nat → Nat → Nat) (sz : Nat) (p0 : Nat) (f_p0 : List Value) (p0_count : Nat) (c_p0_count : ClassId) (b_p0_count : Nat → Int32) (p0_names : Nat) (c_p0_names : ClassId) (b_p0_names : Nat → Option Nat) (p0_names_0 : Nat) (c_p0_names_0 : ClassId) (b_p0_names_0 : Nat → Int64) (p0_names_1 : Nat) (c_p0_names_1 : ClassId) (b_p0_names_1 : Nat → Int64) (p0_names_2 : Nat) (c_p0_names_2 : ClassId) (b_p0_names_2 : Nat → Int64) (p0_names_3 : Nat) (c_p0_names_3 : ClassId) (b_p0_names_3 : Nat → Int64) (p0_names_4 : Nat) (c_p0_names_4 : ClassId) (b_p0_names_4 : Nat → Int64) (a2 : Int64) (ho_p0 : OKX5 f_p0) (fr_p0_0 : q_rf f_p0 0 p0_count) (fr_p0_1 : q_rf f_p0 1 p0_names) (hr_p0_count : q_cnt b_p0_count) (hn_p0_names_0 : b_p0_names 0 = some p0_names_0) (hn_p0_names_1 : b_p0_names 1 = some p0_names_1) (hn_p0_names_2 : b_p0_names 2 = some p0_names_2) (hn_p0_names_3 : b_p0_names 3 = some p0_names_3) (hn_p0_names_4 : b_p0_names 4 = some p0_names_4) : Met l yX5_isNamed zw_t_isNamed2 ({ frames := 0, cells := 0, slots := 0, locals := 0 }) (va_Pc [.ref p0, .int 2, .long a2] (q_pre (dC, dI) (zW_t_isNamed2 p0 f_p0 p0_count c_p0_count b_p0_count p0_names c_p0_names b_p0_names p0_names_0 c_p0_names_0 b_p0_names_0 p0_names_1 c_p0_names_1 b_p0_names_1 p0_names_2 c_p0_names_2 b_p0_names_2 p0_names_3 c_p0_names_3 b_p0_names_3 p0_names_4 c_p0_names_4 b_p0_names_4) (zT_t_isNamed2 c_p0_count c_p0_names c_p0_names_0 c_p0_names_1 c_p0_names_2 c_p0_names_3 c_p0_names_4) q_E0 sz)) (q_Qi (dC, dI) (zG_t_isNamed2 p0 f_p0 p0_count c_p0_count b_p0_count p0_names c_p0_names b_p0_names p0_names_0 c_p0_names_0 b_p0_names_0 p0_names_1 c_p0_names_1 b_p0_names_1 p0_names_2 c_p0_names_2 b_p0_names_2 p0_names_3 c_p0_names_3 b_p0_names_3 p0_names_4 c_p0_names_4 b_p0_names_4 a2) (zA_t_isNamed2 p0 p0_count p0_names p0_names_0 p0_names_1 p0_names_2 p0_names_3 p0_names_4) (va_A (zW_t_isNamed2 p0 f_p0 p0_count c_p0_count b_p0_count p0_names c_p0_names b_p0_names p0_names_0 c_p0_names_0 b_p0_names_0 p0_names_1 c_p0_names_1 b_p0_names_1 p0_names_2 c_p0_names_2 b_p0_names_2 p0_names_3 c_p0_names_3 b_p0_names_3 p0_names_4 c_p0_names_4 b_p0_names_4) sz)) 0 0 (va_A (zW_t_isNamed2 p0 f_p0 p0_count c_p0_count b_p0_count p0_names c_p0_names b_p0_names p0_names_0 c_p0_names_0 b_p0_names_0 p0_names_1 c_p0_names_1 b_p0_names_1 p0_names_2 c_p0_names_2 b_p0_names_2 p0_names_3 c_p0_names_3 b_p0_names_3 p0_names_4 c_p0_names_4 b_p0_names_4) sz) := by
  refine Met.ofW (cc := cX5_isNamed) (maxL := 5) (ret := (some .boolean)) (by decide) rfl ?_
  intro p e s m args below meth c s₁ B hml hv
  obtain ⟨rfl, hsz, hP, hK, hD0, hE⟩ := hv
  have hx := B.exec
  have hb := B.bytes
  have hr := B.returns
  have hts := atoms_spec (ws := zw_t_isNamed2) B.pre
  have hown : s.vm.findClass RX5 = some m.cls := findClass_of_methodNamed B.named
  have hlocks := B.notSynchronized
  subst hsz
  have hD := hD0.self (sz := s.heap.size)
  generalize hAe : va_A (zW_t_isNamed2 p0 f_p0 p0_count c_p0_count b_p0_count p0_names c_p0_names b_p0_names p0_names_0 c_p0_names_0 b_p0_names_0 p0_names_1 c_p0_names_1 b_p0_names_1 p0_names_2 c_p0_names_2 b_p0_names_2 p0_names_3 c_p0_names_3 b_p0_names_3 p0_names_4 c_p0_names_4 b_p0_names_4) s.heap.size = A at hD hE ⊢
  have hA : ∀ q : Nat, s.heap.size ≤ q → A q := fun q h => by rw [← hAe]; exact Or.inr h
  have hDa : q_DA A (zA_t_isNamed2 p0 p0_count p0_names p0_names_0 p0_names_1 p0_names_2 p0_names_3 p0_names_4) := q_DA.mk hD za_t_isNamed2
  clear hAe hD0 hD
  have hS : va_S A s.heap s.heap [] := va_S.rf
  have m_0 : (.fieldLink RX5 9 "BowWalk$Shop" "count" "[I" : Cond) ∈ zw_t_isNamed2 := List.mem_append_left _ (List.mem_of_getElem? (i := 1) rfl)
  have k_0 := hts _ m_0
  have m_1 : (.fieldLink RX5 15 "BowWalk$Shop" "names" "[[J" : Cond) ∈ zw_t_isNamed2 := List.mem_append_left _ (List.mem_of_getElem? (i := 2) rfl)
  have k_1 := hts _ m_1
  have i_X5 : ∀ w ∈ u_ws RX5 TX5 15, w ∈ zw_t_isNamed2 := fun w h => List.mem_append_right _ (List.mem_append_left _ h)
  have lt_0 : (0 : Int32).toInt = 0 := by decide
  have lt_1 : (1 : Int32).toInt = 1 := by decide
  have lt_2 : (2 : Int32).toInt = 2 := by decide
  have hl := lv_entry ([.ref p0, .int 2, .long a2]) (n := 5) (Nat.le_of_ble_eq_true rfl)
  rw [lg_entry_eq]
  generalize (lg_sl ([.ref p0, .int 2, .long a2]) ++ List.replicate (5 - (lg_sl ([.ref p0, .int 2, .long a2])).length) Slot.unset).toArray = ls at hl ⊢
  have hl : lv_has ls 5 [(0, .ref p0), (1, .int 2), (2, .long a2)] := hl
  refine lv_iconst (v := 0) hx hb dX5_isNamed_0 (by decide) (lv_istore (lv' := [(4, .int 0), (0, .ref p0), (1, .int 2), (2, .long a2)]) hx hb dX5_isNamed_1 hl (by decide) rfl (fun ls hl => ?_))
  have key3 : ∀ (fu3 : Nat) (i : Int32) (H : Heap) (locs : List Loc) (ls : Array Slot) (hfu3 : 4 - i.toInt ≤ (fu3 : Int)) (ti : (0) ≤ i.toInt ∧ i.toInt ≤ 4), va_P (dC, dI) vwCl (zW_t_isNamed2 p0 f_p0 p0_count c_p0_count b_p0_count p0_names c_p0_names b_p0_names p0_names_0 c_p0_names_0 b_p0_names_0 p0_names_1 c_p0_names_1 b_p0_names_1 p0_names_2 c_p0_names_2 b_p0_names_2 p0_names_3 c_p0_names_3 b_p0_names_3 p0_names_4 c_p0_names_4 b_p0_names_4) H → va_S A s.heap H locs → lv_has ls 5 [(4, .int i), (0, .ref p0), (1, .int 2), (2, .long a2)] → W p l e (headSpec zw_t_isNamed2 { frames := 0, cells := 0, slots := 0, locals := 0 }).room s m ([.ref p0, .int 2, .long a2] : List Value).toArray below meth c H locs 0 0 (MQ below (q_Qi (dC, dI) (zG_t_isNamed2 p0 f_p0 p0_count c_p0_count b_p0_count p0_names c_p0_names b_p0_names p0_names_0 c_p0_names_0 b_p0_names_0 p0_names_1 c_p0_names_1 b_p0_names_1 p0_names_2 c_p0_names_2 b_p0_names_2 p0_names_3 c_p0_names_3 b_p0_names_3 p0_names_4 c_p0_names_4 b_p0_names_4 a2) (zA_t_isNamed2 p0 p0_count p0_names p0_names_0 p0_names_1 p0_names_2 p0_names_3 p0_names_4) A) ([.ref p0, .int 2, .long a2] : List Value).toArray s 0 0 A) (F0 m 3 ls []) := by
    intro fu3
    induction fu3 using Nat.strongRecOn with
    | ind fu3 ih3 =>
      intro i H1 lo1 ls hfu3 ti hP1 hS1 hl
      refine lv_iload hx hb dX5_isNamed_3 (lv_at hl 0 rfl) (lv_aload_n hx hb dX5_isNamed_5 rfl (lv_at hl 1 rfl) (qg_X5_0 hx hb hts i_X5 hown hK hP1 0 rfl k_0 fr_p0_0 dX5_isNamed_6 (lv_iload_n hx hb dX5_isNamed_9 rfl (lv_at hl 2 rfl) (q_ild hx hb hK hP1 1 0 rfl rfl (p1_in (i := 2) (n := 5) (by decide)) dX5_isNamed_10 (fun v_2 ev_2 => ?_)))))
      have tv_2 : 0 ≤ v_2.toInt ∧ v_2.toInt ≤ 4 := by rw [ev_2]; exact q_cnt_2 hr_p0_count
      refine lv_icmp_ge (tgt := 36) hx hb dX5_isNamed_11 (by decide) (fun c_3 => ?_) (fun c_3 => ?_)
      · have tc_3 := q_ge c_3
        refine lv_iconst (v := 0) hx hb dX5_isNamed_36 (by decide) ?_
        exact q_zret hx hb hr hlocks (by decide) hS1 dX5_isNamed_37 ⟨(Or.inr ⟨rfl, by first | trivial | omega⟩), hP1, za_t_isNamed2⟩
      · have tc_3 := q_ltN c_3
        refine lv_aload_n hx hb dX5_isNamed_14 rfl (lv_at hl 1 rfl) (qg_X5_1 hx hb hts i_X5 hown hK hP1 0 rfl k_1 fr_p0_1 dX5_isNamed_15 (lv_iload_n hx hb dX5_isNamed_18 rfl (lv_at hl 2 rfl) ?_))
        refine q_aldr hx hb hK hP1 2 1 rfl rfl (p1_in (i := 2) (n := 5) (by decide)) dX5_isNamed_19 ?_
        refine W.eq (g2 := F0 m 20 ls [.ref p0_names_2]) (by rw [show b_p0_names (2 : Int32).toNatClampNeg = some p0_names_2 from hn_p0_names_2]; rfl) ?_
        refine lv_iload hx hb dX5_isNamed_20 (lv_at hl 0 rfl) (q_lld hx hb hK hP1 5 4 rfl rfl (q_in (by omega) (by omega)) dX5_isNamed_22 (fun w_4 ew_4 => ?_))
        refine lv_lload_n hx hb dX5_isNamed_23 rfl (lv_at hl 3 rfl) (W.lcmp hx hb dX5_isNamed_24 (lv_topi fun v_5 ev_5 => ?_))
        refine lv_if_ne (tgt := 30) hx hb dX5_isNamed_25 (by decide) (fun c_6 => ?_) (fun c_6 => ?_)
        · have tc_6 := q_ne c_6
          obtain ⟨v_7, ev_7⟩ : ∃ y : Int32, y = i + 1 := ⟨_, rfl⟩
          have tv_7 := q_add ev_7 (by omega) (by omega)
          refine lv_iinc (v := v_7) (lv' := [(4, .int v_7), (0, .ref p0), (1, .int 2), (2, .long a2)]) hx hb dX5_isNamed_30 hl (k := 0) rfl (by rw [ev_7]; rfl) (by decide) rfl (fun ls hl => ?_)
          refine lv_goto (tgt := 3) hx hb dX5_isNamed_33 (by decide) ?_
          exact ih3 (fu3 - 1) (by omega) v_7 _ _ _ (by omega) (by omega) hP1 hS1 (lv_sub hl [0, 1, 2, 3] rfl)
        · have tc_6 := q_eqN c_6
          refine lv_iconst (v := 1) hx hb dX5_isNamed_28 (by decide) ?_
          exact q_zret hx hb hr hlocks (by decide) hS1 dX5_isNamed_29 ⟨(Or.inl ⟨rfl, by first | trivial | omega⟩), hP1, za_t_isNamed2⟩
  exact key3 4 0 _ _ _ (by omega) (by omega) hP hS (lv_sub hl [0, 1, 2, 3] rfl)
def zo_t_isNamed3 : List Cond := [.code yX5_isNamed cX5_isNamed 5 (some .boolean), .fieldLink RX5 9 "BowWalk$Shop" "count" "[I", .fieldLink RX5 15 "BowWalk$Shop" "names" "[[J"]
def zw_t_isNamed3 : List Cond := zo_t_isNamed3 ++ (wsX50 ++ [])
theorem gz_t_isNamed3 : zw_t_isNamed3.all goodWord = true := p1_ga (by decide +kernel) (p1_ga gk_X5 p1_g0)
theorem iz_t_isNamed3 : ∀ w ∈ zw_t_isNamed3, w ∈ lw_tbl := p1_ia (p1_all [620, 174, 177] (by decide +kernel)) (p1_ia ik_X5 p1_i0)
def zW_t_isNamed3 (p0 : Nat) (f_p0 : List Value) (p0_count : Nat) (c_p0_count : ClassId) (b_p0_count : Nat → Int32) (p0_names : Nat) (c_p0_names : ClassId) (b_p0_names : Nat → Option Nat) (p0_names_0 : Nat) (c_p0_names_0 : ClassId) (b_p0_names_0 : Nat → Int64) (p0_names_1 : Nat) (c_p0_names_1 : ClassId) (b_p0_names_1 : Nat → Int64) (p0_names_2 : Nat) (c_p0_names_2 : ClassId) (b_p0_names_2 : Nat → Int64) (p0_names_3 : Nat) (c_p0_names_3 : ClassId) (b_p0_names_3 : Nat → Int64) (p0_names_4 : Nat) (c_p0_names_4 : ClassId) (b_p0_names_4 : Nat → Int64) : va_W := [(p0, .inr (5, f_p0)), (p0_count, .inl (c_p0_count, 5, .inl b_p0_count)), (p0_names, .inl (c_p0_names, 5, .inr (.inr (.inr (.inr b_p0_names))))), (p0_names_0, .inl (c_p0_names_0, 6, .inr (.inl b_p0_names_0))), (p0_names_1, .inl (c_p0_names_1, 6, .inr (.inl b_p0_names_1))), (p0_names_2, .inl (c_p0_names_2, 6, .inr (.inl b_p0_names_2))), (p0_names_3, .inl (c_p0_names_3, 6, .inr (.inl b_p0_names_3))), (p0_names_4, .inl (c_p0_names_4, 6, .inr (.inl b_p0_names_4)))]
def zT_t_isNamed3 (c_p0_count : ClassId) (c_p0_names : ClassId) (c_p0_names_0 : ClassId) (c_p0_names_1 : ClassId) (c_p0_names_2 : ClassId) (c_p0_names_3 : ClassId) (c_p0_names_4 : ClassId) : List (ClassId × FieldType) := [(c_p0_count, .int), (c_p0_names, .array .long), (c_p0_names_0, .long), (c_p0_names_1, .long), (c_p0_names_2, .long), (c_p0_names_3, .long), (c_p0_names_4, .long)]
def zA_t_isNamed3 (p0 : Nat) (p0_count : Nat) (p0_names : Nat) (p0_names_0 : Nat) (p0_names_1 : Nat) (p0_names_2 : Nat) (p0_names_3 : Nat) (p0_names_4 : Nat) : List Nat := [p0, p0_count, p0_names, p0_names_0, p0_names_1, p0_names_2, p0_names_3, p0_names_4]
theorem za_t_isNamed3 {p0 : Nat} {f_p0 : List Value} {p0_count : Nat} {c_p0_count : ClassId} {b_p0_count : Nat → Int32} {p0_names : Nat} {c_p0_names : ClassId} {b_p0_names : Nat → Option Nat} {p0_names_0 : Nat} {c_p0_names_0 : ClassId} {b_p0_names_0 : Nat → Int64} {p0_names_1 : Nat} {c_p0_names_1 : ClassId} {b_p0_names_1 : Nat → Int64} {p0_names_2 : Nat} {c_p0_names_2 : ClassId} {b_p0_names_2 : Nat → Int64} {p0_names_3 : Nat} {c_p0_names_3 : ClassId} {b_p0_names_3 : Nat → Int64} {p0_names_4 : Nat} {c_p0_names_4 : ClassId} {b_p0_names_4 : Nat → Int64} : (zW_t_isNamed3 p0 f_p0 p0_count c_p0_count b_p0_count p0_names c_p0_names b_p0_names p0_names_0 c_p0_names_0 b_p0_names_0 p0_names_1 c_p0_names_1 b_p0_names_1 p0_names_2 c_p0_names_2 b_p0_names_2 p0_names_3 c_p0_names_3 b_p0_names_3 p0_names_4 c_p0_names_4 b_p0_names_4).map Prod.fst = (zA_t_isNamed3 p0 p0_count p0_names p0_names_0 p0_names_1 p0_names_2 p0_names_3 p0_names_4) := rfl
def zG_t_isNamed3 (p0 : Nat) (f_p0 : List Value) (p0_count : Nat) (c_p0_count : ClassId) (b_p0_count : Nat → Int32) (p0_names : Nat) (c_p0_names : ClassId) (b_p0_names : Nat → Option Nat) (p0_names_0 : Nat) (c_p0_names_0 : ClassId) (b_p0_names_0 : Nat → Int64) (p0_names_1 : Nat) (c_p0_names_1 : ClassId) (b_p0_names_1 : Nat → Int64) (p0_names_2 : Nat) (c_p0_names_2 : ClassId) (b_p0_names_2 : Nat → Int64) (p0_names_3 : Nat) (c_p0_names_3 : ClassId) (b_p0_names_3 : Nat → Int64) (p0_names_4 : Nat) (c_p0_names_4 : ClassId) (b_p0_names_4 : Nat → Int64) (a2 : Int64) (r : Int32) (X : va_W → Prop) : Prop := ((r = 1 ∧ (True)) ∨ (r = 0 ∧ (True))) ∧ X (zW_t_isNamed3 p0 f_p0 p0_count c_p0_count b_p0_count p0_names c_p0_names b_p0_names p0_names_0 c_p0_names_0 b_p0_names_0 p0_names_1 c_p0_names_1 b_p0_names_1 p0_names_2 c_p0_names_2 b_p0_names_2 p0_names_3 c_p0_names_3 b_p0_names_3 p0_names_4 c_p0_names_4 b_p0_names_4)
theorem zm_t_isNamed3 {p0 : Nat} {f_p0 : List Value} {p0_count : Nat} {c_p0_count : ClassId} {b_p0_count : Nat → Int32} {p0_names : Nat} {c_p0_names : ClassId} {b_p0_names : Nat → Option Nat} {p0_names_0 : Nat} {c_p0_names_0 : ClassId} {b_p0_names_0 : Nat → Int64} {p0_names_1 : Nat} {c_p0_names_1 : ClassId} {b_p0_names_1 : Nat → Int64} {p0_names_2 : Nat} {c_p0_names_2 : ClassId} {b_p0_names_2 : Nat → Int64} {p0_names_3 : Nat} {c_p0_names_3 : ClassId} {b_p0_names_3 : Nat → Int64} {p0_names_4 : Nat} {c_p0_names_4 : ClassId} {b_p0_names_4 : Nat → Int64} {a2 : Int64} : ∀ (r : Int32), ∀ X Y : va_W → Prop, (∀ w, X w → Y w) → zG_t_isNamed3 p0 f_p0 p0_count c_p0_count b_p0_count p0_names c_p0_names b_p0_names p0_names_0 c_p0_names_0 b_p0_names_0 p0_names_1 c_p0_names_1 b_p0_names_1 p0_names_2 c_p0_names_2 b_p0_names_2 p0_names_3 c_p0_names_3 b_p0_names_3 p0_names_4 c_p0_names_4 b_p0_names_4 a2 r X → zG_t_isNamed3 p0 f_p0 p0_count c_p0_count b_p0_count p0_names c_p0_names b_p0_names p0_names_0 c_p0_names_0 b_p0_names_0 p0_names_1 c_p0_names_1 b_p0_names_1 p0_names_2 c_p0_names_2 b_p0_names_2 p0_names_3 c_p0_names_3 b_p0_names_3 p0_names_4 c_p0_names_4 b_p0_names_4 a2 r Y := fun r X Y h h1 => by obtain ⟨x0, hx⟩ := h1; exact ⟨x0, h _ hx⟩
set_option maxHeartbeats 4000000 in
set_option maxRecDepth 100000 in
theorem t_isNamed3 (l : Launch) (dC : Nat → ClassId) (dI : Nat → Nat → Nat) (sz : Nat) (p0 : Nat) (f_p0 : List Value) (p0_count : Nat) (c_p0_count : ClassId) (b_p0_count : Nat → Int32) (p0_names : Nat) (c_p0_names : ClassId) (b_p0_names : Nat → Option Nat) (p0_names_0 : Nat) (c_p0_names_0 : ClassId) (b_p0_names_0 : Nat → Int64) (p0_names_1 : Nat) (c_p0_names_1 : ClassId) (b_p0_names_1 : Nat → Int64) (p0_names_2 : Nat) (c_p0_names_2 : ClassId) (b_p0_names_2 : Nat → Int64) (p0_names_3 : Nat) (c_p0_names_3 : ClassId) (b_p0_names_3 : Nat → Int64) (p0_names_4 : Nat) (c_p0_names_4 : ClassId) (b_p0_names_4 : Nat → Int64) (a2 : Int64) (ho_p0 : OKX5 f_p0) (fr_p0_0 : q_rf f_p0 0 p0_count) (fr_p0_1 : q_rf f_p0 1 p0_names) (hr_p0_count : q_cnt b_p0_count) (hn_p0_names_0 : b_p0_names 0 = some p0_names_0) (hn_p0_names_1 : b_p0_names 1 = some p0_names_1) (hn_p0_names_2 : b_p0_names 2 = some p0_names_2) (hn_p0_names_3 : b_p0_names 3 = some p0_names_3) (hn_p0_names_4 : b_p0_names 4 = some p0_names_4) : Met l yX5_isNamed zw_t_isNamed3 ({ frames := 0, cells := 0, slots := 0, locals := 0 }) (va_Pc [.ref p0, .int 3, .long a2] (q_pre (dC, dI) (zW_t_isNamed3 p0 f_p0 p0_count c_p0_count b_p0_count p0_names c_p0_names b_p0_names p0_names_0 c_p0_names_0 b_p0_names_0 p0_names_1 c_p0_names_1 b_p0_names_1 p0_names_2 c_p0_names_2 b_p0_names_2 p0_names_3 c_p0_names_3 b_p0_names_3 p0_names_4 c_p0_names_4 b_p0_names_4) (zT_t_isNamed3 c_p0_count c_p0_names c_p0_names_0 c_p0_names_1 c_p0_names_2 c_p0_names_3 c_p0_names_4) q_E0 sz)) (q_Qi (dC, dI) (zG_t_isNamed3 p0 f_p0 p0_count c_p0_count b_p0_count p0_names c_p0_names b_p0_names p0_names_0 c_p0_names_0 b_p0_names_0 p0_names_1 c_p0_names_1 b_p0_names_1 p0_names_2 c_p0_names_2 b_p0_names_2 p0_names_3 c_p0_names_3 b_p0_names_3 p0_names_4 c_p0_names_4 b_p0_names_4 a2) (zA_t_isNamed3 p0 p0_count p0_names p0_names_0 p0_names_1 p0_names_2 p0_names_3 p0_names_4) (va_A (zW_t_isNamed3 p0 f_p0 p0_count c_p0_count b_p0_count p0_names c_p0_names b_p0_names p0_names_0 c_p0_names_0 b_p0_names_0 p0_names_1 c_p0_names_1 b_p0_names_1 p0_names_2 c_p0_names_2 b_p0_names_2 p0_names_3 c_p0_names_3 b_p0_names_3 p0_names_4 c_p0_names_4 b_p0_names_4) sz)) 0 0 (va_A (zW_t_isNamed3 p0 f_p0 p0_count c_p0_count b_p0_count p0_names c_p0_names b_p0_names p0_names_0 c_p0_names_0 b_p0_names_0 p0_names_1 c_p0_names_1 b_p0_names_1 p0_names_2 c_p0_names_2 b_p0_names_2 p0_names_3 c_p0_names_3 b_p0_names_3 p0_names_4 c_p0_names_4 b_p0_names_4) sz) := by
  refine Met.ofW (cc := cX5_isNamed) (maxL := 5) (ret := (some .boolean)) (by decide) rfl ?_
  intro p e s m args below meth c s₁ B hml hv
  obtain ⟨rfl, hsz, hP, hK, hD0, hE⟩ := hv
  have hx := B.exec
  have hb := B.bytes
  have hr := B.returns
  have hts := atoms_spec (ws := zw_t_isNamed3) B.pre
  have hown : s.vm.findClass RX5 = some m.cls := findClass_of_methodNamed B.named
  have hlocks := B.notSynchronized
  subst hsz
  have hD := hD0.self (sz := s.heap.size)
  generalize hAe : va_A (zW_t_isNamed3 p0 f_p0 p0_count c_p0_count b_p0_count p0_names c_p0_names b_p0_names p0_names_0 c_p0_names_0 b_p0_names_0 p0_names_1 c_p0_names_1 b_p0_names_1 p0_names_2 c_p0_names_2 b_p0_names_2 p0_names_3 c_p0_names_3 b_p0_names_3 p0_names_4 c_p0_names_4 b_p0_names_4) s.heap.size = A at hD hE ⊢
  have hA : ∀ q : Nat, s.heap.size ≤ q → A q := fun q h => by rw [← hAe]; exact Or.inr h
  have hDa : q_DA A (zA_t_isNamed3 p0 p0_count p0_names p0_names_0 p0_names_1 p0_names_2 p0_names_3 p0_names_4) := q_DA.mk hD za_t_isNamed3
  clear hAe hD0 hD
  have hS : va_S A s.heap s.heap [] := va_S.rf
  have m_0 : (.fieldLink RX5 9 "BowWalk$Shop" "count" "[I" : Cond) ∈ zw_t_isNamed3 := List.mem_append_left _ (List.mem_of_getElem? (i := 1) rfl)
  have k_0 := hts _ m_0
  have m_1 : (.fieldLink RX5 15 "BowWalk$Shop" "names" "[[J" : Cond) ∈ zw_t_isNamed3 := List.mem_append_left _ (List.mem_of_getElem? (i := 2) rfl)
  have k_1 := hts _ m_1
  have i_X5 : ∀ w ∈ u_ws RX5 TX5 15, w ∈ zw_t_isNamed3 := fun w h => List.mem_append_right _ (List.mem_append_left _ h)
  have lt_0 : (0 : Int32).toInt = 0 := by decide
  have lt_1 : (1 : Int32).toInt = 1 := by decide
  have lt_3 : (3 : Int32).toInt = 3 := by decide
  have hl := lv_entry ([.ref p0, .int 3, .long a2]) (n := 5) (Nat.le_of_ble_eq_true rfl)
  rw [lg_entry_eq]
  generalize (lg_sl ([.ref p0, .int 3, .long a2]) ++ List.replicate (5 - (lg_sl ([.ref p0, .int 3, .long a2])).length) Slot.unset).toArray = ls at hl ⊢
  have hl : lv_has ls 5 [(0, .ref p0), (1, .int 3), (2, .long a2)] := hl
  refine lv_iconst (v := 0) hx hb dX5_isNamed_0 (by decide) (lv_istore (lv' := [(4, .int 0), (0, .ref p0), (1, .int 3), (2, .long a2)]) hx hb dX5_isNamed_1 hl (by decide) rfl (fun ls hl => ?_))
  have key3 : ∀ (fu3 : Nat) (i : Int32) (H : Heap) (locs : List Loc) (ls : Array Slot) (hfu3 : 3 - i.toInt ≤ (fu3 : Int)) (ti : (0) ≤ i.toInt ∧ i.toInt ≤ 3), va_P (dC, dI) vwCl (zW_t_isNamed3 p0 f_p0 p0_count c_p0_count b_p0_count p0_names c_p0_names b_p0_names p0_names_0 c_p0_names_0 b_p0_names_0 p0_names_1 c_p0_names_1 b_p0_names_1 p0_names_2 c_p0_names_2 b_p0_names_2 p0_names_3 c_p0_names_3 b_p0_names_3 p0_names_4 c_p0_names_4 b_p0_names_4) H → va_S A s.heap H locs → lv_has ls 5 [(4, .int i), (0, .ref p0), (1, .int 3), (2, .long a2)] → W p l e (headSpec zw_t_isNamed3 { frames := 0, cells := 0, slots := 0, locals := 0 }).room s m ([.ref p0, .int 3, .long a2] : List Value).toArray below meth c H locs 0 0 (MQ below (q_Qi (dC, dI) (zG_t_isNamed3 p0 f_p0 p0_count c_p0_count b_p0_count p0_names c_p0_names b_p0_names p0_names_0 c_p0_names_0 b_p0_names_0 p0_names_1 c_p0_names_1 b_p0_names_1 p0_names_2 c_p0_names_2 b_p0_names_2 p0_names_3 c_p0_names_3 b_p0_names_3 p0_names_4 c_p0_names_4 b_p0_names_4 a2) (zA_t_isNamed3 p0 p0_count p0_names p0_names_0 p0_names_1 p0_names_2 p0_names_3 p0_names_4) A) ([.ref p0, .int 3, .long a2] : List Value).toArray s 0 0 A) (F0 m 3 ls []) := by
    intro fu3
    induction fu3 using Nat.strongRecOn with
    | ind fu3 ih3 =>
      intro i H1 lo1 ls hfu3 ti hP1 hS1 hl
      refine lv_iload hx hb dX5_isNamed_3 (lv_at hl 0 rfl) (lv_aload_n hx hb dX5_isNamed_5 rfl (lv_at hl 1 rfl) (qg_X5_0 hx hb hts i_X5 hown hK hP1 0 rfl k_0 fr_p0_0 dX5_isNamed_6 (lv_iload_n hx hb dX5_isNamed_9 rfl (lv_at hl 2 rfl) (q_ild hx hb hK hP1 1 0 rfl rfl (p1_in (i := 3) (n := 5) (by decide)) dX5_isNamed_10 (fun v_2 ev_2 => ?_)))))
      have tv_2 : 0 ≤ v_2.toInt ∧ v_2.toInt ≤ 3 := by rw [ev_2]; exact q_cnt_3 hr_p0_count
      refine lv_icmp_ge (tgt := 36) hx hb dX5_isNamed_11 (by decide) (fun c_3 => ?_) (fun c_3 => ?_)
      · have tc_3 := q_ge c_3
        refine lv_iconst (v := 0) hx hb dX5_isNamed_36 (by decide) ?_
        exact q_zret hx hb hr hlocks (by decide) hS1 dX5_isNamed_37 ⟨(Or.inr ⟨rfl, by first | trivial | omega⟩), hP1, za_t_isNamed3⟩
      · have tc_3 := q_ltN c_3
        refine lv_aload_n hx hb dX5_isNamed_14 rfl (lv_at hl 1 rfl) (qg_X5_1 hx hb hts i_X5 hown hK hP1 0 rfl k_1 fr_p0_1 dX5_isNamed_15 (lv_iload_n hx hb dX5_isNamed_18 rfl (lv_at hl 2 rfl) ?_))
        refine q_aldr hx hb hK hP1 2 1 rfl rfl (p1_in (i := 3) (n := 5) (by decide)) dX5_isNamed_19 ?_
        refine W.eq (g2 := F0 m 20 ls [.ref p0_names_3]) (by rw [show b_p0_names (3 : Int32).toNatClampNeg = some p0_names_3 from hn_p0_names_3]; rfl) ?_
        refine lv_iload hx hb dX5_isNamed_20 (lv_at hl 0 rfl) (q_lld hx hb hK hP1 6 5 rfl rfl (q_in (by omega) (by omega)) dX5_isNamed_22 (fun w_4 ew_4 => ?_))
        refine lv_lload_n hx hb dX5_isNamed_23 rfl (lv_at hl 3 rfl) (W.lcmp hx hb dX5_isNamed_24 (lv_topi fun v_5 ev_5 => ?_))
        refine lv_if_ne (tgt := 30) hx hb dX5_isNamed_25 (by decide) (fun c_6 => ?_) (fun c_6 => ?_)
        · have tc_6 := q_ne c_6
          obtain ⟨v_7, ev_7⟩ : ∃ y : Int32, y = i + 1 := ⟨_, rfl⟩
          have tv_7 := q_add ev_7 (by omega) (by omega)
          refine lv_iinc (v := v_7) (lv' := [(4, .int v_7), (0, .ref p0), (1, .int 3), (2, .long a2)]) hx hb dX5_isNamed_30 hl (k := 0) rfl (by rw [ev_7]; rfl) (by decide) rfl (fun ls hl => ?_)
          refine lv_goto (tgt := 3) hx hb dX5_isNamed_33 (by decide) ?_
          exact ih3 (fu3 - 1) (by omega) v_7 _ _ _ (by omega) (by omega) hP1 hS1 (lv_sub hl [0, 1, 2, 3] rfl)
        · have tc_6 := q_eqN c_6
          refine lv_iconst (v := 1) hx hb dX5_isNamed_28 (by decide) ?_
          exact q_zret hx hb hr hlocks (by decide) hS1 dX5_isNamed_29 ⟨(Or.inl ⟨rfl, by first | trivial | omega⟩), hP1, za_t_isNamed3⟩
  exact key3 3 0 _ _ _ (by omega) (by omega) hP hS (lv_sub hl [0, 1, 2, 3] rfl)
def zo_t_isNamed4 : List Cond := [.code yX5_isNamed cX5_isNamed 5 (some .boolean), .fieldLink RX5 9 "BowWalk$Shop" "count" "[I", .fieldLink RX5 15 "BowWalk$Shop" "names" "[[J"]
def zw_t_isNamed4 : List Cond := zo_t_isNamed4 ++ (wsX50 ++ [])
theorem gz_t_isNamed4 : zw_t_isNamed4.all goodWord = true := p1_ga (by decide +kernel) (p1_ga gk_X5 p1_g0)
theorem iz_t_isNamed4 : ∀ w ∈ zw_t_isNamed4, w ∈ lw_tbl := p1_ia (p1_all [620, 174, 177] (by decide +kernel)) (p1_ia ik_X5 p1_i0)
def zW_t_isNamed4 (p0 : Nat) (f_p0 : List Value) (p0_count : Nat) (c_p0_count : ClassId) (b_p0_count : Nat → Int32) (p0_names : Nat) (c_p0_names : ClassId) (b_p0_names : Nat → Option Nat) (p0_names_0 : Nat) (c_p0_names_0 : ClassId) (b_p0_names_0 : Nat → Int64) (p0_names_1 : Nat) (c_p0_names_1 : ClassId) (b_p0_names_1 : Nat → Int64) (p0_names_2 : Nat) (c_p0_names_2 : ClassId) (b_p0_names_2 : Nat → Int64) (p0_names_3 : Nat) (c_p0_names_3 : ClassId) (b_p0_names_3 : Nat → Int64) (p0_names_4 : Nat) (c_p0_names_4 : ClassId) (b_p0_names_4 : Nat → Int64) : va_W := [(p0, .inr (5, f_p0)), (p0_count, .inl (c_p0_count, 5, .inl b_p0_count)), (p0_names, .inl (c_p0_names, 5, .inr (.inr (.inr (.inr b_p0_names))))), (p0_names_0, .inl (c_p0_names_0, 6, .inr (.inl b_p0_names_0))), (p0_names_1, .inl (c_p0_names_1, 6, .inr (.inl b_p0_names_1))), (p0_names_2, .inl (c_p0_names_2, 6, .inr (.inl b_p0_names_2))), (p0_names_3, .inl (c_p0_names_3, 6, .inr (.inl b_p0_names_3))), (p0_names_4, .inl (c_p0_names_4, 6, .inr (.inl b_p0_names_4)))]
def zT_t_isNamed4 (c_p0_count : ClassId) (c_p0_names : ClassId) (c_p0_names_0 : ClassId) (c_p0_names_1 : ClassId) (c_p0_names_2 : ClassId) (c_p0_names_3 : ClassId) (c_p0_names_4 : ClassId) : List (ClassId × FieldType) := [(c_p0_count, .int), (c_p0_names, .array .long), (c_p0_names_0, .long), (c_p0_names_1, .long), (c_p0_names_2, .long), (c_p0_names_3, .long), (c_p0_names_4, .long)]
def zA_t_isNamed4 (p0 : Nat) (p0_count : Nat) (p0_names : Nat) (p0_names_0 : Nat) (p0_names_1 : Nat) (p0_names_2 : Nat) (p0_names_3 : Nat) (p0_names_4 : Nat) : List Nat := [p0, p0_count, p0_names, p0_names_0, p0_names_1, p0_names_2, p0_names_3, p0_names_4]
theorem za_t_isNamed4 {p0 : Nat} {f_p0 : List Value} {p0_count : Nat} {c_p0_count : ClassId} {b_p0_count : Nat → Int32} {p0_names : Nat} {c_p0_names : ClassId} {b_p0_names : Nat → Option Nat} {p0_names_0 : Nat} {c_p0_names_0 : ClassId} {b_p0_names_0 : Nat → Int64} {p0_names_1 : Nat} {c_p0_names_1 : ClassId} {b_p0_names_1 : Nat → Int64} {p0_names_2 : Nat} {c_p0_names_2 : ClassId} {b_p0_names_2 : Nat → Int64} {p0_names_3 : Nat} {c_p0_names_3 : ClassId} {b_p0_names_3 : Nat → Int64} {p0_names_4 : Nat} {c_p0_names_4 : ClassId} {b_p0_names_4 : Nat → Int64} : (zW_t_isNamed4 p0 f_p0 p0_count c_p0_count b_p0_count p0_names c_p0_names b_p0_names p0_names_0 c_p0_names_0 b_p0_names_0 p0_names_1 c_p0_names_1 b_p0_names_1 p0_names_2 c_p0_names_2 b_p0_names_2 p0_names_3 c_p0_names_3 b_p0_names_3 p0_names_4 c_p0_names_4 b_p0_names_4).map Prod.fst = (zA_t_isNamed4 p0 p0_count p0_names p0_names_0 p0_names_1 p0_names_2 p0_names_3 p0_names_4) := rfl
def zG_t_isNamed4 (p0 : Nat) (f_p0 : List Value) (p0_count : Nat) (c_p0_count : ClassId) (b_p0_count : Nat → Int32) (p0_names : Nat) (c_p0_names : ClassId) (b_p0_names : Nat → Option Nat) (p0_names_0 : Nat) (c_p0_names_0 : ClassId) (b_p0_names_0 : Nat → Int64) (p0_names_1 : Nat) (c_p0_names_1 : ClassId) (b_p0_names_1 : Nat → Int64) (p0_names_2 : Nat) (c_p0_names_2 : ClassId) (b_p0_names_2 : Nat → Int64) (p0_names_3 : Nat) (c_p0_names_3 : ClassId) (b_p0_names_3 : Nat → Int64) (p0_names_4 : Nat) (c_p0_names_4 : ClassId) (b_p0_names_4 : Nat → Int64) (a2 : Int64) (r : Int32) (X : va_W → Prop) : Prop := ((r = 1 ∧ (True)) ∨ (r = 0 ∧ (True))) ∧ X (zW_t_isNamed4 p0 f_p0 p0_count c_p0_count b_p0_count p0_names c_p0_names b_p0_names p0_names_0 c_p0_names_0 b_p0_names_0 p0_names_1 c_p0_names_1 b_p0_names_1 p0_names_2 c_p0_names_2 b_p0_names_2 p0_names_3 c_p0_names_3 b_p0_names_3 p0_names_4 c_p0_names_4 b_p0_names_4)
theorem zm_t_isNamed4 {p0 : Nat} {f_p0 : List Value} {p0_count : Nat} {c_p0_count : ClassId} {b_p0_count : Nat → Int32} {p0_names : Nat} {c_p0_names : ClassId} {b_p0_names : Nat → Option Nat} {p0_names_0 : Nat} {c_p0_names_0 : ClassId} {b_p0_names_0 : Nat → Int64} {p0_names_1 : Nat} {c_p0_names_1 : ClassId} {b_p0_names_1 : Nat → Int64} {p0_names_2 : Nat} {c_p0_names_2 : ClassId} {b_p0_names_2 : Nat → Int64} {p0_names_3 : Nat} {c_p0_names_3 : ClassId} {b_p0_names_3 : Nat → Int64} {p0_names_4 : Nat} {c_p0_names_4 : ClassId} {b_p0_names_4 : Nat → Int64} {a2 : Int64} : ∀ (r : Int32), ∀ X Y : va_W → Prop, (∀ w, X w → Y w) → zG_t_isNamed4 p0 f_p0 p0_count c_p0_count b_p0_count p0_names c_p0_names b_p0_names p0_names_0 c_p0_names_0 b_p0_names_0 p0_names_1 c_p0_names_1 b_p0_names_1 p0_names_2 c_p0_names_2 b_p0_names_2 p0_names_3 c_p0_names_3 b_p0_names_3 p0_names_4 c_p0_names_4 b_p0_names_4 a2 r X → zG_t_isNamed4 p0 f_p0 p0_count c_p0_count b_p0_count p0_names c_p0_names b_p0_names p0_names_0 c_p0_names_0 b_p0_names_0 p0_names_1 c_p0_names_1 b_p0_names_1 p0_names_2 c_p0_names_2 b_p0_names_2 p0_names_3 c_p0_names_3 b_p0_names_3 p0_names_4 c_p0_names_4 b_p0_names_4 a2 r Y := fun r X Y h h1 => by obtain ⟨x0, hx⟩ := h1; exact ⟨x0, h _ hx⟩
set_option maxHeartbeats 4000000 in
set_option maxRecDepth 100000 in
theorem t_isNamed4 (l : Launch) (dC : Nat → ClassId) (dI : Nat → Nat → Nat) (sz : Nat) (p0 : Nat) (f_p0 : List Value) (p0_count : Nat) (c_p0_count : ClassId) (b_p0_count : Nat → Int32) (p0_names : Nat) (c_p0_names : ClassId) (b_p0_names : Nat → Option Nat) (p0_names_0 : Nat) (c_p0_names_0 : ClassId) (b_p0_names_0 : Nat → Int64) (p0_names_1 : Nat) (c_p0_names_1 : ClassId) (b_p0_names_1 : Nat → Int64) (p0_names_2 : Nat) (c_p0_names_2 : ClassId) (b_p0_names_2 : Nat → Int64) (p0_names_3 : Nat) (c_p0_names_3 : ClassId) (b_p0_names_3 : Nat → Int64) (p0_names_4 : Nat) (c_p0_names_4 : ClassId) (b_p0_names_4 : Nat → Int64) (a2 : Int64) (ho_p0 : OKX5 f_p0) (fr_p0_0 : q_rf f_p0 0 p0_count) (fr_p0_1 : q_rf f_p0 1 p0_names) (hr_p0_count : q_cnt b_p0_count) (hn_p0_names_0 : b_p0_names 0 = some p0_names_0) (hn_p0_names_1 : b_p0_names 1 = some p0_names_1) (hn_p0_names_2 : b_p0_names 2 = some p0_names_2) (hn_p0_names_3 : b_p0_names 3 = some p0_names_3) (hn_p0_names_4 : b_p0_names 4 = some p0_names_4) : Met l yX5_isNamed zw_t_isNamed4 ({ frames := 0, cells := 0, slots := 0, locals := 0 }) (va_Pc [.ref p0, .int 4, .long a2] (q_pre (dC, dI) (zW_t_isNamed4 p0 f_p0 p0_count c_p0_count b_p0_count p0_names c_p0_names b_p0_names p0_names_0 c_p0_names_0 b_p0_names_0 p0_names_1 c_p0_names_1 b_p0_names_1 p0_names_2 c_p0_names_2 b_p0_names_2 p0_names_3 c_p0_names_3 b_p0_names_3 p0_names_4 c_p0_names_4 b_p0_names_4) (zT_t_isNamed4 c_p0_count c_p0_names c_p0_names_0 c_p0_names_1 c_p0_names_2 c_p0_names_3 c_p0_names_4) q_E0 sz)) (q_Qi (dC, dI) (zG_t_isNamed4 p0 f_p0 p0_count c_p0_count b_p0_count p0_names c_p0_names b_p0_names p0_names_0 c_p0_names_0 b_p0_names_0 p0_names_1 c_p0_names_1 b_p0_names_1 p0_names_2 c_p0_names_2 b_p0_names_2 p0_names_3 c_p0_names_3 b_p0_names_3 p0_names_4 c_p0_names_4 b_p0_names_4 a2) (zA_t_isNamed4 p0 p0_count p0_names p0_names_0 p0_names_1 p0_names_2 p0_names_3 p0_names_4) (va_A (zW_t_isNamed4 p0 f_p0 p0_count c_p0_count b_p0_count p0_names c_p0_names b_p0_names p0_names_0 c_p0_names_0 b_p0_names_0 p0_names_1 c_p0_names_1 b_p0_names_1 p0_names_2 c_p0_names_2 b_p0_names_2 p0_names_3 c_p0_names_3 b_p0_names_3 p0_names_4 c_p0_names_4 b_p0_names_4) sz)) 0 0 (va_A (zW_t_isNamed4 p0 f_p0 p0_count c_p0_count b_p0_count p0_names c_p0_names b_p0_names p0_names_0 c_p0_names_0 b_p0_names_0 p0_names_1 c_p0_names_1 b_p0_names_1 p0_names_2 c_p0_names_2 b_p0_names_2 p0_names_3 c_p0_names_3 b_p0_names_3 p0_names_4 c_p0_names_4 b_p0_names_4) sz) := by
  refine Met.ofW (cc := cX5_isNamed) (maxL := 5) (ret := (some .boolean)) (by decide) rfl ?_
  intro p e s m args below meth c s₁ B hml hv
  obtain ⟨rfl, hsz, hP, hK, hD0, hE⟩ := hv
  have hx := B.exec
  have hb := B.bytes
  have hr := B.returns
  have hts := atoms_spec (ws := zw_t_isNamed4) B.pre
  have hown : s.vm.findClass RX5 = some m.cls := findClass_of_methodNamed B.named
  have hlocks := B.notSynchronized
  subst hsz
  have hD := hD0.self (sz := s.heap.size)
  generalize hAe : va_A (zW_t_isNamed4 p0 f_p0 p0_count c_p0_count b_p0_count p0_names c_p0_names b_p0_names p0_names_0 c_p0_names_0 b_p0_names_0 p0_names_1 c_p0_names_1 b_p0_names_1 p0_names_2 c_p0_names_2 b_p0_names_2 p0_names_3 c_p0_names_3 b_p0_names_3 p0_names_4 c_p0_names_4 b_p0_names_4) s.heap.size = A at hD hE ⊢
  have hA : ∀ q : Nat, s.heap.size ≤ q → A q := fun q h => by rw [← hAe]; exact Or.inr h
  have hDa : q_DA A (zA_t_isNamed4 p0 p0_count p0_names p0_names_0 p0_names_1 p0_names_2 p0_names_3 p0_names_4) := q_DA.mk hD za_t_isNamed4
  clear hAe hD0 hD
  have hS : va_S A s.heap s.heap [] := va_S.rf
  have m_0 : (.fieldLink RX5 9 "BowWalk$Shop" "count" "[I" : Cond) ∈ zw_t_isNamed4 := List.mem_append_left _ (List.mem_of_getElem? (i := 1) rfl)
  have k_0 := hts _ m_0
  have m_1 : (.fieldLink RX5 15 "BowWalk$Shop" "names" "[[J" : Cond) ∈ zw_t_isNamed4 := List.mem_append_left _ (List.mem_of_getElem? (i := 2) rfl)
  have k_1 := hts _ m_1
  have i_X5 : ∀ w ∈ u_ws RX5 TX5 15, w ∈ zw_t_isNamed4 := fun w h => List.mem_append_right _ (List.mem_append_left _ h)
  have lt_0 : (0 : Int32).toInt = 0 := by decide
  have lt_1 : (1 : Int32).toInt = 1 := by decide
  have lt_4 : (4 : Int32).toInt = 4 := by decide
  have hl := lv_entry ([.ref p0, .int 4, .long a2]) (n := 5) (Nat.le_of_ble_eq_true rfl)
  rw [lg_entry_eq]
  generalize (lg_sl ([.ref p0, .int 4, .long a2]) ++ List.replicate (5 - (lg_sl ([.ref p0, .int 4, .long a2])).length) Slot.unset).toArray = ls at hl ⊢
  have hl : lv_has ls 5 [(0, .ref p0), (1, .int 4), (2, .long a2)] := hl
  refine lv_iconst (v := 0) hx hb dX5_isNamed_0 (by decide) (lv_istore (lv' := [(4, .int 0), (0, .ref p0), (1, .int 4), (2, .long a2)]) hx hb dX5_isNamed_1 hl (by decide) rfl (fun ls hl => ?_))
  have key3 : ∀ (fu3 : Nat) (i : Int32) (H : Heap) (locs : List Loc) (ls : Array Slot) (hfu3 : 4 - i.toInt ≤ (fu3 : Int)) (ti : (0) ≤ i.toInt ∧ i.toInt ≤ 4), va_P (dC, dI) vwCl (zW_t_isNamed4 p0 f_p0 p0_count c_p0_count b_p0_count p0_names c_p0_names b_p0_names p0_names_0 c_p0_names_0 b_p0_names_0 p0_names_1 c_p0_names_1 b_p0_names_1 p0_names_2 c_p0_names_2 b_p0_names_2 p0_names_3 c_p0_names_3 b_p0_names_3 p0_names_4 c_p0_names_4 b_p0_names_4) H → va_S A s.heap H locs → lv_has ls 5 [(4, .int i), (0, .ref p0), (1, .int 4), (2, .long a2)] → W p l e (headSpec zw_t_isNamed4 { frames := 0, cells := 0, slots := 0, locals := 0 }).room s m ([.ref p0, .int 4, .long a2] : List Value).toArray below meth c H locs 0 0 (MQ below (q_Qi (dC, dI) (zG_t_isNamed4 p0 f_p0 p0_count c_p0_count b_p0_count p0_names c_p0_names b_p0_names p0_names_0 c_p0_names_0 b_p0_names_0 p0_names_1 c_p0_names_1 b_p0_names_1 p0_names_2 c_p0_names_2 b_p0_names_2 p0_names_3 c_p0_names_3 b_p0_names_3 p0_names_4 c_p0_names_4 b_p0_names_4 a2) (zA_t_isNamed4 p0 p0_count p0_names p0_names_0 p0_names_1 p0_names_2 p0_names_3 p0_names_4) A) ([.ref p0, .int 4, .long a2] : List Value).toArray s 0 0 A) (F0 m 3 ls []) := by
    intro fu3
    induction fu3 using Nat.strongRecOn with
    | ind fu3 ih3 =>
      intro i H1 lo1 ls hfu3 ti hP1 hS1 hl
      refine lv_iload hx hb dX5_isNamed_3 (lv_at hl 0 rfl) (lv_aload_n hx hb dX5_isNamed_5 rfl (lv_at hl 1 rfl) (qg_X5_0 hx hb hts i_X5 hown hK hP1 0 rfl k_0 fr_p0_0 dX5_isNamed_6 (lv_iload_n hx hb dX5_isNamed_9 rfl (lv_at hl 2 rfl) (q_ild hx hb hK hP1 1 0 rfl rfl (p1_in (i := 4) (n := 5) (by decide)) dX5_isNamed_10 (fun v_2 ev_2 => ?_)))))
      have tv_2 : 0 ≤ v_2.toInt ∧ v_2.toInt ≤ 4 := by rw [ev_2]; exact q_cnt_4 hr_p0_count
      refine lv_icmp_ge (tgt := 36) hx hb dX5_isNamed_11 (by decide) (fun c_3 => ?_) (fun c_3 => ?_)
      · have tc_3 := q_ge c_3
        refine lv_iconst (v := 0) hx hb dX5_isNamed_36 (by decide) ?_
        exact q_zret hx hb hr hlocks (by decide) hS1 dX5_isNamed_37 ⟨(Or.inr ⟨rfl, by first | trivial | omega⟩), hP1, za_t_isNamed4⟩
      · have tc_3 := q_ltN c_3
        refine lv_aload_n hx hb dX5_isNamed_14 rfl (lv_at hl 1 rfl) (qg_X5_1 hx hb hts i_X5 hown hK hP1 0 rfl k_1 fr_p0_1 dX5_isNamed_15 (lv_iload_n hx hb dX5_isNamed_18 rfl (lv_at hl 2 rfl) ?_))
        refine q_aldr hx hb hK hP1 2 1 rfl rfl (p1_in (i := 4) (n := 5) (by decide)) dX5_isNamed_19 ?_
        refine W.eq (g2 := F0 m 20 ls [.ref p0_names_4]) (by rw [show b_p0_names (4 : Int32).toNatClampNeg = some p0_names_4 from hn_p0_names_4]; rfl) ?_
        refine lv_iload hx hb dX5_isNamed_20 (lv_at hl 0 rfl) (q_lld hx hb hK hP1 7 6 rfl rfl (q_in (by omega) (by omega)) dX5_isNamed_22 (fun w_4 ew_4 => ?_))
        refine lv_lload_n hx hb dX5_isNamed_23 rfl (lv_at hl 3 rfl) (W.lcmp hx hb dX5_isNamed_24 (lv_topi fun v_5 ev_5 => ?_))
        refine lv_if_ne (tgt := 30) hx hb dX5_isNamed_25 (by decide) (fun c_6 => ?_) (fun c_6 => ?_)
        · have tc_6 := q_ne c_6
          obtain ⟨v_7, ev_7⟩ : ∃ y : Int32, y = i + 1 := ⟨_, rfl⟩
          have tv_7 := q_add ev_7 (by omega) (by omega)
          refine lv_iinc (v := v_7) (lv' := [(4, .int v_7), (0, .ref p0), (1, .int 4), (2, .long a2)]) hx hb dX5_isNamed_30 hl (k := 0) rfl (by rw [ev_7]; rfl) (by decide) rfl (fun ls hl => ?_)
          refine lv_goto (tgt := 3) hx hb dX5_isNamed_33 (by decide) ?_
          exact ih3 (fu3 - 1) (by omega) v_7 _ _ _ (by omega) (by omega) hP1 hS1 (lv_sub hl [0, 1, 2, 3] rfl)
        · have tc_6 := q_eqN c_6
          refine lv_iconst (v := 1) hx hb dX5_isNamed_28 (by decide) ?_
          exact q_zret hx hb hr hlocks (by decide) hS1 dX5_isNamed_29 ⟨(Or.inl ⟨rfl, by first | trivial | omega⟩), hP1, za_t_isNamed4⟩
  exact key3 4 0 _ _ _ (by omega) (by omega) hP hS (lv_sub hl [0, 1, 2, 3] rfl)
def zo_t_sclear : List Cond := [.code yX5_clear cX5_clear 2 none, .fieldLink RX5 9 "BowWalk$Shop" "count" "[I", .fieldLink RX5 53 "BowWalk$Shop" "laws" "LBowWalk$Laws;", .methodLink RX5 64 yX3_clear, .instanceMethod yX3_clear, .selects RX3 yX3_clear yX3_clear, .initialized RX3, .fieldLink RX5 57 "BowWalk$Shop" "once" "[I", .fieldLink RX5 60 "BowWalk$Shop" "onceTold" "[Z"]
def zw_t_sclear : List Cond := zo_t_sclear ++ (zw_t_lclear ++ (wsX50 ++ []))
theorem gz_t_sclear : zw_t_sclear.all goodWord = true := p1_ga (by decide +kernel) (p1_ga gz_t_lclear (p1_ga gk_X5 p1_g0))
theorem iz_t_sclear : ∀ w ∈ zw_t_sclear, w ∈ lw_tbl := p1_ia (p1_all [568, 174, 212, 569, 570, 571, 107, 216, 220] (by decide +kernel)) (p1_ia iz_t_lclear (p1_ia ik_X5 p1_i0))
def zW_t_sclear (p0 : Nat) (f_p0 : List Value) (p0_count : Nat) (c_p0_count : ClassId) (b_p0_count : Nat → Int32) (p0_laws : Nat) (f_p0_laws : List Value) (p0_once : Nat) (c_p0_once : ClassId) (b_p0_once : Nat → Int32) (p0_onceTold : Nat) (c_p0_onceTold : ClassId) (b_p0_onceTold : Nat → Int32) : va_W := [(p0, .inr (5, f_p0)), (p0_count, .inl (c_p0_count, 5, .inl b_p0_count)), (p0_laws, .inr (3, f_p0_laws)), (p0_once, .inl (c_p0_once, 2, .inl b_p0_once)), (p0_onceTold, .inl (c_p0_onceTold, 2, .inl b_p0_onceTold))]
def zT_t_sclear (c_p0_count : ClassId) (c_p0_once : ClassId) (c_p0_onceTold : ClassId) : List (ClassId × FieldType) := [(c_p0_count, .int), (c_p0_once, .int), (c_p0_onceTold, .boolean)]
def zA_t_sclear (p0 : Nat) (p0_count : Nat) (p0_laws : Nat) (p0_once : Nat) (p0_onceTold : Nat) : List Nat := [p0, p0_count, p0_laws, p0_once, p0_onceTold]
theorem za_t_sclear {p0 : Nat} {f_p0 : List Value} {p0_count : Nat} {c_p0_count : ClassId} {b_p0_count : Nat → Int32} {p0_laws : Nat} {f_p0_laws : List Value} {p0_once : Nat} {c_p0_once : ClassId} {b_p0_once : Nat → Int32} {p0_onceTold : Nat} {c_p0_onceTold : ClassId} {b_p0_onceTold : Nat → Int32} : (zW_t_sclear p0 f_p0 p0_count c_p0_count b_p0_count p0_laws f_p0_laws p0_once c_p0_once b_p0_once p0_onceTold c_p0_onceTold b_p0_onceTold).map Prod.fst = (zA_t_sclear p0 p0_count p0_laws p0_once p0_onceTold) := rfl
def zG_t_sclear (p0 : Nat) (f_p0 : List Value) (p0_count : Nat) (c_p0_count : ClassId) (b_p0_count : Nat → Int32) (p0_laws : Nat) (f_p0_laws : List Value) (p0_once : Nat) (c_p0_once : ClassId) (b_p0_once : Nat → Int32) (p0_onceTold : Nat) (c_p0_onceTold : ClassId) (b_p0_onceTold : Nat → Int32) (X : va_W → Prop) : Prop := ∃ (y_p0_count : Nat → Int32) (y_p0_laws : List Value) (y_p0_once : Nat → Int32) (y_p0_onceTold : Nat → Int32), (q_cnt y_p0_count) ∧ OKX3 y_p0_laws ∧ q_fr [3, 4, 5] f_p0_laws y_p0_laws ∧ (q_rg 2 (0) 999 y_p0_once) ∧ X (zW_t_sclear p0 f_p0 p0_count c_p0_count y_p0_count p0_laws y_p0_laws p0_once c_p0_once y_p0_once p0_onceTold c_p0_onceTold y_p0_onceTold)
theorem zm_t_sclear {p0 : Nat} {f_p0 : List Value} {p0_count : Nat} {c_p0_count : ClassId} {b_p0_count : Nat → Int32} {p0_laws : Nat} {f_p0_laws : List Value} {p0_once : Nat} {c_p0_once : ClassId} {b_p0_once : Nat → Int32} {p0_onceTold : Nat} {c_p0_onceTold : ClassId} {b_p0_onceTold : Nat → Int32} : ∀ X Y : va_W → Prop, (∀ w, X w → Y w) → zG_t_sclear p0 f_p0 p0_count c_p0_count b_p0_count p0_laws f_p0_laws p0_once c_p0_once b_p0_once p0_onceTold c_p0_onceTold b_p0_onceTold X → zG_t_sclear p0 f_p0 p0_count c_p0_count b_p0_count p0_laws f_p0_laws p0_once c_p0_once b_p0_once p0_onceTold c_p0_onceTold b_p0_onceTold Y := fun X Y h h1 => by obtain ⟨x0, x1, x2, x3, x4, x5, x6, x7, hx⟩ := h1; exact ⟨x0, x1, x2, x3, x4, x5, x6, x7, h _ hx⟩
set_option maxHeartbeats 4000000 in
set_option maxRecDepth 100000 in
theorem t_sclear (l : Launch) (dC : Nat → ClassId) (dI : Nat → Nat → Nat) (sz : Nat) (p0 : Nat) (f_p0 : List Value) (p0_count : Nat) (c_p0_count : ClassId) (b_p0_count : Nat → Int32) (p0_laws : Nat) (f_p0_laws : List Value) (p0_once : Nat) (c_p0_once : ClassId) (b_p0_once : Nat → Int32) (p0_onceTold : Nat) (c_p0_onceTold : ClassId) (b_p0_onceTold : Nat → Int32) (ho_p0 : OKX5 f_p0) (fr_p0_0 : q_rf f_p0 0 p0_count) (fr_p0_12 : q_rf f_p0 12 p0_laws) (fr_p0_13 : q_rf f_p0 13 p0_once) (fr_p0_14 : q_rf f_p0 14 p0_onceTold) (hr_p0_count : q_cnt b_p0_count) (ho_p0_laws : OKX3 f_p0_laws) (hr_p0_once : q_rg 2 (0) 999 b_p0_once) : Met l yX5_clear zw_t_sclear ({ frames := 1, cells := 0, slots := 0, locals := 20 }) (va_Pc [.ref p0] (q_pre (dC, dI) (zW_t_sclear p0 f_p0 p0_count c_p0_count b_p0_count p0_laws f_p0_laws p0_once c_p0_once b_p0_once p0_onceTold c_p0_onceTold b_p0_onceTold) (zT_t_sclear c_p0_count c_p0_once c_p0_onceTold) q_E0 sz)) (q_Qv (dC, dI) (zG_t_sclear p0 f_p0 p0_count c_p0_count b_p0_count p0_laws f_p0_laws p0_once c_p0_once b_p0_once p0_onceTold c_p0_onceTold b_p0_onceTold) (zA_t_sclear p0 p0_count p0_laws p0_once p0_onceTold) (va_A (zW_t_sclear p0 f_p0 p0_count c_p0_count b_p0_count p0_laws f_p0_laws p0_once c_p0_once b_p0_once p0_onceTold c_p0_onceTold b_p0_onceTold) sz)) 0 0 (va_A (zW_t_sclear p0 f_p0 p0_count c_p0_count b_p0_count p0_laws f_p0_laws p0_once c_p0_once b_p0_once p0_onceTold c_p0_onceTold b_p0_onceTold) sz) := by
  refine Met.ofW (cc := cX5_clear) (maxL := 2) (ret := none) (by decide) rfl ?_
  intro p e s m args below meth c s₁ B hml hv
  obtain ⟨rfl, hsz, hP, hK, hD0, hE⟩ := hv
  have hx := B.exec
  have hb := B.bytes
  have hr := B.returns
  have hts := atoms_spec (ws := zw_t_sclear) B.pre
  have hown : s.vm.findClass RX5 = some m.cls := findClass_of_methodNamed B.named
  have hlocks := B.notSynchronized
  subst hsz
  have hD := hD0.self (sz := s.heap.size)
  generalize hAe : va_A (zW_t_sclear p0 f_p0 p0_count c_p0_count b_p0_count p0_laws f_p0_laws p0_once c_p0_once b_p0_once p0_onceTold c_p0_onceTold b_p0_onceTold) s.heap.size = A at hD hE ⊢
  have hA : ∀ q : Nat, s.heap.size ≤ q → A q := fun q h => by rw [← hAe]; exact Or.inr h
  have hDa : q_DA A (zA_t_sclear p0 p0_count p0_laws p0_once p0_onceTold) := q_DA.mk hD za_t_sclear
  clear hAe hD0 hD
  have hS : va_S A s.heap s.heap [] := va_S.rf
  have m_0 : (.fieldLink RX5 9 "BowWalk$Shop" "count" "[I" : Cond) ∈ zw_t_sclear := List.mem_append_left _ (List.mem_of_getElem? (i := 1) rfl)
  have k_0 := hts _ m_0
  have m_1 : (.fieldLink RX5 53 "BowWalk$Shop" "laws" "LBowWalk$Laws;" : Cond) ∈ zw_t_sclear := List.mem_append_left _ (List.mem_of_getElem? (i := 2) rfl)
  have k_1 := hts _ m_1
  have m_2 : (.methodLink RX5 64 yX3_clear : Cond) ∈ zw_t_sclear := List.mem_append_left _ (List.mem_of_getElem? (i := 3) rfl)
  have k_2 := hts _ m_2
  have m_3 : (.instanceMethod yX3_clear : Cond) ∈ zw_t_sclear := List.mem_append_left _ (List.mem_of_getElem? (i := 4) rfl)
  have k_3 := hts _ m_3
  have m_4 : (.selects RX3 yX3_clear yX3_clear : Cond) ∈ zw_t_sclear := List.mem_append_left _ (List.mem_of_getElem? (i := 5) rfl)
  have k_4 := hts _ m_4
  have m_5 : (.initialized RX3 : Cond) ∈ zw_t_sclear := List.mem_append_left _ (List.mem_of_getElem? (i := 6) rfl)
  have k_5 := hts _ m_5
  have m_6 : (.fieldLink RX5 57 "BowWalk$Shop" "once" "[I" : Cond) ∈ zw_t_sclear := List.mem_append_left _ (List.mem_of_getElem? (i := 7) rfl)
  have k_6 := hts _ m_6
  have m_7 : (.fieldLink RX5 60 "BowWalk$Shop" "onceTold" "[Z" : Cond) ∈ zw_t_sclear := List.mem_append_left _ (List.mem_of_getElem? (i := 8) rfl)
  have k_7 := hts _ m_7
  have g_t_lclear : ∀ w ∈ zw_t_lclear, w ∈ zw_t_sclear := fun w h => List.mem_append_right _ (List.mem_append_left _ h)
  have i_X5 : ∀ w ∈ u_ws RX5 TX5 15, w ∈ zw_t_sclear := fun w h => List.mem_append_right _ (List.mem_append_right _ (List.mem_append_left _ h))
  have lt_0 : (0 : Int32).toInt = 0 := by decide
  have lt_1 : (1 : Int32).toInt = 1 := by decide
  have lt_2 : (2 : Int32).toInt = 2 := by decide
  have lt_3 : (3 : Int32).toInt = 3 := by decide
  have lt_4 : (4 : Int32).toInt = 4 := by decide
  have lt_5 : (5 : Int32).toInt = 5 := by decide
  have lt_100 : (100 : Int32).toInt = 100 := by decide
  have hl := lv_entry ([.ref p0]) (n := 2) (Nat.le_of_ble_eq_true rfl)
  rw [lg_entry_eq]
  generalize (lg_sl ([.ref p0]) ++ List.replicate (2 - (lg_sl ([.ref p0])).length) Slot.unset).toArray = ls at hl ⊢
  have hl : lv_has ls 2 [(0, .ref p0)] := hl
  refine lv_iconst (v := 0) hx hb dX5_clear_0 (by decide) (lv_istore_n (lv' := [(1, .int 0), (0, .ref p0)]) hx hb dX5_clear_1 rfl hl (by decide) rfl (fun ls hl => ?_))
  refine lv_iload_n hx hb dX5_clear_2 rfl (lv_at hl 0 rfl) (lv_iconst (v := 5) hx hb dX5_clear_3 (by decide) (lv_icmp_ge (tgt := 20) hx hb dX5_clear_4 (by decide) (fun c_1 => absurd c_1 (by decide)) (fun c_1 => ?_)))
  refine lv_aload_n hx hb dX5_clear_7 rfl (lv_at hl 1 rfl) (qg_X5_0 hx hb hts i_X5 hown hK hP 0 rfl k_0 fr_p0_0 dX5_clear_8 (lv_iload_n hx hb dX5_clear_11 rfl (lv_at hl 0 rfl) (lv_iconst (v := 0) hx hb dX5_clear_12 (by decide) (q_ist hx hb hK hP hDa za_t_sclear hS 1 0 rfl rfl (p1_in (i := 0) (n := 5) (by decide)) dX5_clear_13 (fun H2 lo2 g2 eg2 (hP2 : va_P (dC, dI) vwCl (zW_t_sclear p0 f_p0 p0_count c_p0_count g2 p0_laws f_p0_laws p0_once c_p0_once b_p0_once p0_onceTold c_p0_onceTold b_p0_onceTold) H2) hS2 => ?_)))))
  clear hP hS
  have hr_g2 : q_cnt g2 := by rw [eg2]; exact q_cnt_up_0 hr_p0_count (by omega)
  refine lv_iinc (v := 1) (lv' := [(1, .int 1), (0, .ref p0)]) hx hb dX5_clear_14 hl (k := 0) rfl (by decide) (by decide) rfl (fun ls hl => ?_)
  refine lv_goto (tgt := 2) hx hb dX5_clear_17 (by decide) (lv_iload_n hx hb dX5_clear_2 rfl (lv_at hl 0 rfl) (lv_iconst (v := 5) hx hb dX5_clear_3 (by decide) (lv_icmp_ge (tgt := 20) hx hb dX5_clear_4 (by decide) (fun c_3 => absurd c_3 (by decide)) (fun c_3 => ?_))))
  refine lv_aload_n hx hb dX5_clear_7 rfl (lv_at hl 1 rfl) (qg_X5_0 hx hb hts i_X5 hown hK hP2 0 rfl k_0 fr_p0_0 dX5_clear_8 (lv_iload_n hx hb dX5_clear_11 rfl (lv_at hl 0 rfl) (lv_iconst (v := 0) hx hb dX5_clear_12 (by decide) (q_ist hx hb hK hP2 hDa za_t_sclear hS2 1 0 rfl rfl (p1_in (i := 1) (n := 5) (by decide)) dX5_clear_13 (fun H4 lo4 g4 eg4 (hP4 : va_P (dC, dI) vwCl (zW_t_sclear p0 f_p0 p0_count c_p0_count g4 p0_laws f_p0_laws p0_once c_p0_once b_p0_once p0_onceTold c_p0_onceTold b_p0_onceTold) H4) hS4 => ?_)))))
  clear hP2 hS2
  have hr_g4 : q_cnt g4 := by rw [eg4]; exact q_cnt_up_1 hr_g2 (by omega)
  refine lv_iinc (v := 2) (lv' := [(1, .int 2), (0, .ref p0)]) hx hb dX5_clear_14 hl (k := 0) rfl (by decide) (by decide) rfl (fun ls hl => ?_)
  refine lv_goto (tgt := 2) hx hb dX5_clear_17 (by decide) (lv_iload_n hx hb dX5_clear_2 rfl (lv_at hl 0 rfl) (lv_iconst (v := 5) hx hb dX5_clear_3 (by decide) (lv_icmp_ge (tgt := 20) hx hb dX5_clear_4 (by decide) (fun c_5 => absurd c_5 (by decide)) (fun c_5 => ?_))))
  refine lv_aload_n hx hb dX5_clear_7 rfl (lv_at hl 1 rfl) (qg_X5_0 hx hb hts i_X5 hown hK hP4 0 rfl k_0 fr_p0_0 dX5_clear_8 (lv_iload_n hx hb dX5_clear_11 rfl (lv_at hl 0 rfl) (lv_iconst (v := 0) hx hb dX5_clear_12 (by decide) (q_ist hx hb hK hP4 hDa za_t_sclear hS4 1 0 rfl rfl (p1_in (i := 2) (n := 5) (by decide)) dX5_clear_13 (fun H6 lo6 g6 eg6 (hP6 : va_P (dC, dI) vwCl (zW_t_sclear p0 f_p0 p0_count c_p0_count g6 p0_laws f_p0_laws p0_once c_p0_once b_p0_once p0_onceTold c_p0_onceTold b_p0_onceTold) H6) hS6 => ?_)))))
  clear hP4 hS4
  have hr_g6 : q_cnt g6 := by rw [eg6]; exact q_cnt_up_2 hr_g4 (by omega)
  refine lv_iinc (v := 3) (lv' := [(1, .int 3), (0, .ref p0)]) hx hb dX5_clear_14 hl (k := 0) rfl (by decide) (by decide) rfl (fun ls hl => ?_)
  refine lv_goto (tgt := 2) hx hb dX5_clear_17 (by decide) (lv_iload_n hx hb dX5_clear_2 rfl (lv_at hl 0 rfl) (lv_iconst (v := 5) hx hb dX5_clear_3 (by decide) (lv_icmp_ge (tgt := 20) hx hb dX5_clear_4 (by decide) (fun c_7 => absurd c_7 (by decide)) (fun c_7 => ?_))))
  refine lv_aload_n hx hb dX5_clear_7 rfl (lv_at hl 1 rfl) (qg_X5_0 hx hb hts i_X5 hown hK hP6 0 rfl k_0 fr_p0_0 dX5_clear_8 (lv_iload_n hx hb dX5_clear_11 rfl (lv_at hl 0 rfl) (lv_iconst (v := 0) hx hb dX5_clear_12 (by decide) (q_ist hx hb hK hP6 hDa za_t_sclear hS6 1 0 rfl rfl (p1_in (i := 3) (n := 5) (by decide)) dX5_clear_13 (fun H8 lo8 g8 eg8 (hP8 : va_P (dC, dI) vwCl (zW_t_sclear p0 f_p0 p0_count c_p0_count g8 p0_laws f_p0_laws p0_once c_p0_once b_p0_once p0_onceTold c_p0_onceTold b_p0_onceTold) H8) hS8 => ?_)))))
  clear hP6 hS6
  have hr_g8 : q_cnt g8 := by rw [eg8]; exact q_cnt_up_3 hr_g6 (by omega)
  refine lv_iinc (v := 4) (lv' := [(1, .int 4), (0, .ref p0)]) hx hb dX5_clear_14 hl (k := 0) rfl (by decide) (by decide) rfl (fun ls hl => ?_)
  refine lv_goto (tgt := 2) hx hb dX5_clear_17 (by decide) (lv_iload_n hx hb dX5_clear_2 rfl (lv_at hl 0 rfl) (lv_iconst (v := 5) hx hb dX5_clear_3 (by decide) (lv_icmp_ge (tgt := 20) hx hb dX5_clear_4 (by decide) (fun c_9 => absurd c_9 (by decide)) (fun c_9 => ?_))))
  refine lv_aload_n hx hb dX5_clear_7 rfl (lv_at hl 1 rfl) (qg_X5_0 hx hb hts i_X5 hown hK hP8 0 rfl k_0 fr_p0_0 dX5_clear_8 (lv_iload_n hx hb dX5_clear_11 rfl (lv_at hl 0 rfl) (lv_iconst (v := 0) hx hb dX5_clear_12 (by decide) (q_ist hx hb hK hP8 hDa za_t_sclear hS8 1 0 rfl rfl (p1_in (i := 4) (n := 5) (by decide)) dX5_clear_13 (fun H10 lo10 g10 eg10 (hP10 : va_P (dC, dI) vwCl (zW_t_sclear p0 f_p0 p0_count c_p0_count g10 p0_laws f_p0_laws p0_once c_p0_once b_p0_once p0_onceTold c_p0_onceTold b_p0_onceTold) H10) hS10 => ?_)))))
  clear hP8 hS8
  have hr_g10 : q_cnt g10 := by rw [eg10]; exact q_cnt_up_4 hr_g8 (by omega)
  refine lv_iinc (v := 5) (lv' := [(1, .int 5), (0, .ref p0)]) hx hb dX5_clear_14 hl (k := 0) rfl (by decide) (by decide) rfl (fun ls hl => ?_)
  refine lv_goto (tgt := 2) hx hb dX5_clear_17 (by decide) (lv_iload_n hx hb dX5_clear_2 rfl (lv_at hl 0 rfl) (lv_iconst (v := 5) hx hb dX5_clear_3 (by decide) (lv_icmp_ge (tgt := 20) hx hb dX5_clear_4 (by decide) (fun c_11 => ?_) (fun c_11 => absurd c_11 (by decide)))))
  refine lv_aload_n hx hb dX5_clear_20 rfl (lv_at hl 1 rfl) (qg_X5_12 hx hb hts i_X5 hown hK hP10 0 rfl k_1 fr_p0_12 dX5_clear_21 ?_)
  refine q_cVv (As := []) (rest := []) q_w0 trivial hK hP10 hDa za_t_sclear hS10 hA [2] [] (by decide +kernel) ⟨hx, hb, hml, hown, hts⟩ (t_lclear l dC dI H10.size p0_laws f_p0_laws ho_p0_laws) rfl rfl (cwV 0 hts (p1_gV m_2 m_3 m_4 m_5 g_t_lclear gz_t_lclear) rfl rfl rfl (by decide +kernel) ⟨by decide, by decide⟩) (va_recv hK hP10 (ci := 3) (q0 := 2) rfl rfl) zm_t_lclear rfl hl.1 rfl (Nat.le_of_ble_eq_true rfl) dX5_clear_24 ⟨by decide, by decide⟩ (fun H13 lo13 hG13 hS13 => ?_)
  obtain ⟨o_14, ho_15, hf_16, hQ13⟩ := hG13
  have hP13 : va_P (dC, dI) vwCl (zW_t_sclear p0 f_p0 p0_count c_p0_count g10 p0_laws o_14 p0_once c_p0_once b_p0_once p0_onceTold c_p0_onceTold b_p0_onceTold) H13 := hQ13
  clear hQ13 hP10 hS10
  refine lv_aload_n hx hb dX5_clear_27 rfl (lv_at hl 1 rfl) (qg_X5_13 hx hb hts i_X5 hown hK hP13 0 rfl k_6 fr_p0_13 dX5_clear_28 (lv_iconst (v := 0) hx hb dX5_clear_31 (by decide) (lv_bipush (v := 100) hx hb dX5_clear_32 (by decide) (q_ist hx hb hK hP13 hDa za_t_sclear hS13 3 1 rfl rfl (p1_in (i := 0) (n := 2) (by decide)) dX5_clear_34 (fun H17 lo17 g17 eg17 (hP17 : va_P (dC, dI) vwCl (zW_t_sclear p0 f_p0 p0_count c_p0_count g10 p0_laws o_14 p0_once c_p0_once g17 p0_onceTold c_p0_onceTold b_p0_onceTold) H17) hS17 => ?_)))))
  clear hP13 hS13
  have hr_g17 := q_up' hr_p0_once eg17 ⟨by omega, by omega⟩
  refine lv_aload_n hx hb dX5_clear_35 rfl (lv_at hl 1 rfl) (qg_X5_13 hx hb hts i_X5 hown hK hP17 0 rfl k_6 fr_p0_13 dX5_clear_36 (lv_iconst (v := 1) hx hb dX5_clear_39 (by decide) (lv_iconst (v := 0) hx hb dX5_clear_40 (by decide) (q_ist hx hb hK hP17 hDa za_t_sclear hS17 3 1 rfl rfl (p1_in (i := 1) (n := 2) (by decide)) dX5_clear_41 (fun H18 lo18 g18 eg18 (hP18 : va_P (dC, dI) vwCl (zW_t_sclear p0 f_p0 p0_count c_p0_count g10 p0_laws o_14 p0_once c_p0_once g18 p0_onceTold c_p0_onceTold b_p0_onceTold) H18) hS18 => ?_)))))
  clear hP17 hS17
  have hr_g18 := q_up' hr_g17 eg18 ⟨by omega, by omega⟩
  refine lv_aload_n hx hb dX5_clear_42 rfl (lv_at hl 1 rfl) (qg_X5_14 hx hb hts i_X5 hown hK hP18 0 rfl k_7 fr_p0_14 dX5_clear_43 (lv_iconst (v := 0) hx hb dX5_clear_46 (by decide) (lv_iconst (v := 0) hx hb dX5_clear_47 (by decide) (q_zst hx hb hK hP18 hDa za_t_sclear hS18 4 2 rfl rfl (p1_in (i := 0) (n := 2) (by decide)) dX5_clear_48 (fun H19 lo19 g19 eg19 (hP19 : va_P (dC, dI) vwCl (zW_t_sclear p0 f_p0 p0_count c_p0_count g10 p0_laws o_14 p0_once c_p0_once g18 p0_onceTold c_p0_onceTold g19) H19) hS19 => ?_)))))
  clear hP18 hS18
  refine lv_aload_n hx hb dX5_clear_49 rfl (lv_at hl 1 rfl) (qg_X5_14 hx hb hts i_X5 hown hK hP19 0 rfl k_7 fr_p0_14 dX5_clear_50 (lv_iconst (v := 1) hx hb dX5_clear_53 (by decide) (lv_iconst (v := 0) hx hb dX5_clear_54 (by decide) (q_zst hx hb hK hP19 hDa za_t_sclear hS19 4 2 rfl rfl (p1_in (i := 1) (n := 2) (by decide)) dX5_clear_55 (fun H20 lo20 g20 eg20 (hP20 : va_P (dC, dI) vwCl (zW_t_sclear p0 f_p0 p0_count c_p0_count g10 p0_laws o_14 p0_once c_p0_once g18 p0_onceTold c_p0_onceTold g20) H20) hS20 => ?_)))))
  clear hP19 hS19
  exact q_vret hx hb hr hlocks hS20 dX5_clear_56 ⟨g10, o_14, g18, g20, hr_g10, ho_15, (q_fr.rf.tr hf_16 (by decide)), hr_g18, hP20, za_t_sclear⟩
def zo_t_ftell : List Cond := [.code yX2_tell cX2_tell 6 (some .int), .fieldLink RX2 32 "BowWalk$Films" "count" "I", .methodLink RX2 36 Lib.Math.min.name, .static Lib.Math.min.name, .initialized "java/lang/Math", .code Lib.Math.min.name Lib.Math.min.code 2 (some .int), .fieldLink RX2 9 "BowWalk$Films" "knot" "[I", .fieldLink RX2 13 "BowWalk$Films" "walk" "[I", .fieldLink RX2 16 "BowWalk$Films" "steps" "[I", .fieldLink RX2 19 "BowWalk$Films" "lets" "[I", .fieldLink RX2 29 "BowWalk$Films" "toldAt" "[I", .fieldLink RX2 22 "BowWalk$Films" "untold" "[Z"]
def zw_t_ftell : List Cond := zo_t_ftell ++ (wsX20 ++ [])
theorem gz_t_ftell : zw_t_ftell.all goodWord = true := p1_ga (by decide +kernel) (p1_ga gk_X2 p1_g0)
theorem iz_t_ftell : ∀ w ∈ zw_t_ftell, w ∈ lw_tbl := p1_ia (p1_all [945, 456, 946, 563, 117, 564, 443, 445, 447, 449, 455, 451] (by decide +kernel)) (p1_ia ik_X2 p1_i0)
def zW_t_ftell (p0 : Nat) (f_p0 : List Value) (p0_knot : Nat) (c_p0_knot : ClassId) (b_p0_knot : Nat → Int32) (p0_lets : Nat) (c_p0_lets : ClassId) (b_p0_lets : Nat → Int32) (p0_steps : Nat) (c_p0_steps : ClassId) (b_p0_steps : Nat → Int32) (p0_toldAt : Nat) (c_p0_toldAt : ClassId) (b_p0_toldAt : Nat → Int32) (p0_untold : Nat) (c_p0_untold : ClassId) (b_p0_untold : Nat → Int32) (p0_walk : Nat) (c_p0_walk : ClassId) (b_p0_walk : Nat → Int32) : va_W := [(p0, .inr (2, f_p0)), (p0_knot, .inl (c_p0_knot, 40, .inl b_p0_knot)), (p0_lets, .inl (c_p0_lets, 40, .inl b_p0_lets)), (p0_steps, .inl (c_p0_steps, 40, .inl b_p0_steps)), (p0_toldAt, .inl (c_p0_toldAt, 40, .inl b_p0_toldAt)), (p0_untold, .inl (c_p0_untold, 40, .inl b_p0_untold)), (p0_walk, .inl (c_p0_walk, 40, .inl b_p0_walk))]
def zT_t_ftell (c_p0_knot : ClassId) (c_p0_lets : ClassId) (c_p0_steps : ClassId) (c_p0_toldAt : ClassId) (c_p0_untold : ClassId) (c_p0_walk : ClassId) : List (ClassId × FieldType) := [(c_p0_knot, .int), (c_p0_lets, .int), (c_p0_steps, .int), (c_p0_toldAt, .int), (c_p0_untold, .boolean), (c_p0_walk, .int)]
def zA_t_ftell (p0 : Nat) (p0_knot : Nat) (p0_lets : Nat) (p0_steps : Nat) (p0_toldAt : Nat) (p0_untold : Nat) (p0_walk : Nat) : List Nat := [p0, p0_knot, p0_lets, p0_steps, p0_toldAt, p0_untold, p0_walk]
theorem za_t_ftell {p0 : Nat} {f_p0 : List Value} {p0_knot : Nat} {c_p0_knot : ClassId} {b_p0_knot : Nat → Int32} {p0_lets : Nat} {c_p0_lets : ClassId} {b_p0_lets : Nat → Int32} {p0_steps : Nat} {c_p0_steps : ClassId} {b_p0_steps : Nat → Int32} {p0_toldAt : Nat} {c_p0_toldAt : ClassId} {b_p0_toldAt : Nat → Int32} {p0_untold : Nat} {c_p0_untold : ClassId} {b_p0_untold : Nat → Int32} {p0_walk : Nat} {c_p0_walk : ClassId} {b_p0_walk : Nat → Int32} : (zW_t_ftell p0 f_p0 p0_knot c_p0_knot b_p0_knot p0_lets c_p0_lets b_p0_lets p0_steps c_p0_steps b_p0_steps p0_toldAt c_p0_toldAt b_p0_toldAt p0_untold c_p0_untold b_p0_untold p0_walk c_p0_walk b_p0_walk).map Prod.fst = (zA_t_ftell p0 p0_knot p0_lets p0_steps p0_toldAt p0_untold p0_walk) := rfl
def zG_t_ftell (p0 : Nat) (f_p0 : List Value) (p0_knot : Nat) (c_p0_knot : ClassId) (b_p0_knot : Nat → Int32) (p0_lets : Nat) (c_p0_lets : ClassId) (b_p0_lets : Nat → Int32) (p0_steps : Nat) (c_p0_steps : ClassId) (b_p0_steps : Nat → Int32) (p0_toldAt : Nat) (c_p0_toldAt : ClassId) (b_p0_toldAt : Nat → Int32) (p0_untold : Nat) (c_p0_untold : ClassId) (b_p0_untold : Nat → Int32) (p0_walk : Nat) (c_p0_walk : ClassId) (b_p0_walk : Nat → Int32) (a1 : Int32) (a2 : Int32) (a3 : Int32) (a4 : Int32) (r : Int32) (X : va_W → Prop) : Prop := ∃ (y_p0 : List Value) (y_p0_knot : Nat → Int32) (y_p0_lets : Nat → Int32) (y_p0_steps : Nat → Int32) (y_p0_toldAt : Nat → Int32) (y_p0_untold : Nat → Int32) (y_p0_walk : Nat → Int32), ((0) ≤ r.toInt ∧ r.toInt ≤ 39) ∧ OKX2 y_p0 ∧ q_fr [7] f_p0 y_p0 ∧ (q_rg 40 (0) 5 y_p0_knot) ∧ (q_rg 40 (0) 500 y_p0_steps) ∧ (q_rg 40 (0) 3 y_p0_walk) ∧ X (zW_t_ftell p0 y_p0 p0_knot c_p0_knot y_p0_knot p0_lets c_p0_lets y_p0_lets p0_steps c_p0_steps y_p0_steps p0_toldAt c_p0_toldAt y_p0_toldAt p0_untold c_p0_untold y_p0_untold p0_walk c_p0_walk y_p0_walk)
theorem zm_t_ftell {p0 : Nat} {f_p0 : List Value} {p0_knot : Nat} {c_p0_knot : ClassId} {b_p0_knot : Nat → Int32} {p0_lets : Nat} {c_p0_lets : ClassId} {b_p0_lets : Nat → Int32} {p0_steps : Nat} {c_p0_steps : ClassId} {b_p0_steps : Nat → Int32} {p0_toldAt : Nat} {c_p0_toldAt : ClassId} {b_p0_toldAt : Nat → Int32} {p0_untold : Nat} {c_p0_untold : ClassId} {b_p0_untold : Nat → Int32} {p0_walk : Nat} {c_p0_walk : ClassId} {b_p0_walk : Nat → Int32} {a1 : Int32} {a2 : Int32} {a3 : Int32} {a4 : Int32} : ∀ (r : Int32), ∀ X Y : va_W → Prop, (∀ w, X w → Y w) → zG_t_ftell p0 f_p0 p0_knot c_p0_knot b_p0_knot p0_lets c_p0_lets b_p0_lets p0_steps c_p0_steps b_p0_steps p0_toldAt c_p0_toldAt b_p0_toldAt p0_untold c_p0_untold b_p0_untold p0_walk c_p0_walk b_p0_walk a1 a2 a3 a4 r X → zG_t_ftell p0 f_p0 p0_knot c_p0_knot b_p0_knot p0_lets c_p0_lets b_p0_lets p0_steps c_p0_steps b_p0_steps p0_toldAt c_p0_toldAt b_p0_toldAt p0_untold c_p0_untold b_p0_untold p0_walk c_p0_walk b_p0_walk a1 a2 a3 a4 r Y := fun r X Y h h1 => by obtain ⟨x0, x1, x2, x3, x4, x5, x6, x7, x8, x9, x10, x11, x12, hx⟩ := h1; exact ⟨x0, x1, x2, x3, x4, x5, x6, x7, x8, x9, x10, x11, x12, h _ hx⟩
set_option maxHeartbeats 4000000 in
set_option maxRecDepth 100000 in
theorem t_ftell (l : Launch) (dC : Nat → ClassId) (dI : Nat → Nat → Nat) (sz : Nat) (p0 : Nat) (f_p0 : List Value) (p0_knot : Nat) (c_p0_knot : ClassId) (b_p0_knot : Nat → Int32) (p0_lets : Nat) (c_p0_lets : ClassId) (b_p0_lets : Nat → Int32) (p0_steps : Nat) (c_p0_steps : ClassId) (b_p0_steps : Nat → Int32) (p0_toldAt : Nat) (c_p0_toldAt : ClassId) (b_p0_toldAt : Nat → Int32) (p0_untold : Nat) (c_p0_untold : ClassId) (b_p0_untold : Nat → Int32) (p0_walk : Nat) (c_p0_walk : ClassId) (b_p0_walk : Nat → Int32) (a1 : Int32) (a2 : Int32) (a3 : Int32) (a4 : Int32) (ho_p0 : OKX2 f_p0) (fr_p0_0 : q_rf f_p0 0 p0_knot) (fr_p0_1 : q_rf f_p0 1 p0_walk) (fr_p0_2 : q_rf f_p0 2 p0_steps) (fr_p0_3 : q_rf f_p0 3 p0_lets) (fr_p0_4 : q_rf f_p0 4 p0_untold) (fr_p0_6 : q_rf f_p0 6 p0_toldAt) (hr_p0_knot : q_rg 40 (0) 5 b_p0_knot) (hr_p0_steps : q_rg 40 (0) 500 b_p0_steps) (hr_p0_walk : q_rg 40 (0) 3 b_p0_walk) (ta1 : (0) ≤ a1.toInt ∧ a1.toInt ≤ 5) (ta2 : (0) ≤ a2.toInt ∧ a2.toInt ≤ 3) (ta3 : (0) ≤ a3.toInt ∧ a3.toInt ≤ 500) : Met l yX2_tell zw_t_ftell ({ frames := 1, cells := 0, slots := 0, locals := 22 }) (va_Pc [.ref p0, .int a1, .int a2, .int a3, .int a4] (q_pre (dC, dI) (zW_t_ftell p0 f_p0 p0_knot c_p0_knot b_p0_knot p0_lets c_p0_lets b_p0_lets p0_steps c_p0_steps b_p0_steps p0_toldAt c_p0_toldAt b_p0_toldAt p0_untold c_p0_untold b_p0_untold p0_walk c_p0_walk b_p0_walk) (zT_t_ftell c_p0_knot c_p0_lets c_p0_steps c_p0_toldAt c_p0_untold c_p0_walk) q_E0 sz)) (q_Qi (dC, dI) (zG_t_ftell p0 f_p0 p0_knot c_p0_knot b_p0_knot p0_lets c_p0_lets b_p0_lets p0_steps c_p0_steps b_p0_steps p0_toldAt c_p0_toldAt b_p0_toldAt p0_untold c_p0_untold b_p0_untold p0_walk c_p0_walk b_p0_walk a1 a2 a3 a4) (zA_t_ftell p0 p0_knot p0_lets p0_steps p0_toldAt p0_untold p0_walk) (va_A (zW_t_ftell p0 f_p0 p0_knot c_p0_knot b_p0_knot p0_lets c_p0_lets b_p0_lets p0_steps c_p0_steps b_p0_steps p0_toldAt c_p0_toldAt b_p0_toldAt p0_untold c_p0_untold b_p0_untold p0_walk c_p0_walk b_p0_walk) sz)) 0 0 (va_A (zW_t_ftell p0 f_p0 p0_knot c_p0_knot b_p0_knot p0_lets c_p0_lets b_p0_lets p0_steps c_p0_steps b_p0_steps p0_toldAt c_p0_toldAt b_p0_toldAt p0_untold c_p0_untold b_p0_untold p0_walk c_p0_walk b_p0_walk) sz) := by
  refine Met.ofW (cc := cX2_tell) (maxL := 6) (ret := (some .int)) (by decide) rfl ?_
  intro p e s m args below meth c s₁ B hml hv
  obtain ⟨rfl, hsz, hP, hK, hD0, hE⟩ := hv
  have hx := B.exec
  have hb := B.bytes
  have hr := B.returns
  have hts := atoms_spec (ws := zw_t_ftell) B.pre
  have hown : s.vm.findClass RX2 = some m.cls := findClass_of_methodNamed B.named
  have hlocks := B.notSynchronized
  subst hsz
  have hD := hD0.self (sz := s.heap.size)
  generalize hAe : va_A (zW_t_ftell p0 f_p0 p0_knot c_p0_knot b_p0_knot p0_lets c_p0_lets b_p0_lets p0_steps c_p0_steps b_p0_steps p0_toldAt c_p0_toldAt b_p0_toldAt p0_untold c_p0_untold b_p0_untold p0_walk c_p0_walk b_p0_walk) s.heap.size = A at hD hE ⊢
  have hA : ∀ q : Nat, s.heap.size ≤ q → A q := fun q h => by rw [← hAe]; exact Or.inr h
  have hDa : q_DA A (zA_t_ftell p0 p0_knot p0_lets p0_steps p0_toldAt p0_untold p0_walk) := q_DA.mk hD za_t_ftell
  clear hAe hD0 hD
  have hS : va_S A s.heap s.heap [] := va_S.rf
  have m_0 : (.fieldLink RX2 32 "BowWalk$Films" "count" "I" : Cond) ∈ zw_t_ftell := List.mem_append_left _ (List.mem_of_getElem? (i := 1) rfl)
  have k_0 := hts _ m_0
  have m_1 : (.methodLink RX2 36 Lib.Math.min.name : Cond) ∈ zw_t_ftell := List.mem_append_left _ (List.mem_of_getElem? (i := 2) rfl)
  have k_1 := hts _ m_1
  have m_2 : (.static Lib.Math.min.name : Cond) ∈ zw_t_ftell := List.mem_append_left _ (List.mem_of_getElem? (i := 3) rfl)
  have k_2 := hts _ m_2
  have m_3 : (.initialized "java/lang/Math" : Cond) ∈ zw_t_ftell := List.mem_append_left _ (List.mem_of_getElem? (i := 4) rfl)
  have k_3 := hts _ m_3
  have m_4 : (.code Lib.Math.min.name Lib.Math.min.code 2 (some .int) : Cond) ∈ zw_t_ftell := List.mem_append_left _ (List.mem_of_getElem? (i := 5) rfl)
  have k_4 := hts _ m_4
  have m_5 : (.fieldLink RX2 9 "BowWalk$Films" "knot" "[I" : Cond) ∈ zw_t_ftell := List.mem_append_left _ (List.mem_of_getElem? (i := 6) rfl)
  have k_5 := hts _ m_5
  have m_6 : (.fieldLink RX2 13 "BowWalk$Films" "walk" "[I" : Cond) ∈ zw_t_ftell := List.mem_append_left _ (List.mem_of_getElem? (i := 7) rfl)
  have k_6 := hts _ m_6
  have m_7 : (.fieldLink RX2 16 "BowWalk$Films" "steps" "[I" : Cond) ∈ zw_t_ftell := List.mem_append_left _ (List.mem_of_getElem? (i := 8) rfl)
  have k_7 := hts _ m_7
  have m_8 : (.fieldLink RX2 19 "BowWalk$Films" "lets" "[I" : Cond) ∈ zw_t_ftell := List.mem_append_left _ (List.mem_of_getElem? (i := 9) rfl)
  have k_8 := hts _ m_8
  have m_9 : (.fieldLink RX2 29 "BowWalk$Films" "toldAt" "[I" : Cond) ∈ zw_t_ftell := List.mem_append_left _ (List.mem_of_getElem? (i := 10) rfl)
  have k_9 := hts _ m_9
  have m_10 : (.fieldLink RX2 22 "BowWalk$Films" "untold" "[Z" : Cond) ∈ zw_t_ftell := List.mem_append_left _ (List.mem_of_getElem? (i := 11) rfl)
  have k_10 := hts _ m_10
  have i_X2 : ∀ w ∈ u_ws RX2 TX2 8, w ∈ zw_t_ftell := fun w h => List.mem_append_right _ (List.mem_append_left _ h)
  have lt_1 : (1 : Int32).toInt = 1 := by decide
  have lt_39 : (39 : Int32).toInt = 39 := by decide
  have hl := lv_entry ([.ref p0, .int a1, .int a2, .int a3, .int a4]) (n := 6) (Nat.le_of_ble_eq_true rfl)
  rw [lg_entry_eq]
  generalize (lg_sl ([.ref p0, .int a1, .int a2, .int a3, .int a4]) ++ List.replicate (6 - (lg_sl ([.ref p0, .int a1, .int a2, .int a3, .int a4])).length) Slot.unset).toArray = ls at hl ⊢
  have hl : lv_has ls 6 [(0, .ref p0), (1, .int a1), (2, .int a2), (3, .int a3), (4, .int a4)] := hl
  refine lv_aload_n hx hb dX2_tell_0 rfl (lv_at hl 0 rfl) ?_
  obtain ⟨v_1, fv_1, tv_1⟩ := OKX2_g7 ho_p0
  refine qg_X2_7 hx hb hts i_X2 hown hK hP 0 rfl k_0 fv_1 dX2_tell_1 (lv_bipush (v := 39) hx hb dX2_tell_4 (by decide) (va_mmin hx hb (by rw [hml]; exact hl.1.symm) hown k_1 k_2 k_3 k_4 (Nat.le_of_ble_eq_true rfl) (Nat.le_of_ble_eq_true rfl) (Nat.le_of_ble_eq_true rfl) (Nat.le_of_ble_eq_true rfl) dX2_tell_6 (lv_topi fun v_2 ev_2 => ?_)))
  have tv_2 := q_min ev_2
  have rv_2 : 0 ≤ v_2.toInt ∧ v_2.toInt ≤ 39 := by omega
  refine lv_istore (lv' := [(5, .int v_2), (0, .ref p0), (1, .int a1), (2, .int a2), (3, .int a3), (4, .int a4)]) hx hb dX2_tell_9 hl (by decide) rfl (fun ls hl => ?_)
  refine lv_aload_n hx hb dX2_tell_11 rfl (lv_at hl 1 rfl) (qg_X2_0 hx hb hts i_X2 hown hK hP 0 rfl k_5 fr_p0_0 dX2_tell_12 (lv_iload hx hb dX2_tell_15 (lv_at hl 0 rfl) (lv_iload_n hx hb dX2_tell_17 rfl (lv_at hl 2 rfl) (q_ist hx hb hK hP hDa za_t_ftell hS 1 0 rfl rfl (q_in (by omega) (by omega)) dX2_tell_18 (fun H3 lo3 g3 eg3 (hP3 : va_P (dC, dI) vwCl (zW_t_ftell p0 f_p0 p0_knot c_p0_knot g3 p0_lets c_p0_lets b_p0_lets p0_steps c_p0_steps b_p0_steps p0_toldAt c_p0_toldAt b_p0_toldAt p0_untold c_p0_untold b_p0_untold p0_walk c_p0_walk b_p0_walk) H3) hS3 => ?_)))))
  clear hP hS
  have hr_g3 := q_up' hr_p0_knot eg3 ⟨by omega, by omega⟩
  refine lv_aload_n hx hb dX2_tell_19 rfl (lv_at hl 1 rfl) (qg_X2_1 hx hb hts i_X2 hown hK hP3 0 rfl k_6 fr_p0_1 dX2_tell_20 (lv_iload hx hb dX2_tell_23 (lv_at hl 0 rfl) (lv_iload_n hx hb dX2_tell_25 rfl (lv_at hl 3 rfl) (q_ist hx hb hK hP3 hDa za_t_ftell hS3 6 5 rfl rfl (q_in (by omega) (by omega)) dX2_tell_26 (fun H4 lo4 g4 eg4 (hP4 : va_P (dC, dI) vwCl (zW_t_ftell p0 f_p0 p0_knot c_p0_knot g3 p0_lets c_p0_lets b_p0_lets p0_steps c_p0_steps b_p0_steps p0_toldAt c_p0_toldAt b_p0_toldAt p0_untold c_p0_untold b_p0_untold p0_walk c_p0_walk g4) H4) hS4 => ?_)))))
  clear hP3 hS3
  have hr_g4 := q_up' hr_p0_walk eg4 ⟨by omega, by omega⟩
  refine lv_aload_n hx hb dX2_tell_27 rfl (lv_at hl 1 rfl) (qg_X2_2 hx hb hts i_X2 hown hK hP4 0 rfl k_7 fr_p0_2 dX2_tell_28 (lv_iload hx hb dX2_tell_31 (lv_at hl 0 rfl) (lv_iload_n hx hb dX2_tell_33 rfl (lv_at hl 4 rfl) (q_ist hx hb hK hP4 hDa za_t_ftell hS4 3 2 rfl rfl (q_in (by omega) (by omega)) dX2_tell_34 (fun H5 lo5 g5 eg5 (hP5 : va_P (dC, dI) vwCl (zW_t_ftell p0 f_p0 p0_knot c_p0_knot g3 p0_lets c_p0_lets b_p0_lets p0_steps c_p0_steps g5 p0_toldAt c_p0_toldAt b_p0_toldAt p0_untold c_p0_untold b_p0_untold p0_walk c_p0_walk g4) H5) hS5 => ?_)))))
  clear hP4 hS4
  have hr_g5 := q_up' hr_p0_steps eg5 ⟨by omega, by omega⟩
  refine lv_aload_n hx hb dX2_tell_35 rfl (lv_at hl 1 rfl) (qg_X2_3 hx hb hts i_X2 hown hK hP5 0 rfl k_8 fr_p0_3 dX2_tell_36 (lv_iload hx hb dX2_tell_39 (lv_at hl 0 rfl) (lv_iconst (v := 0) hx hb dX2_tell_41 (by decide) (q_ist hx hb hK hP5 hDa za_t_ftell hS5 2 1 rfl rfl (q_in (by omega) (by omega)) dX2_tell_42 (fun H6 lo6 g6 eg6 (hP6 : va_P (dC, dI) vwCl (zW_t_ftell p0 f_p0 p0_knot c_p0_knot g3 p0_lets c_p0_lets g6 p0_steps c_p0_steps g5 p0_toldAt c_p0_toldAt b_p0_toldAt p0_untold c_p0_untold b_p0_untold p0_walk c_p0_walk g4) H6) hS6 => ?_)))))
  clear hP5 hS5
  refine lv_aload_n hx hb dX2_tell_43 rfl (lv_at hl 1 rfl) (qg_X2_6 hx hb hts i_X2 hown hK hP6 0 rfl k_9 fr_p0_6 dX2_tell_44 (lv_iload hx hb dX2_tell_47 (lv_at hl 0 rfl) (lv_iload hx hb dX2_tell_49 (lv_at hl 5 rfl) (q_ist hx hb hK hP6 hDa za_t_ftell hS6 4 3 rfl rfl (q_in (by omega) (by omega)) dX2_tell_51 (fun H7 lo7 g7 eg7 (hP7 : va_P (dC, dI) vwCl (zW_t_ftell p0 f_p0 p0_knot c_p0_knot g3 p0_lets c_p0_lets g6 p0_steps c_p0_steps g5 p0_toldAt c_p0_toldAt g7 p0_untold c_p0_untold b_p0_untold p0_walk c_p0_walk g4) H7) hS7 => ?_)))))
  clear hP6 hS6
  refine lv_aload_n hx hb dX2_tell_52 rfl (lv_at hl 1 rfl) (qg_X2_4 hx hb hts i_X2 hown hK hP7 0 rfl k_10 fr_p0_4 dX2_tell_53 (lv_iload hx hb dX2_tell_56 (lv_at hl 0 rfl) (lv_iconst (v := 0) hx hb dX2_tell_58 (by decide) (q_zst hx hb hK hP7 hDa za_t_ftell hS7 5 4 rfl rfl (q_in (by omega) (by omega)) dX2_tell_59 (fun H8 lo8 g8 eg8 (hP8 : va_P (dC, dI) vwCl (zW_t_ftell p0 f_p0 p0_knot c_p0_knot g3 p0_lets c_p0_lets g6 p0_steps c_p0_steps g5 p0_toldAt c_p0_toldAt g7 p0_untold c_p0_untold g8 p0_walk c_p0_walk g4) H8) hS8 => ?_)))))
  clear hP7 hS7
  refine lv_aload_n hx hb dX2_tell_60 rfl (lv_at hl 1 rfl) (lv_iload hx hb dX2_tell_61 (lv_at hl 0 rfl) (lv_iconst (v := 1) hx hb dX2_tell_63 (by decide) (lv_iadd hx hb dX2_tell_64 (lv_topi fun v_9 ev_9 => ?_))))
  have tv_9 := q_add ev_9 (by omega) (by omega)
  refine qp_X2_7 hx hb hts i_X2 hown hK hP8 hDa za_t_ftell hS8 0 rfl k_0 (OKX2_l ho_p0) dX2_tell_65 (fun H10 lo10 fs10 efs10 (hP10 : va_P (dC, dI) vwCl (zW_t_ftell p0 fs10 p0_knot c_p0_knot g3 p0_lets c_p0_lets g6 p0_steps c_p0_steps g5 p0_toldAt c_p0_toldAt g7 p0_untold c_p0_untold g8 p0_walk c_p0_walk g4) H10) hS10 => ?_)
  have ho10 := OKX2_p7 ho_p0 efs10 ⟨by omega, by omega⟩
  clear hP8 hS8
  refine lv_iload hx hb dX2_tell_68 (lv_at hl 0 rfl) ?_
  exact q_iret hx hb hr hlocks hS10 dX2_tell_70 ⟨fs10, g3, g6, g5, g7, g8, g4, (by omega), ho10, (q_fr.rf.st efs10 (by decide)), hr_g3, hr_g5, hr_g4, hP10, za_t_ftell⟩
def zo_t_counts : List Cond := [.code yX2_counts cX2_counts 3 (some .boolean), .fieldLink RX2 29 "BowWalk$Films" "toldAt" "[I", .fieldLink RX2 22 "BowWalk$Films" "untold" "[Z", .fieldLink RX2 26 "BowWalk$Films" "untoldAt" "[I"]
def zw_t_counts : List Cond := zo_t_counts ++ (wsX20 ++ [])
theorem gz_t_counts : zw_t_counts.all goodWord = true := p1_ga (by decide +kernel) (p1_ga gk_X2 p1_g0)
theorem iz_t_counts : ∀ w ∈ zw_t_counts, w ∈ lw_tbl := p1_ia (p1_all [983, 455, 451, 453] (by decide +kernel)) (p1_ia ik_X2 p1_i0)
def zW_t_counts (p0 : Nat) (f_p0 : List Value) (p0_toldAt : Nat) (c_p0_toldAt : ClassId) (b_p0_toldAt : Nat → Int32) (p0_untold : Nat) (c_p0_untold : ClassId) (b_p0_untold : Nat → Int32) (p0_untoldAt : Nat) (c_p0_untoldAt : ClassId) (b_p0_untoldAt : Nat → Int32) : va_W := [(p0, .inr (2, f_p0)), (p0_toldAt, .inl (c_p0_toldAt, 40, .inl b_p0_toldAt)), (p0_untold, .inl (c_p0_untold, 40, .inl b_p0_untold)), (p0_untoldAt, .inl (c_p0_untoldAt, 40, .inl b_p0_untoldAt))]
def zT_t_counts (c_p0_toldAt : ClassId) (c_p0_untold : ClassId) (c_p0_untoldAt : ClassId) : List (ClassId × FieldType) := [(c_p0_toldAt, .int), (c_p0_untold, .boolean), (c_p0_untoldAt, .int)]
def zA_t_counts (p0 : Nat) (p0_toldAt : Nat) (p0_untold : Nat) (p0_untoldAt : Nat) : List Nat := [p0, p0_toldAt, p0_untold, p0_untoldAt]
theorem za_t_counts {p0 : Nat} {f_p0 : List Value} {p0_toldAt : Nat} {c_p0_toldAt : ClassId} {b_p0_toldAt : Nat → Int32} {p0_untold : Nat} {c_p0_untold : ClassId} {b_p0_untold : Nat → Int32} {p0_untoldAt : Nat} {c_p0_untoldAt : ClassId} {b_p0_untoldAt : Nat → Int32} : (zW_t_counts p0 f_p0 p0_toldAt c_p0_toldAt b_p0_toldAt p0_untold c_p0_untold b_p0_untold p0_untoldAt c_p0_untoldAt b_p0_untoldAt).map Prod.fst = (zA_t_counts p0 p0_toldAt p0_untold p0_untoldAt) := rfl
def zG_t_counts (p0 : Nat) (f_p0 : List Value) (p0_toldAt : Nat) (c_p0_toldAt : ClassId) (b_p0_toldAt : Nat → Int32) (p0_untold : Nat) (c_p0_untold : ClassId) (b_p0_untold : Nat → Int32) (p0_untoldAt : Nat) (c_p0_untoldAt : ClassId) (b_p0_untoldAt : Nat → Int32) (a1 : Int32) (a2 : Int32) (r : Int32) (X : va_W → Prop) : Prop := ((r = 1 ∧ (True)) ∨ (r = 0 ∧ (True))) ∧ X (zW_t_counts p0 f_p0 p0_toldAt c_p0_toldAt b_p0_toldAt p0_untold c_p0_untold b_p0_untold p0_untoldAt c_p0_untoldAt b_p0_untoldAt)
theorem zm_t_counts {p0 : Nat} {f_p0 : List Value} {p0_toldAt : Nat} {c_p0_toldAt : ClassId} {b_p0_toldAt : Nat → Int32} {p0_untold : Nat} {c_p0_untold : ClassId} {b_p0_untold : Nat → Int32} {p0_untoldAt : Nat} {c_p0_untoldAt : ClassId} {b_p0_untoldAt : Nat → Int32} {a1 : Int32} {a2 : Int32} : ∀ (r : Int32), ∀ X Y : va_W → Prop, (∀ w, X w → Y w) → zG_t_counts p0 f_p0 p0_toldAt c_p0_toldAt b_p0_toldAt p0_untold c_p0_untold b_p0_untold p0_untoldAt c_p0_untoldAt b_p0_untoldAt a1 a2 r X → zG_t_counts p0 f_p0 p0_toldAt c_p0_toldAt b_p0_toldAt p0_untold c_p0_untold b_p0_untold p0_untoldAt c_p0_untoldAt b_p0_untoldAt a1 a2 r Y := fun r X Y h h1 => by obtain ⟨x0, hx⟩ := h1; exact ⟨x0, h _ hx⟩
set_option maxHeartbeats 4000000 in
set_option maxRecDepth 100000 in
theorem t_counts (l : Launch) (dC : Nat → ClassId) (dI : Nat → Nat → Nat) (sz : Nat) (p0 : Nat) (f_p0 : List Value) (p0_toldAt : Nat) (c_p0_toldAt : ClassId) (b_p0_toldAt : Nat → Int32) (p0_untold : Nat) (c_p0_untold : ClassId) (b_p0_untold : Nat → Int32) (p0_untoldAt : Nat) (c_p0_untoldAt : ClassId) (b_p0_untoldAt : Nat → Int32) (a1 : Int32) (a2 : Int32) (ho_p0 : OKX2 f_p0) (fr_p0_4 : q_rf f_p0 4 p0_untold) (fr_p0_5 : q_rf f_p0 5 p0_untoldAt) (fr_p0_6 : q_rf f_p0 6 p0_toldAt) (ta1 : (0) ≤ a1.toInt ∧ a1.toInt ≤ 39) : Met l yX2_counts zw_t_counts ({ frames := 0, cells := 0, slots := 0, locals := 0 }) (va_Pc [.ref p0, .int a1, .int a2] (q_pre (dC, dI) (zW_t_counts p0 f_p0 p0_toldAt c_p0_toldAt b_p0_toldAt p0_untold c_p0_untold b_p0_untold p0_untoldAt c_p0_untoldAt b_p0_untoldAt) (zT_t_counts c_p0_toldAt c_p0_untold c_p0_untoldAt) q_E0 sz)) (q_Qi (dC, dI) (zG_t_counts p0 f_p0 p0_toldAt c_p0_toldAt b_p0_toldAt p0_untold c_p0_untold b_p0_untold p0_untoldAt c_p0_untoldAt b_p0_untoldAt a1 a2) (zA_t_counts p0 p0_toldAt p0_untold p0_untoldAt) (va_A (zW_t_counts p0 f_p0 p0_toldAt c_p0_toldAt b_p0_toldAt p0_untold c_p0_untold b_p0_untold p0_untoldAt c_p0_untoldAt b_p0_untoldAt) sz)) 0 0 (va_A (zW_t_counts p0 f_p0 p0_toldAt c_p0_toldAt b_p0_toldAt p0_untold c_p0_untold b_p0_untold p0_untoldAt c_p0_untoldAt b_p0_untoldAt) sz) := by
  refine Met.ofW (cc := cX2_counts) (maxL := 3) (ret := (some .boolean)) (by decide) rfl ?_
  intro p e s m args below meth c s₁ B hml hv
  obtain ⟨rfl, hsz, hP, hK, hD0, hE⟩ := hv
  have hx := B.exec
  have hb := B.bytes
  have hr := B.returns
  have hts := atoms_spec (ws := zw_t_counts) B.pre
  have hown : s.vm.findClass RX2 = some m.cls := findClass_of_methodNamed B.named
  have hlocks := B.notSynchronized
  subst hsz
  have hD := hD0.self (sz := s.heap.size)
  generalize hAe : va_A (zW_t_counts p0 f_p0 p0_toldAt c_p0_toldAt b_p0_toldAt p0_untold c_p0_untold b_p0_untold p0_untoldAt c_p0_untoldAt b_p0_untoldAt) s.heap.size = A at hD hE ⊢
  have hA : ∀ q : Nat, s.heap.size ≤ q → A q := fun q h => by rw [← hAe]; exact Or.inr h
  have hDa : q_DA A (zA_t_counts p0 p0_toldAt p0_untold p0_untoldAt) := q_DA.mk hD za_t_counts
  clear hAe hD0 hD
  have hS : va_S A s.heap s.heap [] := va_S.rf
  have m_0 : (.fieldLink RX2 29 "BowWalk$Films" "toldAt" "[I" : Cond) ∈ zw_t_counts := List.mem_append_left _ (List.mem_of_getElem? (i := 1) rfl)
  have k_0 := hts _ m_0
  have m_1 : (.fieldLink RX2 22 "BowWalk$Films" "untold" "[Z" : Cond) ∈ zw_t_counts := List.mem_append_left _ (List.mem_of_getElem? (i := 2) rfl)
  have k_1 := hts _ m_1
  have m_2 : (.fieldLink RX2 26 "BowWalk$Films" "untoldAt" "[I" : Cond) ∈ zw_t_counts := List.mem_append_left _ (List.mem_of_getElem? (i := 3) rfl)
  have k_2 := hts _ m_2
  have i_X2 : ∀ w ∈ u_ws RX2 TX2 8, w ∈ zw_t_counts := fun w h => List.mem_append_right _ (List.mem_append_left _ h)
  have lt_0 : (0 : Int32).toInt = 0 := by decide
  have lt_1 : (1 : Int32).toInt = 1 := by decide
  have hl := lv_entry ([.ref p0, .int a1, .int a2]) (n := 3) (Nat.le_of_ble_eq_true rfl)
  rw [lg_entry_eq]
  generalize (lg_sl ([.ref p0, .int a1, .int a2]) ++ List.replicate (3 - (lg_sl ([.ref p0, .int a1, .int a2])).length) Slot.unset).toArray = ls at hl ⊢
  have hl : lv_has ls 3 [(0, .ref p0), (1, .int a1), (2, .int a2)] := hl
  refine lv_aload_n hx hb dX2_counts_0 rfl (lv_at hl 0 rfl) (qg_X2_6 hx hb hts i_X2 hown hK hP 0 rfl k_0 fr_p0_6 dX2_counts_1 (lv_iload_n hx hb dX2_counts_4 rfl (lv_at hl 1 rfl) (q_ild hx hb hK hP 1 0 rfl rfl (q_in (by omega) (by omega)) dX2_counts_5 (fun v_1 ev_1 => ?_))))
  refine lv_iload_n hx hb dX2_counts_6 rfl (lv_at hl 2 rfl) ?_
  refine lv_icmp_gt (tgt := 33) hx hb dX2_counts_7 (by decide) (fun c_2 => ?_) (fun c_2 => ?_)
  · have tc_2 := q_gt c_2
    refine lv_iconst (v := 0) hx hb dX2_counts_33 (by decide) ?_
    exact q_zret hx hb hr hlocks (by decide) hS dX2_counts_34 ⟨(Or.inr ⟨rfl, by first | trivial | omega⟩), hP, za_t_counts⟩
  · have tc_2 := q_leN c_2
    refine lv_aload_n hx hb dX2_counts_10 rfl (lv_at hl 0 rfl) (qg_X2_4 hx hb hts i_X2 hown hK hP 0 rfl k_1 fr_p0_4 dX2_counts_11 (lv_iload_n hx hb dX2_counts_14 rfl (lv_at hl 1 rfl) (q_zld hx hb hK hP 2 1 rfl rfl (q_in (by omega) (by omega)) dX2_counts_15 (fun v_3 ev_3 => ?_))))
    refine lv_if_eq (tgt := 29) hx hb dX2_counts_16 (by decide) (fun c_4 => ?_) (fun c_4 => ?_)
    · have tc_4 := q_eq c_4
      refine lv_iconst (v := 1) hx hb dX2_counts_29 (by decide) (lv_goto (tgt := 34) hx hb dX2_counts_30 (by decide) ?_)
      exact q_zret hx hb hr hlocks (by decide) hS dX2_counts_34 ⟨(Or.inl ⟨rfl, by first | trivial | omega⟩), hP, za_t_counts⟩
    · have tc_4 := q_neN c_4
      refine lv_aload_n hx hb dX2_counts_19 rfl (lv_at hl 0 rfl) (qg_X2_5 hx hb hts i_X2 hown hK hP 0 rfl k_2 fr_p0_5 dX2_counts_20 (lv_iload_n hx hb dX2_counts_23 rfl (lv_at hl 1 rfl) (q_ild hx hb hK hP 3 2 rfl rfl (q_in (by omega) (by omega)) dX2_counts_24 (fun v_5 ev_5 => ?_))))
      refine lv_iload_n hx hb dX2_counts_25 rfl (lv_at hl 2 rfl) ?_
      refine lv_icmp_le (tgt := 33) hx hb dX2_counts_26 (by decide) (fun c_6 => ?_) (fun c_6 => ?_)
      · have tc_6 := q_le c_6
        refine lv_iconst (v := 0) hx hb dX2_counts_33 (by decide) ?_
        exact q_zret hx hb hr hlocks (by decide) hS dX2_counts_34 ⟨(Or.inr ⟨rfl, by first | trivial | omega⟩), hP, za_t_counts⟩
      · have tc_6 := q_gtN c_6
        refine lv_iconst (v := 1) hx hb dX2_counts_29 (by decide) (lv_goto (tgt := 34) hx hb dX2_counts_30 (by decide) ?_)
        exact q_zret hx hb hr hlocks (by decide) hS dX2_counts_34 ⟨(Or.inl ⟨rfl, by first | trivial | omega⟩), hP, za_t_counts⟩
def zo_t_takeWalk : List Cond := [.code yX7_takeWalk cX7_takeWalk 4 none, .fieldLink RX7 37 "BowWalk$Shop" "steps" "[I", .fieldLink RX7 31 "BowWalk$Trial" "walkSteps" "I", .fieldLink RX7 20 "BowWalk$Trial" "strikes" "[I", .fieldLink RX7 40 "BowWalk$Shop" "strikes" "[[I", .fieldLink RX7 24 "BowWalk$Trial" "swings" "[I", .fieldLink RX7 43 "BowWalk$Shop" "swings" "[[I"]
def zw_t_takeWalk : List Cond := zo_t_takeWalk ++ (wsX50 ++ (wsX70 ++ []))
theorem gz_t_takeWalk : zw_t_takeWalk.all goodWord = true := p1_ga (by decide +kernel) (p1_ga gk_X5 (p1_ga gk_X7 p1_g0))
theorem iz_t_takeWalk : ∀ w ∈ zw_t_takeWalk, w ∈ lw_tbl := p1_ia (p1_all [834, 195, 422, 416, 199, 418, 203] (by decide +kernel)) (p1_ia ik_X5 (p1_ia ik_X7 p1_i0))
def zW_t_takeWalk (p0 : Nat) (f_p0 : List Value) (p0_strikes : Nat) (c_p0_strikes : ClassId) (b_p0_strikes : Nat → Int32) (p0_swings : Nat) (c_p0_swings : ClassId) (b_p0_swings : Nat → Int32) (p1 : Nat) (f_p1 : List Value) (p1_steps : Nat) (c_p1_steps : ClassId) (b_p1_steps : Nat → Int32) (p1_strikes : Nat) (c_p1_strikes : ClassId) (b_p1_strikes : Nat → Option Nat) (p1_strikes_0 : Nat) (c_p1_strikes_0 : ClassId) (b_p1_strikes_0 : Nat → Int32) (p1_strikes_1 : Nat) (c_p1_strikes_1 : ClassId) (b_p1_strikes_1 : Nat → Int32) (p1_strikes_2 : Nat) (c_p1_strikes_2 : ClassId) (b_p1_strikes_2 : Nat → Int32) (p1_strikes_3 : Nat) (c_p1_strikes_3 : ClassId) (b_p1_strikes_3 : Nat → Int32) (p1_swings : Nat) (c_p1_swings : ClassId) (b_p1_swings : Nat → Option Nat) (p1_swings_0 : Nat) (c_p1_swings_0 : ClassId) (b_p1_swings_0 : Nat → Int32) (p1_swings_1 : Nat) (c_p1_swings_1 : ClassId) (b_p1_swings_1 : Nat → Int32) (p1_swings_2 : Nat) (c_p1_swings_2 : ClassId) (b_p1_swings_2 : Nat → Int32) (p1_swings_3 : Nat) (c_p1_swings_3 : ClassId) (b_p1_swings_3 : Nat → Int32) : va_W := [(p0, .inr (6, f_p0)), (p0_strikes, .inl (c_p0_strikes, 8, .inl b_p0_strikes)), (p0_swings, .inl (c_p0_swings, 8, .inl b_p0_swings)), (p1, .inr (5, f_p1)), (p1_steps, .inl (c_p1_steps, 4, .inl b_p1_steps)), (p1_strikes, .inl (c_p1_strikes, 4, .inr (.inr (.inr (.inr b_p1_strikes))))), (p1_strikes_0, .inl (c_p1_strikes_0, 8, .inl b_p1_strikes_0)), (p1_strikes_1, .inl (c_p1_strikes_1, 8, .inl b_p1_strikes_1)), (p1_strikes_2, .inl (c_p1_strikes_2, 8, .inl b_p1_strikes_2)), (p1_strikes_3, .inl (c_p1_strikes_3, 8, .inl b_p1_strikes_3)), (p1_swings, .inl (c_p1_swings, 4, .inr (.inr (.inr (.inr b_p1_swings))))), (p1_swings_0, .inl (c_p1_swings_0, 8, .inl b_p1_swings_0)), (p1_swings_1, .inl (c_p1_swings_1, 8, .inl b_p1_swings_1)), (p1_swings_2, .inl (c_p1_swings_2, 8, .inl b_p1_swings_2)), (p1_swings_3, .inl (c_p1_swings_3, 8, .inl b_p1_swings_3))]
def zT_t_takeWalk (c_p0_strikes : ClassId) (c_p0_swings : ClassId) (c_p1_steps : ClassId) (c_p1_strikes : ClassId) (c_p1_strikes_0 : ClassId) (c_p1_strikes_1 : ClassId) (c_p1_strikes_2 : ClassId) (c_p1_strikes_3 : ClassId) (c_p1_swings : ClassId) (c_p1_swings_0 : ClassId) (c_p1_swings_1 : ClassId) (c_p1_swings_2 : ClassId) (c_p1_swings_3 : ClassId) : List (ClassId × FieldType) := [(c_p0_strikes, .int), (c_p0_swings, .int), (c_p1_steps, .int), (c_p1_strikes, .array .int), (c_p1_strikes_0, .int), (c_p1_strikes_1, .int), (c_p1_strikes_2, .int), (c_p1_strikes_3, .int), (c_p1_swings, .array .int), (c_p1_swings_0, .int), (c_p1_swings_1, .int), (c_p1_swings_2, .int), (c_p1_swings_3, .int)]
def zA_t_takeWalk (p0 : Nat) (p0_strikes : Nat) (p0_swings : Nat) (p1 : Nat) (p1_steps : Nat) (p1_strikes : Nat) (p1_strikes_0 : Nat) (p1_strikes_1 : Nat) (p1_strikes_2 : Nat) (p1_strikes_3 : Nat) (p1_swings : Nat) (p1_swings_0 : Nat) (p1_swings_1 : Nat) (p1_swings_2 : Nat) (p1_swings_3 : Nat) : List Nat := [p0, p0_strikes, p0_swings, p1, p1_steps, p1_strikes, p1_strikes_0, p1_strikes_1, p1_strikes_2, p1_strikes_3, p1_swings, p1_swings_0, p1_swings_1, p1_swings_2, p1_swings_3]
theorem za_t_takeWalk {p0 : Nat} {f_p0 : List Value} {p0_strikes : Nat} {c_p0_strikes : ClassId} {b_p0_strikes : Nat → Int32} {p0_swings : Nat} {c_p0_swings : ClassId} {b_p0_swings : Nat → Int32} {p1 : Nat} {f_p1 : List Value} {p1_steps : Nat} {c_p1_steps : ClassId} {b_p1_steps : Nat → Int32} {p1_strikes : Nat} {c_p1_strikes : ClassId} {b_p1_strikes : Nat → Option Nat} {p1_strikes_0 : Nat} {c_p1_strikes_0 : ClassId} {b_p1_strikes_0 : Nat → Int32} {p1_strikes_1 : Nat} {c_p1_strikes_1 : ClassId} {b_p1_strikes_1 : Nat → Int32} {p1_strikes_2 : Nat} {c_p1_strikes_2 : ClassId} {b_p1_strikes_2 : Nat → Int32} {p1_strikes_3 : Nat} {c_p1_strikes_3 : ClassId} {b_p1_strikes_3 : Nat → Int32} {p1_swings : Nat} {c_p1_swings : ClassId} {b_p1_swings : Nat → Option Nat} {p1_swings_0 : Nat} {c_p1_swings_0 : ClassId} {b_p1_swings_0 : Nat → Int32} {p1_swings_1 : Nat} {c_p1_swings_1 : ClassId} {b_p1_swings_1 : Nat → Int32} {p1_swings_2 : Nat} {c_p1_swings_2 : ClassId} {b_p1_swings_2 : Nat → Int32} {p1_swings_3 : Nat} {c_p1_swings_3 : ClassId} {b_p1_swings_3 : Nat → Int32} : (zW_t_takeWalk p0 f_p0 p0_strikes c_p0_strikes b_p0_strikes p0_swings c_p0_swings b_p0_swings p1 f_p1 p1_steps c_p1_steps b_p1_steps p1_strikes c_p1_strikes b_p1_strikes p1_strikes_0 c_p1_strikes_0 b_p1_strikes_0 p1_strikes_1 c_p1_strikes_1 b_p1_strikes_1 p1_strikes_2 c_p1_strikes_2 b_p1_strikes_2 p1_strikes_3 c_p1_strikes_3 b_p1_strikes_3 p1_swings c_p1_swings b_p1_swings p1_swings_0 c_p1_swings_0 b_p1_swings_0 p1_swings_1 c_p1_swings_1 b_p1_swings_1 p1_swings_2 c_p1_swings_2 b_p1_swings_2 p1_swings_3 c_p1_swings_3 b_p1_swings_3).map Prod.fst = (zA_t_takeWalk p0 p0_strikes p0_swings p1 p1_steps p1_strikes p1_strikes_0 p1_strikes_1 p1_strikes_2 p1_strikes_3 p1_swings p1_swings_0 p1_swings_1 p1_swings_2 p1_swings_3) := rfl
def zG_t_takeWalk (p0 : Nat) (f_p0 : List Value) (p0_strikes : Nat) (c_p0_strikes : ClassId) (b_p0_strikes : Nat → Int32) (p0_swings : Nat) (c_p0_swings : ClassId) (b_p0_swings : Nat → Int32) (p1 : Nat) (f_p1 : List Value) (p1_steps : Nat) (c_p1_steps : ClassId) (b_p1_steps : Nat → Int32) (p1_strikes : Nat) (c_p1_strikes : ClassId) (b_p1_strikes : Nat → Option Nat) (p1_strikes_0 : Nat) (c_p1_strikes_0 : ClassId) (b_p1_strikes_0 : Nat → Int32) (p1_strikes_1 : Nat) (c_p1_strikes_1 : ClassId) (b_p1_strikes_1 : Nat → Int32) (p1_strikes_2 : Nat) (c_p1_strikes_2 : ClassId) (b_p1_strikes_2 : Nat → Int32) (p1_strikes_3 : Nat) (c_p1_strikes_3 : ClassId) (b_p1_strikes_3 : Nat → Int32) (p1_swings : Nat) (c_p1_swings : ClassId) (b_p1_swings : Nat → Option Nat) (p1_swings_0 : Nat) (c_p1_swings_0 : ClassId) (b_p1_swings_0 : Nat → Int32) (p1_swings_1 : Nat) (c_p1_swings_1 : ClassId) (b_p1_swings_1 : Nat → Int32) (p1_swings_2 : Nat) (c_p1_swings_2 : ClassId) (b_p1_swings_2 : Nat → Int32) (p1_swings_3 : Nat) (c_p1_swings_3 : ClassId) (b_p1_swings_3 : Nat → Int32) (a2 : Int32) (X : va_W → Prop) : Prop := ∃ (y_p0 : List Value) (y_p0_strikes : Nat → Int32) (y_p0_swings : Nat → Int32), OKX7 y_p0 ∧ q_fr [4] f_p0 y_p0 ∧ (q_rg 8 (0) 99 y_p0_strikes) ∧ (q_rg 8 (0) 99 y_p0_swings) ∧ X (zW_t_takeWalk p0 y_p0 p0_strikes c_p0_strikes y_p0_strikes p0_swings c_p0_swings y_p0_swings p1 f_p1 p1_steps c_p1_steps b_p1_steps p1_strikes c_p1_strikes b_p1_strikes p1_strikes_0 c_p1_strikes_0 b_p1_strikes_0 p1_strikes_1 c_p1_strikes_1 b_p1_strikes_1 p1_strikes_2 c_p1_strikes_2 b_p1_strikes_2 p1_strikes_3 c_p1_strikes_3 b_p1_strikes_3 p1_swings c_p1_swings b_p1_swings p1_swings_0 c_p1_swings_0 b_p1_swings_0 p1_swings_1 c_p1_swings_1 b_p1_swings_1 p1_swings_2 c_p1_swings_2 b_p1_swings_2 p1_swings_3 c_p1_swings_3 b_p1_swings_3)
theorem zm_t_takeWalk {p0 : Nat} {f_p0 : List Value} {p0_strikes : Nat} {c_p0_strikes : ClassId} {b_p0_strikes : Nat → Int32} {p0_swings : Nat} {c_p0_swings : ClassId} {b_p0_swings : Nat → Int32} {p1 : Nat} {f_p1 : List Value} {p1_steps : Nat} {c_p1_steps : ClassId} {b_p1_steps : Nat → Int32} {p1_strikes : Nat} {c_p1_strikes : ClassId} {b_p1_strikes : Nat → Option Nat} {p1_strikes_0 : Nat} {c_p1_strikes_0 : ClassId} {b_p1_strikes_0 : Nat → Int32} {p1_strikes_1 : Nat} {c_p1_strikes_1 : ClassId} {b_p1_strikes_1 : Nat → Int32} {p1_strikes_2 : Nat} {c_p1_strikes_2 : ClassId} {b_p1_strikes_2 : Nat → Int32} {p1_strikes_3 : Nat} {c_p1_strikes_3 : ClassId} {b_p1_strikes_3 : Nat → Int32} {p1_swings : Nat} {c_p1_swings : ClassId} {b_p1_swings : Nat → Option Nat} {p1_swings_0 : Nat} {c_p1_swings_0 : ClassId} {b_p1_swings_0 : Nat → Int32} {p1_swings_1 : Nat} {c_p1_swings_1 : ClassId} {b_p1_swings_1 : Nat → Int32} {p1_swings_2 : Nat} {c_p1_swings_2 : ClassId} {b_p1_swings_2 : Nat → Int32} {p1_swings_3 : Nat} {c_p1_swings_3 : ClassId} {b_p1_swings_3 : Nat → Int32} {a2 : Int32} : ∀ X Y : va_W → Prop, (∀ w, X w → Y w) → zG_t_takeWalk p0 f_p0 p0_strikes c_p0_strikes b_p0_strikes p0_swings c_p0_swings b_p0_swings p1 f_p1 p1_steps c_p1_steps b_p1_steps p1_strikes c_p1_strikes b_p1_strikes p1_strikes_0 c_p1_strikes_0 b_p1_strikes_0 p1_strikes_1 c_p1_strikes_1 b_p1_strikes_1 p1_strikes_2 c_p1_strikes_2 b_p1_strikes_2 p1_strikes_3 c_p1_strikes_3 b_p1_strikes_3 p1_swings c_p1_swings b_p1_swings p1_swings_0 c_p1_swings_0 b_p1_swings_0 p1_swings_1 c_p1_swings_1 b_p1_swings_1 p1_swings_2 c_p1_swings_2 b_p1_swings_2 p1_swings_3 c_p1_swings_3 b_p1_swings_3 a2 X → zG_t_takeWalk p0 f_p0 p0_strikes c_p0_strikes b_p0_strikes p0_swings c_p0_swings b_p0_swings p1 f_p1 p1_steps c_p1_steps b_p1_steps p1_strikes c_p1_strikes b_p1_strikes p1_strikes_0 c_p1_strikes_0 b_p1_strikes_0 p1_strikes_1 c_p1_strikes_1 b_p1_strikes_1 p1_strikes_2 c_p1_strikes_2 b_p1_strikes_2 p1_strikes_3 c_p1_strikes_3 b_p1_strikes_3 p1_swings c_p1_swings b_p1_swings p1_swings_0 c_p1_swings_0 b_p1_swings_0 p1_swings_1 c_p1_swings_1 b_p1_swings_1 p1_swings_2 c_p1_swings_2 b_p1_swings_2 p1_swings_3 c_p1_swings_3 b_p1_swings_3 a2 Y := fun X Y h h1 => by obtain ⟨x0, x1, x2, x3, x4, x5, x6, hx⟩ := h1; exact ⟨x0, x1, x2, x3, x4, x5, x6, h _ hx⟩
set_option maxHeartbeats 4000000 in
set_option maxRecDepth 100000 in
theorem t_takeWalk (l : Launch) (dC : Nat → ClassId) (dI : Nat → Nat → Nat) (sz : Nat) (p0 : Nat) (f_p0 : List Value) (p0_strikes : Nat) (c_p0_strikes : ClassId) (b_p0_strikes : Nat → Int32) (p0_swings : Nat) (c_p0_swings : ClassId) (b_p0_swings : Nat → Int32) (p1 : Nat) (f_p1 : List Value) (p1_steps : Nat) (c_p1_steps : ClassId) (b_p1_steps : Nat → Int32) (p1_strikes : Nat) (c_p1_strikes : ClassId) (b_p1_strikes : Nat → Option Nat) (p1_strikes_0 : Nat) (c_p1_strikes_0 : ClassId) (b_p1_strikes_0 : Nat → Int32) (p1_strikes_1 : Nat) (c_p1_strikes_1 : ClassId) (b_p1_strikes_1 : Nat → Int32) (p1_strikes_2 : Nat) (c_p1_strikes_2 : ClassId) (b_p1_strikes_2 : Nat → Int32) (p1_strikes_3 : Nat) (c_p1_strikes_3 : ClassId) (b_p1_strikes_3 : Nat → Int32) (p1_swings : Nat) (c_p1_swings : ClassId) (b_p1_swings : Nat → Option Nat) (p1_swings_0 : Nat) (c_p1_swings_0 : ClassId) (b_p1_swings_0 : Nat → Int32) (p1_swings_1 : Nat) (c_p1_swings_1 : ClassId) (b_p1_swings_1 : Nat → Int32) (p1_swings_2 : Nat) (c_p1_swings_2 : ClassId) (b_p1_swings_2 : Nat → Int32) (p1_swings_3 : Nat) (c_p1_swings_3 : ClassId) (b_p1_swings_3 : Nat → Int32) (a2 : Int32) (ho_p0 : OKX7 f_p0) (fr_p0_1 : q_rf f_p0 1 p0_strikes) (fr_p0_2 : q_rf f_p0 2 p0_swings) (hr_p0_strikes : q_rg 8 (0) 99 b_p0_strikes) (hr_p0_swings : q_rg 8 (0) 99 b_p0_swings) (ho_p1 : OKX5 f_p1) (fr_p1_7 : q_rf f_p1 7 p1_steps) (fr_p1_8 : q_rf f_p1 8 p1_strikes) (fr_p1_9 : q_rf f_p1 9 p1_swings) (hr_p1_steps : q_rg 4 (0) 8 b_p1_steps) (hn_p1_strikes_0 : b_p1_strikes 0 = some p1_strikes_0) (hn_p1_strikes_1 : b_p1_strikes 1 = some p1_strikes_1) (hn_p1_strikes_2 : b_p1_strikes 2 = some p1_strikes_2) (hn_p1_strikes_3 : b_p1_strikes 3 = some p1_strikes_3) (hr_p1_strikes_0 : q_rg 8 (0) 99 b_p1_strikes_0) (hr_p1_strikes_1 : q_rg 8 (0) 99 b_p1_strikes_1) (hr_p1_strikes_2 : q_rg 8 (0) 99 b_p1_strikes_2) (hr_p1_strikes_3 : q_rg 8 (0) 99 b_p1_strikes_3) (hn_p1_swings_0 : b_p1_swings 0 = some p1_swings_0) (hn_p1_swings_1 : b_p1_swings 1 = some p1_swings_1) (hn_p1_swings_2 : b_p1_swings 2 = some p1_swings_2) (hn_p1_swings_3 : b_p1_swings 3 = some p1_swings_3) (hr_p1_swings_0 : q_rg 8 (0) 99 b_p1_swings_0) (hr_p1_swings_1 : q_rg 8 (0) 99 b_p1_swings_1) (hr_p1_swings_2 : q_rg 8 (0) 99 b_p1_swings_2) (hr_p1_swings_3 : q_rg 8 (0) 99 b_p1_swings_3) (ta2 : (0) ≤ a2.toInt ∧ a2.toInt ≤ 3) : Met l yX7_takeWalk zw_t_takeWalk ({ frames := 0, cells := 0, slots := 0, locals := 0 }) (va_Pc [.ref p0, .ref p1, .int a2] (q_pre (dC, dI) (zW_t_takeWalk p0 f_p0 p0_strikes c_p0_strikes b_p0_strikes p0_swings c_p0_swings b_p0_swings p1 f_p1 p1_steps c_p1_steps b_p1_steps p1_strikes c_p1_strikes b_p1_strikes p1_strikes_0 c_p1_strikes_0 b_p1_strikes_0 p1_strikes_1 c_p1_strikes_1 b_p1_strikes_1 p1_strikes_2 c_p1_strikes_2 b_p1_strikes_2 p1_strikes_3 c_p1_strikes_3 b_p1_strikes_3 p1_swings c_p1_swings b_p1_swings p1_swings_0 c_p1_swings_0 b_p1_swings_0 p1_swings_1 c_p1_swings_1 b_p1_swings_1 p1_swings_2 c_p1_swings_2 b_p1_swings_2 p1_swings_3 c_p1_swings_3 b_p1_swings_3) (zT_t_takeWalk c_p0_strikes c_p0_swings c_p1_steps c_p1_strikes c_p1_strikes_0 c_p1_strikes_1 c_p1_strikes_2 c_p1_strikes_3 c_p1_swings c_p1_swings_0 c_p1_swings_1 c_p1_swings_2 c_p1_swings_3) q_E0 sz)) (q_Qv (dC, dI) (zG_t_takeWalk p0 f_p0 p0_strikes c_p0_strikes b_p0_strikes p0_swings c_p0_swings b_p0_swings p1 f_p1 p1_steps c_p1_steps b_p1_steps p1_strikes c_p1_strikes b_p1_strikes p1_strikes_0 c_p1_strikes_0 b_p1_strikes_0 p1_strikes_1 c_p1_strikes_1 b_p1_strikes_1 p1_strikes_2 c_p1_strikes_2 b_p1_strikes_2 p1_strikes_3 c_p1_strikes_3 b_p1_strikes_3 p1_swings c_p1_swings b_p1_swings p1_swings_0 c_p1_swings_0 b_p1_swings_0 p1_swings_1 c_p1_swings_1 b_p1_swings_1 p1_swings_2 c_p1_swings_2 b_p1_swings_2 p1_swings_3 c_p1_swings_3 b_p1_swings_3 a2) (zA_t_takeWalk p0 p0_strikes p0_swings p1 p1_steps p1_strikes p1_strikes_0 p1_strikes_1 p1_strikes_2 p1_strikes_3 p1_swings p1_swings_0 p1_swings_1 p1_swings_2 p1_swings_3) (va_A (zW_t_takeWalk p0 f_p0 p0_strikes c_p0_strikes b_p0_strikes p0_swings c_p0_swings b_p0_swings p1 f_p1 p1_steps c_p1_steps b_p1_steps p1_strikes c_p1_strikes b_p1_strikes p1_strikes_0 c_p1_strikes_0 b_p1_strikes_0 p1_strikes_1 c_p1_strikes_1 b_p1_strikes_1 p1_strikes_2 c_p1_strikes_2 b_p1_strikes_2 p1_strikes_3 c_p1_strikes_3 b_p1_strikes_3 p1_swings c_p1_swings b_p1_swings p1_swings_0 c_p1_swings_0 b_p1_swings_0 p1_swings_1 c_p1_swings_1 b_p1_swings_1 p1_swings_2 c_p1_swings_2 b_p1_swings_2 p1_swings_3 c_p1_swings_3 b_p1_swings_3) sz)) 0 0 (va_A (zW_t_takeWalk p0 f_p0 p0_strikes c_p0_strikes b_p0_strikes p0_swings c_p0_swings b_p0_swings p1 f_p1 p1_steps c_p1_steps b_p1_steps p1_strikes c_p1_strikes b_p1_strikes p1_strikes_0 c_p1_strikes_0 b_p1_strikes_0 p1_strikes_1 c_p1_strikes_1 b_p1_strikes_1 p1_strikes_2 c_p1_strikes_2 b_p1_strikes_2 p1_strikes_3 c_p1_strikes_3 b_p1_strikes_3 p1_swings c_p1_swings b_p1_swings p1_swings_0 c_p1_swings_0 b_p1_swings_0 p1_swings_1 c_p1_swings_1 b_p1_swings_1 p1_swings_2 c_p1_swings_2 b_p1_swings_2 p1_swings_3 c_p1_swings_3 b_p1_swings_3) sz) := by
  refine Met.ofW (cc := cX7_takeWalk) (maxL := 4) (ret := none) (by decide) rfl ?_
  intro p e s m args below meth c s₁ B hml hv
  obtain ⟨rfl, hsz, hP, hK, hD0, hE⟩ := hv
  have hx := B.exec
  have hb := B.bytes
  have hr := B.returns
  have hts := atoms_spec (ws := zw_t_takeWalk) B.pre
  have hown : s.vm.findClass RX7 = some m.cls := findClass_of_methodNamed B.named
  have hlocks := B.notSynchronized
  subst hsz
  have hD := hD0.self (sz := s.heap.size)
  generalize hAe : va_A (zW_t_takeWalk p0 f_p0 p0_strikes c_p0_strikes b_p0_strikes p0_swings c_p0_swings b_p0_swings p1 f_p1 p1_steps c_p1_steps b_p1_steps p1_strikes c_p1_strikes b_p1_strikes p1_strikes_0 c_p1_strikes_0 b_p1_strikes_0 p1_strikes_1 c_p1_strikes_1 b_p1_strikes_1 p1_strikes_2 c_p1_strikes_2 b_p1_strikes_2 p1_strikes_3 c_p1_strikes_3 b_p1_strikes_3 p1_swings c_p1_swings b_p1_swings p1_swings_0 c_p1_swings_0 b_p1_swings_0 p1_swings_1 c_p1_swings_1 b_p1_swings_1 p1_swings_2 c_p1_swings_2 b_p1_swings_2 p1_swings_3 c_p1_swings_3 b_p1_swings_3) s.heap.size = A at hD hE ⊢
  have hA : ∀ q : Nat, s.heap.size ≤ q → A q := fun q h => by rw [← hAe]; exact Or.inr h
  have hDa : q_DA A (zA_t_takeWalk p0 p0_strikes p0_swings p1 p1_steps p1_strikes p1_strikes_0 p1_strikes_1 p1_strikes_2 p1_strikes_3 p1_swings p1_swings_0 p1_swings_1 p1_swings_2 p1_swings_3) := q_DA.mk hD za_t_takeWalk
  clear hAe hD0 hD
  have hS : va_S A s.heap s.heap [] := va_S.rf
  have m_0 : (.fieldLink RX7 37 "BowWalk$Shop" "steps" "[I" : Cond) ∈ zw_t_takeWalk := List.mem_append_left _ (List.mem_of_getElem? (i := 1) rfl)
  have k_0 := hts _ m_0
  have m_1 : (.fieldLink RX7 31 "BowWalk$Trial" "walkSteps" "I" : Cond) ∈ zw_t_takeWalk := List.mem_append_left _ (List.mem_of_getElem? (i := 2) rfl)
  have k_1 := hts _ m_1
  have m_2 : (.fieldLink RX7 20 "BowWalk$Trial" "strikes" "[I" : Cond) ∈ zw_t_takeWalk := List.mem_append_left _ (List.mem_of_getElem? (i := 3) rfl)
  have k_2 := hts _ m_2
  have m_3 : (.fieldLink RX7 40 "BowWalk$Shop" "strikes" "[[I" : Cond) ∈ zw_t_takeWalk := List.mem_append_left _ (List.mem_of_getElem? (i := 4) rfl)
  have k_3 := hts _ m_3
  have m_4 : (.fieldLink RX7 24 "BowWalk$Trial" "swings" "[I" : Cond) ∈ zw_t_takeWalk := List.mem_append_left _ (List.mem_of_getElem? (i := 5) rfl)
  have k_4 := hts _ m_4
  have m_5 : (.fieldLink RX7 43 "BowWalk$Shop" "swings" "[[I" : Cond) ∈ zw_t_takeWalk := List.mem_append_left _ (List.mem_of_getElem? (i := 6) rfl)
  have k_5 := hts _ m_5
  have i_X5 : ∀ w ∈ u_ws RX5 TX5 15, w ∈ zw_t_takeWalk := fun w h => List.mem_append_right _ (List.mem_append_left _ h)
  have i_X7 : ∀ w ∈ u_ws RX7 TX7 6, w ∈ zw_t_takeWalk := fun w h => List.mem_append_right _ (List.mem_append_right _ (List.mem_append_left _ h))
  have lt_0 : (0 : Int32).toInt = 0 := by decide
  have lt_1 : (1 : Int32).toInt = 1 := by decide
  have hl := lv_entry ([.ref p0, .ref p1, .int a2]) (n := 4) (Nat.le_of_ble_eq_true rfl)
  rw [lg_entry_eq]
  generalize (lg_sl ([.ref p0, .ref p1, .int a2]) ++ List.replicate (4 - (lg_sl ([.ref p0, .ref p1, .int a2])).length) Slot.unset).toArray = ls at hl ⊢
  have hl : lv_has ls 4 [(0, .ref p0), (1, .ref p1), (2, .int a2)] := hl
  refine lv_aload_n hx hb dX7_takeWalk_0 rfl (lv_at hl 0 rfl) (lv_aload_n hx hb dX7_takeWalk_1 rfl (lv_at hl 1 rfl) (qg_X5_7 hx hb hts i_X5 hown hK hP 3 rfl k_0 fr_p1_7 dX7_takeWalk_2 (lv_iload_n hx hb dX7_takeWalk_5 rfl (lv_at hl 2 rfl) (q_ild hx hb hK hP 4 2 rfl rfl (q_in (by omega) (by omega)) dX7_takeWalk_6 (fun v_1 ev_1 => ?_)))))
  have tv_1 := q_rd' hr_p1_steps (q_in (by omega) (by omega)) ev_1
  refine qp_X7_4 hx hb hts i_X7 hown hK hP hDa za_t_takeWalk hS 0 rfl k_1 (OKX7_l ho_p0) dX7_takeWalk_7 (fun H2 lo2 fs2 efs2 (hP2 : va_P (dC, dI) vwCl (zW_t_takeWalk p0 fs2 p0_strikes c_p0_strikes b_p0_strikes p0_swings c_p0_swings b_p0_swings p1 f_p1 p1_steps c_p1_steps b_p1_steps p1_strikes c_p1_strikes b_p1_strikes p1_strikes_0 c_p1_strikes_0 b_p1_strikes_0 p1_strikes_1 c_p1_strikes_1 b_p1_strikes_1 p1_strikes_2 c_p1_strikes_2 b_p1_strikes_2 p1_strikes_3 c_p1_strikes_3 b_p1_strikes_3 p1_swings c_p1_swings b_p1_swings p1_swings_0 c_p1_swings_0 b_p1_swings_0 p1_swings_1 c_p1_swings_1 b_p1_swings_1 p1_swings_2 c_p1_swings_2 b_p1_swings_2 p1_swings_3 c_p1_swings_3 b_p1_swings_3) H2) hS2 => ?_)
  have ho2 := OKX7_p4 ho_p0 efs2 ⟨by omega, by omega⟩
  clear hP hS
  refine lv_iconst (v := 0) hx hb dX7_takeWalk_10 (by decide) (lv_istore_n (lv' := [(3, .int 0), (0, .ref p0), (1, .ref p1), (2, .int a2)]) hx hb dX7_takeWalk_11 rfl hl (by decide) rfl (fun ls hl => ?_))
  have key12 : ∀ (fu12 : Nat) (i : Int32) (bz_p0_strikes : Nat → Int32) (bz_p0_swings : Nat → Int32) (H : Heap) (locs : List Loc) (ls : Array Slot) (hfu12 : 8 - i.toInt ≤ (fu12 : Int)) (ti : (0) ≤ i.toInt ∧ i.toInt ≤ 8) (hr_bz_p0_strikes : q_rg 8 (0) 99 bz_p0_strikes) (hr_bz_p0_swings : q_rg 8 (0) 99 bz_p0_swings), va_P (dC, dI) vwCl (zW_t_takeWalk p0 fs2 p0_strikes c_p0_strikes bz_p0_strikes p0_swings c_p0_swings bz_p0_swings p1 f_p1 p1_steps c_p1_steps b_p1_steps p1_strikes c_p1_strikes b_p1_strikes p1_strikes_0 c_p1_strikes_0 b_p1_strikes_0 p1_strikes_1 c_p1_strikes_1 b_p1_strikes_1 p1_strikes_2 c_p1_strikes_2 b_p1_strikes_2 p1_strikes_3 c_p1_strikes_3 b_p1_strikes_3 p1_swings c_p1_swings b_p1_swings p1_swings_0 c_p1_swings_0 b_p1_swings_0 p1_swings_1 c_p1_swings_1 b_p1_swings_1 p1_swings_2 c_p1_swings_2 b_p1_swings_2 p1_swings_3 c_p1_swings_3 b_p1_swings_3) H → va_S A s.heap H locs → lv_has ls 4 [(3, .int i), (0, .ref p0), (1, .ref p1), (2, .int a2)] → W p l e (headSpec zw_t_takeWalk { frames := 0, cells := 0, slots := 0, locals := 0 }).room s m ([.ref p0, .ref p1, .int a2] : List Value).toArray below meth c H locs 0 0 (MQ below (q_Qv (dC, dI) (zG_t_takeWalk p0 f_p0 p0_strikes c_p0_strikes b_p0_strikes p0_swings c_p0_swings b_p0_swings p1 f_p1 p1_steps c_p1_steps b_p1_steps p1_strikes c_p1_strikes b_p1_strikes p1_strikes_0 c_p1_strikes_0 b_p1_strikes_0 p1_strikes_1 c_p1_strikes_1 b_p1_strikes_1 p1_strikes_2 c_p1_strikes_2 b_p1_strikes_2 p1_strikes_3 c_p1_strikes_3 b_p1_strikes_3 p1_swings c_p1_swings b_p1_swings p1_swings_0 c_p1_swings_0 b_p1_swings_0 p1_swings_1 c_p1_swings_1 b_p1_swings_1 p1_swings_2 c_p1_swings_2 b_p1_swings_2 p1_swings_3 c_p1_swings_3 b_p1_swings_3 a2) (zA_t_takeWalk p0 p0_strikes p0_swings p1 p1_steps p1_strikes p1_strikes_0 p1_strikes_1 p1_strikes_2 p1_strikes_3 p1_swings p1_swings_0 p1_swings_1 p1_swings_2 p1_swings_3) A) ([.ref p0, .ref p1, .int a2] : List Value).toArray s 0 0 A) (F0 m 12 ls []) := by
    intro fu12
    induction fu12 using Nat.strongRecOn with
    | ind fu12 ih12 =>
      intro i bz_p0_strikes bz_p0_swings H3 lo3 ls hfu12 ti hr_bz_p0_strikes hr_bz_p0_swings hP3 hS3 hl
      refine lv_iload_n hx hb dX7_takeWalk_12 rfl (lv_at hl 0 rfl) (lv_aload_n hx hb dX7_takeWalk_13 rfl (lv_at hl 1 rfl) (qg_X7_4 hx hb hts i_X7 hown hK hP3 0 rfl k_1 (q_sa efs2 (OKX7_l ho_p0) (by decide)) dX7_takeWalk_14 ?_))
      refine lv_icmp_ge (tgt := 54) hx hb dX7_takeWalk_17 (by decide) (fun c_4 => ?_) (fun c_4 => ?_)
      · have tc_4 := q_ge c_4
        exact q_vret hx hb hr hlocks hS3 dX7_takeWalk_54 ⟨fs2, bz_p0_strikes, bz_p0_swings, ho2, (q_fr.rf.st efs2 (by decide)), hr_bz_p0_strikes, hr_bz_p0_swings, hP3, za_t_takeWalk⟩
      · have tc_4 := q_ltN c_4
        refine lv_aload_n hx hb dX7_takeWalk_20 rfl (lv_at hl 1 rfl) (qg_X7_1 hx hb hts i_X7 hown hK hP3 0 rfl k_2 (q_sn efs2 (by decide) fr_p0_1) dX7_takeWalk_21 (lv_iload_n hx hb dX7_takeWalk_24 rfl (lv_at hl 0 rfl) (lv_aload_n hx hb dX7_takeWalk_25 rfl (lv_at hl 2 rfl) (qg_X5_8 hx hb hts i_X5 hown hK hP3 3 rfl k_3 fr_p1_8 dX7_takeWalk_26 (lv_iload_n hx hb dX7_takeWalk_29 rfl (lv_at hl 3 rfl) ?_)))))
        have jn_7 : ∀ (j_6 : Int32) (H : Heap) (locs : List Loc) (ls : Array Slot) (tj_6 : (0) ≤ j_6.toInt ∧ j_6.toInt ≤ 99), va_P (dC, dI) vwCl (zW_t_takeWalk p0 fs2 p0_strikes c_p0_strikes bz_p0_strikes p0_swings c_p0_swings bz_p0_swings p1 f_p1 p1_steps c_p1_steps b_p1_steps p1_strikes c_p1_strikes b_p1_strikes p1_strikes_0 c_p1_strikes_0 b_p1_strikes_0 p1_strikes_1 c_p1_strikes_1 b_p1_strikes_1 p1_strikes_2 c_p1_strikes_2 b_p1_strikes_2 p1_strikes_3 c_p1_strikes_3 b_p1_strikes_3 p1_swings c_p1_swings b_p1_swings p1_swings_0 c_p1_swings_0 b_p1_swings_0 p1_swings_1 c_p1_swings_1 b_p1_swings_1 p1_swings_2 c_p1_swings_2 b_p1_swings_2 p1_swings_3 c_p1_swings_3 b_p1_swings_3) H → va_S A s.heap H locs → lv_has ls 4 [(3, .int i), (0, .ref p0), (1, .ref p1), (2, .int a2)] → W p l e (headSpec zw_t_takeWalk { frames := 0, cells := 0, slots := 0, locals := 0 }).room s m ([.ref p0, .ref p1, .int a2] : List Value).toArray below meth c H locs 0 0 (MQ below (q_Qv (dC, dI) (zG_t_takeWalk p0 f_p0 p0_strikes c_p0_strikes b_p0_strikes p0_swings c_p0_swings b_p0_swings p1 f_p1 p1_steps c_p1_steps b_p1_steps p1_strikes c_p1_strikes b_p1_strikes p1_strikes_0 c_p1_strikes_0 b_p1_strikes_0 p1_strikes_1 c_p1_strikes_1 b_p1_strikes_1 p1_strikes_2 c_p1_strikes_2 b_p1_strikes_2 p1_strikes_3 c_p1_strikes_3 b_p1_strikes_3 p1_swings c_p1_swings b_p1_swings p1_swings_0 c_p1_swings_0 b_p1_swings_0 p1_swings_1 c_p1_swings_1 b_p1_swings_1 p1_swings_2 c_p1_swings_2 b_p1_swings_2 p1_swings_3 c_p1_swings_3 b_p1_swings_3 a2) (zA_t_takeWalk p0 p0_strikes p0_swings p1 p1_steps p1_strikes p1_strikes_0 p1_strikes_1 p1_strikes_2 p1_strikes_3 p1_swings p1_swings_0 p1_swings_1 p1_swings_2 p1_swings_3) A) ([.ref p0, .ref p1, .int a2] : List Value).toArray s 0 0 A) (F0 m 33 ls [.int j_6, .int i, .ref p0_strikes]) := by
          intro j_6 H8 lo8 ls tj_6 hP8 hS8 hl
          refine q_ist hx hb hK hP8 hDa za_t_takeWalk hS8 1 0 rfl rfl (q_in (by omega) (by omega)) dX7_takeWalk_33 (fun H9 lo9 g9 eg9 (hP9 : va_P (dC, dI) vwCl (zW_t_takeWalk p0 fs2 p0_strikes c_p0_strikes g9 p0_swings c_p0_swings bz_p0_swings p1 f_p1 p1_steps c_p1_steps b_p1_steps p1_strikes c_p1_strikes b_p1_strikes p1_strikes_0 c_p1_strikes_0 b_p1_strikes_0 p1_strikes_1 c_p1_strikes_1 b_p1_strikes_1 p1_strikes_2 c_p1_strikes_2 b_p1_strikes_2 p1_strikes_3 c_p1_strikes_3 b_p1_strikes_3 p1_swings c_p1_swings b_p1_swings p1_swings_0 c_p1_swings_0 b_p1_swings_0 p1_swings_1 c_p1_swings_1 b_p1_swings_1 p1_swings_2 c_p1_swings_2 b_p1_swings_2 p1_swings_3 c_p1_swings_3 b_p1_swings_3) H9) hS9 => ?_)
          clear hP8 hS8
          have hr_g9 := q_up' hr_bz_p0_strikes eg9 ⟨by omega, by omega⟩
          refine lv_aload_n hx hb dX7_takeWalk_34 rfl (lv_at hl 1 rfl) (qg_X7_2 hx hb hts i_X7 hown hK hP9 0 rfl k_4 (q_sn efs2 (by decide) fr_p0_2) dX7_takeWalk_35 (lv_iload_n hx hb dX7_takeWalk_38 rfl (lv_at hl 0 rfl) (lv_aload_n hx hb dX7_takeWalk_39 rfl (lv_at hl 2 rfl) (qg_X5_9 hx hb hts i_X5 hown hK hP9 3 rfl k_5 fr_p1_9 dX7_takeWalk_40 (lv_iload_n hx hb dX7_takeWalk_43 rfl (lv_at hl 3 rfl) ?_)))))
          have jn_12 : ∀ (j_11 : Int32) (H : Heap) (locs : List Loc) (ls : Array Slot) (tj_11 : (0) ≤ j_11.toInt ∧ j_11.toInt ≤ 99), va_P (dC, dI) vwCl (zW_t_takeWalk p0 fs2 p0_strikes c_p0_strikes g9 p0_swings c_p0_swings bz_p0_swings p1 f_p1 p1_steps c_p1_steps b_p1_steps p1_strikes c_p1_strikes b_p1_strikes p1_strikes_0 c_p1_strikes_0 b_p1_strikes_0 p1_strikes_1 c_p1_strikes_1 b_p1_strikes_1 p1_strikes_2 c_p1_strikes_2 b_p1_strikes_2 p1_strikes_3 c_p1_strikes_3 b_p1_strikes_3 p1_swings c_p1_swings b_p1_swings p1_swings_0 c_p1_swings_0 b_p1_swings_0 p1_swings_1 c_p1_swings_1 b_p1_swings_1 p1_swings_2 c_p1_swings_2 b_p1_swings_2 p1_swings_3 c_p1_swings_3 b_p1_swings_3) H → va_S A s.heap H locs → lv_has ls 4 [(3, .int i), (0, .ref p0), (1, .ref p1), (2, .int a2)] → W p l e (headSpec zw_t_takeWalk { frames := 0, cells := 0, slots := 0, locals := 0 }).room s m ([.ref p0, .ref p1, .int a2] : List Value).toArray below meth c H locs 0 0 (MQ below (q_Qv (dC, dI) (zG_t_takeWalk p0 f_p0 p0_strikes c_p0_strikes b_p0_strikes p0_swings c_p0_swings b_p0_swings p1 f_p1 p1_steps c_p1_steps b_p1_steps p1_strikes c_p1_strikes b_p1_strikes p1_strikes_0 c_p1_strikes_0 b_p1_strikes_0 p1_strikes_1 c_p1_strikes_1 b_p1_strikes_1 p1_strikes_2 c_p1_strikes_2 b_p1_strikes_2 p1_strikes_3 c_p1_strikes_3 b_p1_strikes_3 p1_swings c_p1_swings b_p1_swings p1_swings_0 c_p1_swings_0 b_p1_swings_0 p1_swings_1 c_p1_swings_1 b_p1_swings_1 p1_swings_2 c_p1_swings_2 b_p1_swings_2 p1_swings_3 c_p1_swings_3 b_p1_swings_3 a2) (zA_t_takeWalk p0 p0_strikes p0_swings p1 p1_steps p1_strikes p1_strikes_0 p1_strikes_1 p1_strikes_2 p1_strikes_3 p1_swings p1_swings_0 p1_swings_1 p1_swings_2 p1_swings_3) A) ([.ref p0, .ref p1, .int a2] : List Value).toArray s 0 0 A) (F0 m 47 ls [.int j_11, .int i, .ref p0_swings]) := by
            intro j_11 H13 lo13 ls tj_11 hP13 hS13 hl
            refine q_ist hx hb hK hP13 hDa za_t_takeWalk hS13 2 1 rfl rfl (q_in (by omega) (by omega)) dX7_takeWalk_47 (fun H14 lo14 g14 eg14 (hP14 : va_P (dC, dI) vwCl (zW_t_takeWalk p0 fs2 p0_strikes c_p0_strikes g9 p0_swings c_p0_swings g14 p1 f_p1 p1_steps c_p1_steps b_p1_steps p1_strikes c_p1_strikes b_p1_strikes p1_strikes_0 c_p1_strikes_0 b_p1_strikes_0 p1_strikes_1 c_p1_strikes_1 b_p1_strikes_1 p1_strikes_2 c_p1_strikes_2 b_p1_strikes_2 p1_strikes_3 c_p1_strikes_3 b_p1_strikes_3 p1_swings c_p1_swings b_p1_swings p1_swings_0 c_p1_swings_0 b_p1_swings_0 p1_swings_1 c_p1_swings_1 b_p1_swings_1 p1_swings_2 c_p1_swings_2 b_p1_swings_2 p1_swings_3 c_p1_swings_3 b_p1_swings_3) H14) hS14 => ?_)
            clear hP13 hS13
            have hr_g14 := q_up' hr_bz_p0_swings eg14 ⟨by omega, by omega⟩
            obtain ⟨v_15, ev_15⟩ : ∃ y : Int32, y = i + 1 := ⟨_, rfl⟩
            have tv_15 := q_add ev_15 (by omega) (by omega)
            refine lv_iinc (v := v_15) (lv' := [(3, .int v_15), (0, .ref p0), (1, .ref p1), (2, .int a2)]) hx hb dX7_takeWalk_48 hl (k := 0) rfl (by rw [ev_15]; rfl) (by decide) rfl (fun ls hl => ?_)
            refine lv_goto (tgt := 12) hx hb dX7_takeWalk_51 (by decide) ?_
            exact ih12 (fu12 - 1) (by omega) v_15 g9 g14 _ _ _ (by omega) (by omega) hr_g9 hr_g14 hP14 hS14 (lv_sub hl [0, 1, 2, 3] rfl)
          rcases q_c4 (i := a2) (by omega) (by omega) with hi_10 | hi_10 | hi_10 | hi_10
          · refine q_aldr hx hb hK hP9 10 8 rfl rfl (q_in (by omega) (by omega)) dX7_takeWalk_44 ?_
            refine W.eq (g2 := F0 m 45 ls [.ref p1_swings_0, .int i, .ref p0_swings]) (by rw [show b_p1_swings a2.toNatClampNeg = some p1_swings_0 from (by rw [hi_10]; exact hn_p1_swings_0)]; rfl) ?_
            refine lv_iload_n hx hb dX7_takeWalk_45 rfl (lv_at hl 0 rfl) (q_ild hx hb hK hP9 11 9 rfl rfl (q_in (by omega) (by omega)) dX7_takeWalk_46 (fun v_16 ev_16 => ?_))
            have tv_16 := q_rd' hr_p1_swings_0 (q_in (by omega) (by omega)) ev_16
            exact jn_12 v_16 _ _ _ (by omega) hP9 hS9 (lv_sub hl [0, 1, 2, 3] rfl)
          · refine q_aldr hx hb hK hP9 10 8 rfl rfl (q_in (by omega) (by omega)) dX7_takeWalk_44 ?_
            refine W.eq (g2 := F0 m 45 ls [.ref p1_swings_1, .int i, .ref p0_swings]) (by rw [show b_p1_swings a2.toNatClampNeg = some p1_swings_1 from (by rw [hi_10]; exact hn_p1_swings_1)]; rfl) ?_
            refine lv_iload_n hx hb dX7_takeWalk_45 rfl (lv_at hl 0 rfl) (q_ild hx hb hK hP9 12 10 rfl rfl (q_in (by omega) (by omega)) dX7_takeWalk_46 (fun v_17 ev_17 => ?_))
            have tv_17 := q_rd' hr_p1_swings_1 (q_in (by omega) (by omega)) ev_17
            exact jn_12 v_17 _ _ _ (by omega) hP9 hS9 (lv_sub hl [0, 1, 2, 3] rfl)
          · refine q_aldr hx hb hK hP9 10 8 rfl rfl (q_in (by omega) (by omega)) dX7_takeWalk_44 ?_
            refine W.eq (g2 := F0 m 45 ls [.ref p1_swings_2, .int i, .ref p0_swings]) (by rw [show b_p1_swings a2.toNatClampNeg = some p1_swings_2 from (by rw [hi_10]; exact hn_p1_swings_2)]; rfl) ?_
            refine lv_iload_n hx hb dX7_takeWalk_45 rfl (lv_at hl 0 rfl) (q_ild hx hb hK hP9 13 11 rfl rfl (q_in (by omega) (by omega)) dX7_takeWalk_46 (fun v_18 ev_18 => ?_))
            have tv_18 := q_rd' hr_p1_swings_2 (q_in (by omega) (by omega)) ev_18
            exact jn_12 v_18 _ _ _ (by omega) hP9 hS9 (lv_sub hl [0, 1, 2, 3] rfl)
          · refine q_aldr hx hb hK hP9 10 8 rfl rfl (q_in (by omega) (by omega)) dX7_takeWalk_44 ?_
            refine W.eq (g2 := F0 m 45 ls [.ref p1_swings_3, .int i, .ref p0_swings]) (by rw [show b_p1_swings a2.toNatClampNeg = some p1_swings_3 from (by rw [hi_10]; exact hn_p1_swings_3)]; rfl) ?_
            refine lv_iload_n hx hb dX7_takeWalk_45 rfl (lv_at hl 0 rfl) (q_ild hx hb hK hP9 14 12 rfl rfl (q_in (by omega) (by omega)) dX7_takeWalk_46 (fun v_19 ev_19 => ?_))
            have tv_19 := q_rd' hr_p1_swings_3 (q_in (by omega) (by omega)) ev_19
            exact jn_12 v_19 _ _ _ (by omega) hP9 hS9 (lv_sub hl [0, 1, 2, 3] rfl)
        rcases q_c4 (i := a2) (by omega) (by omega) with hi_5 | hi_5 | hi_5 | hi_5
        · refine q_aldr hx hb hK hP3 5 3 rfl rfl (q_in (by omega) (by omega)) dX7_takeWalk_30 ?_
          refine W.eq (g2 := F0 m 31 ls [.ref p1_strikes_0, .int i, .ref p0_strikes]) (by rw [show b_p1_strikes a2.toNatClampNeg = some p1_strikes_0 from (by rw [hi_5]; exact hn_p1_strikes_0)]; rfl) ?_
          refine lv_iload_n hx hb dX7_takeWalk_31 rfl (lv_at hl 0 rfl) (q_ild hx hb hK hP3 6 4 rfl rfl (q_in (by omega) (by omega)) dX7_takeWalk_32 (fun v_20 ev_20 => ?_))
          have tv_20 := q_rd' hr_p1_strikes_0 (q_in (by omega) (by omega)) ev_20
          exact jn_7 v_20 _ _ _ (by omega) hP3 hS3 (lv_sub hl [0, 1, 2, 3] rfl)
        · refine q_aldr hx hb hK hP3 5 3 rfl rfl (q_in (by omega) (by omega)) dX7_takeWalk_30 ?_
          refine W.eq (g2 := F0 m 31 ls [.ref p1_strikes_1, .int i, .ref p0_strikes]) (by rw [show b_p1_strikes a2.toNatClampNeg = some p1_strikes_1 from (by rw [hi_5]; exact hn_p1_strikes_1)]; rfl) ?_
          refine lv_iload_n hx hb dX7_takeWalk_31 rfl (lv_at hl 0 rfl) (q_ild hx hb hK hP3 7 5 rfl rfl (q_in (by omega) (by omega)) dX7_takeWalk_32 (fun v_21 ev_21 => ?_))
          have tv_21 := q_rd' hr_p1_strikes_1 (q_in (by omega) (by omega)) ev_21
          exact jn_7 v_21 _ _ _ (by omega) hP3 hS3 (lv_sub hl [0, 1, 2, 3] rfl)
        · refine q_aldr hx hb hK hP3 5 3 rfl rfl (q_in (by omega) (by omega)) dX7_takeWalk_30 ?_
          refine W.eq (g2 := F0 m 31 ls [.ref p1_strikes_2, .int i, .ref p0_strikes]) (by rw [show b_p1_strikes a2.toNatClampNeg = some p1_strikes_2 from (by rw [hi_5]; exact hn_p1_strikes_2)]; rfl) ?_
          refine lv_iload_n hx hb dX7_takeWalk_31 rfl (lv_at hl 0 rfl) (q_ild hx hb hK hP3 8 6 rfl rfl (q_in (by omega) (by omega)) dX7_takeWalk_32 (fun v_22 ev_22 => ?_))
          have tv_22 := q_rd' hr_p1_strikes_2 (q_in (by omega) (by omega)) ev_22
          exact jn_7 v_22 _ _ _ (by omega) hP3 hS3 (lv_sub hl [0, 1, 2, 3] rfl)
        · refine q_aldr hx hb hK hP3 5 3 rfl rfl (q_in (by omega) (by omega)) dX7_takeWalk_30 ?_
          refine W.eq (g2 := F0 m 31 ls [.ref p1_strikes_3, .int i, .ref p0_strikes]) (by rw [show b_p1_strikes a2.toNatClampNeg = some p1_strikes_3 from (by rw [hi_5]; exact hn_p1_strikes_3)]; rfl) ?_
          refine lv_iload_n hx hb dX7_takeWalk_31 rfl (lv_at hl 0 rfl) (q_ild hx hb hK hP3 9 7 rfl rfl (q_in (by omega) (by omega)) dX7_takeWalk_32 (fun v_23 ev_23 => ?_))
          have tv_23 := q_rd' hr_p1_strikes_3 (q_in (by omega) (by omega)) ev_23
          exact jn_7 v_23 _ _ _ (by omega) hP3 hS3 (lv_sub hl [0, 1, 2, 3] rfl)
  exact key12 8 0 b_p0_strikes b_p0_swings _ _ _ (by omega) (by omega) hr_p0_strikes hr_p0_swings hP2 hS2 (lv_sub hl [0, 1, 2, 3] rfl)
def zo_t_lessen : List Cond := [.code yX7_lessen cX7_lessen 4 none, .fieldLink RX7 31 "BowWalk$Trial" "walkSteps" "I", .methodLink RX7 45 Lib.Math.max.name, .static Lib.Math.max.name, .initialized "java/lang/Math", .code Lib.Math.max.name Lib.Math.max.code 2 (some .int)]
def zw_t_lessen : List Cond := zo_t_lessen ++ (wsX70 ++ [])
theorem gz_t_lessen : zw_t_lessen.all goodWord = true := p1_ga (by decide +kernel) (p1_ga gk_X7 p1_g0)
theorem iz_t_lessen : ∀ w ∈ zw_t_lessen, w ∈ lw_tbl := p1_ia (p1_all [864, 422, 865, 763, 117, 764] (by decide +kernel)) (p1_ia ik_X7 p1_i0)
def zW_t_lessen (p0 : Nat) (f_p0 : List Value) (p1 : Nat) (c_p1 : ClassId) (b_p1 : Nat → Int32) : va_W := [(p0, .inr (6, f_p0)), (p1, .inl (c_p1, 8, .inl b_p1))]
def zT_t_lessen (c_p1 : ClassId) : List (ClassId × FieldType) := [(c_p1, .int)]
def zA_t_lessen (p0 : Nat) (p1 : Nat) : List Nat := [p0, p1]
theorem za_t_lessen {p0 : Nat} {f_p0 : List Value} {p1 : Nat} {c_p1 : ClassId} {b_p1 : Nat → Int32} : (zW_t_lessen p0 f_p0 p1 c_p1 b_p1).map Prod.fst = (zA_t_lessen p0 p1) := rfl
def zG_t_lessen (p0 : Nat) (f_p0 : List Value) (p1 : Nat) (c_p1 : ClassId) (b_p1 : Nat → Int32) (a2 : Int32) (X : va_W → Prop) : Prop := ∃ (y_p1 : Nat → Int32), (q_rg 8 (0) 99 y_p1) ∧ X (zW_t_lessen p0 f_p0 p1 c_p1 y_p1)
theorem zm_t_lessen {p0 : Nat} {f_p0 : List Value} {p1 : Nat} {c_p1 : ClassId} {b_p1 : Nat → Int32} {a2 : Int32} : ∀ X Y : va_W → Prop, (∀ w, X w → Y w) → zG_t_lessen p0 f_p0 p1 c_p1 b_p1 a2 X → zG_t_lessen p0 f_p0 p1 c_p1 b_p1 a2 Y := fun X Y h h1 => by obtain ⟨x0, x1, hx⟩ := h1; exact ⟨x0, x1, h _ hx⟩
set_option maxHeartbeats 4000000 in
set_option maxRecDepth 100000 in
theorem t_lessen (l : Launch) (dC : Nat → ClassId) (dI : Nat → Nat → Nat) (sz : Nat) (p0 : Nat) (f_p0 : List Value) (p1 : Nat) (c_p1 : ClassId) (b_p1 : Nat → Int32) (a2 : Int32) (ho_p0 : OKX7 f_p0) (hr_p1 : q_rg 8 (0) 99 b_p1) (ta2 : (0) ≤ a2.toInt ∧ a2.toInt ≤ 99) : Met l yX7_lessen zw_t_lessen ({ frames := 1, cells := 0, slots := 0, locals := 22 }) (va_Pc [.ref p0, .ref p1, .int a2] (q_pre (dC, dI) (zW_t_lessen p0 f_p0 p1 c_p1 b_p1) (zT_t_lessen c_p1) q_E0 sz)) (q_Qv (dC, dI) (zG_t_lessen p0 f_p0 p1 c_p1 b_p1 a2) (zA_t_lessen p0 p1) (va_A (zW_t_lessen p0 f_p0 p1 c_p1 b_p1) sz)) 0 0 (va_A (zW_t_lessen p0 f_p0 p1 c_p1 b_p1) sz) := by
  refine Met.ofW (cc := cX7_lessen) (maxL := 4) (ret := none) (by decide) rfl ?_
  intro p e s m args below meth c s₁ B hml hv
  obtain ⟨rfl, hsz, hP, hK, hD0, hE⟩ := hv
  have hx := B.exec
  have hb := B.bytes
  have hr := B.returns
  have hts := atoms_spec (ws := zw_t_lessen) B.pre
  have hown : s.vm.findClass RX7 = some m.cls := findClass_of_methodNamed B.named
  have hlocks := B.notSynchronized
  subst hsz
  have hD := hD0.self (sz := s.heap.size)
  generalize hAe : va_A (zW_t_lessen p0 f_p0 p1 c_p1 b_p1) s.heap.size = A at hD hE ⊢
  have hA : ∀ q : Nat, s.heap.size ≤ q → A q := fun q h => by rw [← hAe]; exact Or.inr h
  have hDa : q_DA A (zA_t_lessen p0 p1) := q_DA.mk hD za_t_lessen
  clear hAe hD0 hD
  have hS : va_S A s.heap s.heap [] := va_S.rf
  have m_0 : (.fieldLink RX7 31 "BowWalk$Trial" "walkSteps" "I" : Cond) ∈ zw_t_lessen := List.mem_append_left _ (List.mem_of_getElem? (i := 1) rfl)
  have k_0 := hts _ m_0
  have m_1 : (.methodLink RX7 45 Lib.Math.max.name : Cond) ∈ zw_t_lessen := List.mem_append_left _ (List.mem_of_getElem? (i := 2) rfl)
  have k_1 := hts _ m_1
  have m_2 : (.static Lib.Math.max.name : Cond) ∈ zw_t_lessen := List.mem_append_left _ (List.mem_of_getElem? (i := 3) rfl)
  have k_2 := hts _ m_2
  have m_3 : (.initialized "java/lang/Math" : Cond) ∈ zw_t_lessen := List.mem_append_left _ (List.mem_of_getElem? (i := 4) rfl)
  have k_3 := hts _ m_3
  have m_4 : (.code Lib.Math.max.name Lib.Math.max.code 2 (some .int) : Cond) ∈ zw_t_lessen := List.mem_append_left _ (List.mem_of_getElem? (i := 5) rfl)
  have k_4 := hts _ m_4
  have i_X7 : ∀ w ∈ u_ws RX7 TX7 6, w ∈ zw_t_lessen := fun w h => List.mem_append_right _ (List.mem_append_left _ h)
  have lt_0 : (0 : Int32).toInt = 0 := by decide
  have lt_1 : (1 : Int32).toInt = 1 := by decide
  have hl := lv_entry ([.ref p0, .ref p1, .int a2]) (n := 4) (Nat.le_of_ble_eq_true rfl)
  rw [lg_entry_eq]
  generalize (lg_sl ([.ref p0, .ref p1, .int a2]) ++ List.replicate (4 - (lg_sl ([.ref p0, .ref p1, .int a2])).length) Slot.unset).toArray = ls at hl ⊢
  have hl : lv_has ls 4 [(0, .ref p0), (1, .ref p1), (2, .int a2)] := hl
  refine lv_iconst (v := 0) hx hb dX7_lessen_0 (by decide) (lv_istore_n (lv' := [(3, .int 0), (0, .ref p0), (1, .ref p1), (2, .int a2)]) hx hb dX7_lessen_1 rfl hl (by decide) rfl (fun ls hl => ?_))
  have key2 : ∀ (fu2 : Nat) (i : Int32) (bz_p1 : Nat → Int32) (H : Heap) (locs : List Loc) (ls : Array Slot) (hfu2 : 8 - i.toInt ≤ (fu2 : Int)) (ti : (0) ≤ i.toInt ∧ i.toInt ≤ 8) (hr_bz_p1 : q_rg 8 (0) 99 bz_p1), va_P (dC, dI) vwCl (zW_t_lessen p0 f_p0 p1 c_p1 bz_p1) H → va_S A s.heap H locs → lv_has ls 4 [(3, .int i), (0, .ref p0), (1, .ref p1), (2, .int a2)] → W p l e (headSpec zw_t_lessen { frames := 1, cells := 0, slots := 0, locals := 22 }).room s m ([.ref p0, .ref p1, .int a2] : List Value).toArray below meth c H locs 0 0 (MQ below (q_Qv (dC, dI) (zG_t_lessen p0 f_p0 p1 c_p1 b_p1 a2) (zA_t_lessen p0 p1) A) ([.ref p0, .ref p1, .int a2] : List Value).toArray s 0 0 A) (F0 m 2 ls []) := by
    intro fu2
    induction fu2 using Nat.strongRecOn with
    | ind fu2 ih2 =>
      intro i bz_p1 H1 lo1 ls hfu2 ti hr_bz_p1 hP1 hS1 hl
      refine lv_iload_n hx hb dX7_lessen_2 rfl (lv_at hl 0 rfl) (lv_aload_n hx hb dX7_lessen_3 rfl (lv_at hl 1 rfl) ?_)
      obtain ⟨v_2, fv_2, tv_2⟩ := OKX7_g4 ho_p0
      refine qg_X7_4 hx hb hts i_X7 hown hK hP1 0 rfl k_0 fv_2 dX7_lessen_4 ?_
      refine lv_icmp_ge (tgt := 28) hx hb dX7_lessen_7 (by decide) (fun c_3 => ?_) (fun c_3 => ?_)
      · have tc_3 := q_ge c_3
        exact q_vret hx hb hr hlocks hS1 dX7_lessen_28 ⟨bz_p1, hr_bz_p1, hP1, za_t_lessen⟩
      · have tc_3 := q_ltN c_3
        refine lv_aload_n hx hb dX7_lessen_10 rfl (lv_at hl 2 rfl) (lv_iload_n hx hb dX7_lessen_11 rfl (lv_at hl 0 rfl) (lv_iconst (v := 0) hx hb dX7_lessen_12 (by decide) (lv_aload_n hx hb dX7_lessen_13 rfl (lv_at hl 2 rfl) (lv_iload_n hx hb dX7_lessen_14 rfl (lv_at hl 0 rfl) (q_ild hx hb hK hP1 1 0 rfl rfl (q_in (by omega) (by omega)) dX7_lessen_15 (fun v_4 ev_4 => ?_))))))
        have tv_4 := q_rd' hr_bz_p1 (q_in (by omega) (by omega)) ev_4
        refine lv_iload_n hx hb dX7_lessen_16 rfl (lv_at hl 3 rfl) (lv_isub hx hb dX7_lessen_17 (lv_topi fun v_5 ev_5 => ?_))
        have tv_5 := q_sub ev_5 (by omega) (by omega)
        refine va_mmax hx hb (by rw [hml]; exact hl.1.symm) hown k_1 k_2 k_3 k_4 (Nat.le_of_ble_eq_true rfl) (Nat.le_of_ble_eq_true rfl) (Nat.le_of_ble_eq_true rfl) (Nat.le_of_ble_eq_true rfl) dX7_lessen_18 (lv_topi fun v_6 ev_6 => ?_)
        have tv_6 := q_max ev_6
        have rv_6 : 0 ≤ v_6.toInt ∧ v_6.toInt ≤ 99 := by omega
        refine q_ist hx hb hK hP1 hDa za_t_lessen hS1 1 0 rfl rfl (q_in (by omega) (by omega)) dX7_lessen_21 (fun H7 lo7 g7 eg7 (hP7 : va_P (dC, dI) vwCl (zW_t_lessen p0 f_p0 p1 c_p1 g7) H7) hS7 => ?_)
        clear hP1 hS1
        have hr_g7 := q_up' hr_bz_p1 eg7 ⟨by omega, by omega⟩
        obtain ⟨v_8, ev_8⟩ : ∃ y : Int32, y = i + 1 := ⟨_, rfl⟩
        have tv_8 := q_add ev_8 (by omega) (by omega)
        refine lv_iinc (v := v_8) (lv' := [(3, .int v_8), (0, .ref p0), (1, .ref p1), (2, .int a2)]) hx hb dX7_lessen_22 hl (k := 0) rfl (by rw [ev_8]; rfl) (by decide) rfl (fun ls hl => ?_)
        refine lv_goto (tgt := 2) hx hb dX7_lessen_25 (by decide) ?_
        exact ih2 (fu2 - 1) (by omega) v_8 g7 _ _ _ (by omega) (by omega) hr_g7 hP7 hS7 (lv_sub hl [0, 1, 2, 3] rfl)
  exact key2 8 0 b_p1 _ _ _ (by omega) (by omega) hr_p1 hP hS (lv_sub hl [0, 1, 2, 3] rfl)
def zo_t_greatest : List Cond := [.code yX7_greatest cX7_greatest 4 (some .int), .fieldLink RX7 31 "BowWalk$Trial" "walkSteps" "I", .methodLink RX7 45 Lib.Math.max.name, .static Lib.Math.max.name, .initialized "java/lang/Math", .code Lib.Math.max.name Lib.Math.max.code 2 (some .int)]
def zw_t_greatest : List Cond := zo_t_greatest ++ (wsX70 ++ [])
theorem gz_t_greatest : zw_t_greatest.all goodWord = true := p1_ga (by decide +kernel) (p1_ga gk_X7 p1_g0)
theorem iz_t_greatest : ∀ w ∈ zw_t_greatest, w ∈ lw_tbl := p1_ia (p1_all [937, 422, 865, 763, 117, 764] (by decide +kernel)) (p1_ia ik_X7 p1_i0)
def zW_t_greatest (p0 : Nat) (f_p0 : List Value) (p1 : Nat) (c_p1 : ClassId) (b_p1 : Nat → Int32) : va_W := [(p0, .inr (6, f_p0)), (p1, .inl (c_p1, 8, .inl b_p1))]
def zT_t_greatest (c_p1 : ClassId) : List (ClassId × FieldType) := [(c_p1, .int)]
def zA_t_greatest (p0 : Nat) (p1 : Nat) : List Nat := [p0, p1]
theorem za_t_greatest {p0 : Nat} {f_p0 : List Value} {p1 : Nat} {c_p1 : ClassId} {b_p1 : Nat → Int32} : (zW_t_greatest p0 f_p0 p1 c_p1 b_p1).map Prod.fst = (zA_t_greatest p0 p1) := rfl
def zG_t_greatest (p0 : Nat) (f_p0 : List Value) (p1 : Nat) (c_p1 : ClassId) (b_p1 : Nat → Int32) (r : Int32) (X : va_W → Prop) : Prop := ((0) ≤ r.toInt ∧ r.toInt ≤ 99) ∧ X (zW_t_greatest p0 f_p0 p1 c_p1 b_p1)
theorem zm_t_greatest {p0 : Nat} {f_p0 : List Value} {p1 : Nat} {c_p1 : ClassId} {b_p1 : Nat → Int32} : ∀ (r : Int32), ∀ X Y : va_W → Prop, (∀ w, X w → Y w) → zG_t_greatest p0 f_p0 p1 c_p1 b_p1 r X → zG_t_greatest p0 f_p0 p1 c_p1 b_p1 r Y := fun r X Y h h1 => by obtain ⟨x0, hx⟩ := h1; exact ⟨x0, h _ hx⟩
set_option maxHeartbeats 4000000 in
set_option maxRecDepth 100000 in
theorem t_greatest (l : Launch) (dC : Nat → ClassId) (dI : Nat → Nat → Nat) (sz : Nat) (p0 : Nat) (f_p0 : List Value) (p1 : Nat) (c_p1 : ClassId) (b_p1 : Nat → Int32) (ho_p0 : OKX7 f_p0) (hr_p1 : q_rg 8 (0) 99 b_p1) : Met l yX7_greatest zw_t_greatest ({ frames := 1, cells := 0, slots := 0, locals := 22 }) (va_Pc [.ref p0, .ref p1] (q_pre (dC, dI) (zW_t_greatest p0 f_p0 p1 c_p1 b_p1) (zT_t_greatest c_p1) q_E0 sz)) (q_Qi (dC, dI) (zG_t_greatest p0 f_p0 p1 c_p1 b_p1) (zA_t_greatest p0 p1) (va_A (zW_t_greatest p0 f_p0 p1 c_p1 b_p1) sz)) 0 0 (va_A (zW_t_greatest p0 f_p0 p1 c_p1 b_p1) sz) := by
  refine Met.ofW (cc := cX7_greatest) (maxL := 4) (ret := (some .int)) (by decide) rfl ?_
  intro p e s m args below meth c s₁ B hml hv
  obtain ⟨rfl, hsz, hP, hK, hD0, hE⟩ := hv
  have hx := B.exec
  have hb := B.bytes
  have hr := B.returns
  have hts := atoms_spec (ws := zw_t_greatest) B.pre
  have hown : s.vm.findClass RX7 = some m.cls := findClass_of_methodNamed B.named
  have hlocks := B.notSynchronized
  subst hsz
  have hD := hD0.self (sz := s.heap.size)
  generalize hAe : va_A (zW_t_greatest p0 f_p0 p1 c_p1 b_p1) s.heap.size = A at hD hE ⊢
  have hA : ∀ q : Nat, s.heap.size ≤ q → A q := fun q h => by rw [← hAe]; exact Or.inr h
  have hDa : q_DA A (zA_t_greatest p0 p1) := q_DA.mk hD za_t_greatest
  clear hAe hD0 hD
  have hS : va_S A s.heap s.heap [] := va_S.rf
  have m_0 : (.fieldLink RX7 31 "BowWalk$Trial" "walkSteps" "I" : Cond) ∈ zw_t_greatest := List.mem_append_left _ (List.mem_of_getElem? (i := 1) rfl)
  have k_0 := hts _ m_0
  have m_1 : (.methodLink RX7 45 Lib.Math.max.name : Cond) ∈ zw_t_greatest := List.mem_append_left _ (List.mem_of_getElem? (i := 2) rfl)
  have k_1 := hts _ m_1
  have m_2 : (.static Lib.Math.max.name : Cond) ∈ zw_t_greatest := List.mem_append_left _ (List.mem_of_getElem? (i := 3) rfl)
  have k_2 := hts _ m_2
  have m_3 : (.initialized "java/lang/Math" : Cond) ∈ zw_t_greatest := List.mem_append_left _ (List.mem_of_getElem? (i := 4) rfl)
  have k_3 := hts _ m_3
  have m_4 : (.code Lib.Math.max.name Lib.Math.max.code 2 (some .int) : Cond) ∈ zw_t_greatest := List.mem_append_left _ (List.mem_of_getElem? (i := 5) rfl)
  have k_4 := hts _ m_4
  have i_X7 : ∀ w ∈ u_ws RX7 TX7 6, w ∈ zw_t_greatest := fun w h => List.mem_append_right _ (List.mem_append_left _ h)
  have lt_0 : (0 : Int32).toInt = 0 := by decide
  have lt_1 : (1 : Int32).toInt = 1 := by decide
  have hl := lv_entry ([.ref p0, .ref p1]) (n := 4) (Nat.le_of_ble_eq_true rfl)
  rw [lg_entry_eq]
  generalize (lg_sl ([.ref p0, .ref p1]) ++ List.replicate (4 - (lg_sl ([.ref p0, .ref p1])).length) Slot.unset).toArray = ls at hl ⊢
  have hl : lv_has ls 4 [(0, .ref p0), (1, .ref p1)] := hl
  refine lv_iconst (v := 0) hx hb dX7_greatest_0 (by decide) (lv_istore_n (lv' := [(2, .int 0), (0, .ref p0), (1, .ref p1)]) hx hb dX7_greatest_1 rfl hl (by decide) rfl (fun ls hl => ?_))
  refine lv_iconst (v := 0) hx hb dX7_greatest_2 (by decide) (lv_istore_n (lv' := [(3, .int 0), (2, .int 0), (0, .ref p0), (1, .ref p1)]) hx hb dX7_greatest_3 rfl hl (by decide) rfl (fun ls hl => ?_))
  have key4 : ∀ (fu4 : Nat) (mo : Int32) (i : Int32) (H : Heap) (locs : List Loc) (ls : Array Slot) (hfu4 : 8 - i.toInt ≤ (fu4 : Int)) (tmo : (0) ≤ mo.toInt ∧ mo.toInt ≤ 99) (ti : (0) ≤ i.toInt ∧ i.toInt ≤ 8), va_P (dC, dI) vwCl (zW_t_greatest p0 f_p0 p1 c_p1 b_p1) H → va_S A s.heap H locs → lv_has ls 4 [(3, .int i), (2, .int mo), (0, .ref p0), (1, .ref p1)] → W p l e (headSpec zw_t_greatest { frames := 1, cells := 0, slots := 0, locals := 22 }).room s m ([.ref p0, .ref p1] : List Value).toArray below meth c H locs 0 0 (MQ below (q_Qi (dC, dI) (zG_t_greatest p0 f_p0 p1 c_p1 b_p1) (zA_t_greatest p0 p1) A) ([.ref p0, .ref p1] : List Value).toArray s 0 0 A) (F0 m 4 ls []) := by
    intro fu4
    induction fu4 using Nat.strongRecOn with
    | ind fu4 ih4 =>
      intro mo i H1 lo1 ls hfu4 tmo ti hP1 hS1 hl
      refine lv_iload_n hx hb dX7_greatest_4 rfl (lv_at hl 0 rfl) (lv_aload_n hx hb dX7_greatest_5 rfl (lv_at hl 2 rfl) ?_)
      obtain ⟨v_2, fv_2, tv_2⟩ := OKX7_g4 ho_p0
      refine qg_X7_4 hx hb hts i_X7 hown hK hP1 0 rfl k_0 fv_2 dX7_greatest_6 ?_
      refine lv_icmp_ge (tgt := 26) hx hb dX7_greatest_9 (by decide) (fun c_3 => ?_) (fun c_3 => ?_)
      · have tc_3 := q_ge c_3
        refine lv_iload_n hx hb dX7_greatest_26 rfl (lv_at hl 1 rfl) ?_
        exact q_iret hx hb hr hlocks hS1 dX7_greatest_27 ⟨(by omega), hP1, za_t_greatest⟩
      · have tc_3 := q_ltN c_3
        refine lv_iload_n hx hb dX7_greatest_12 rfl (lv_at hl 1 rfl) (lv_aload_n hx hb dX7_greatest_13 rfl (lv_at hl 3 rfl) (lv_iload_n hx hb dX7_greatest_14 rfl (lv_at hl 0 rfl) (q_ild hx hb hK hP1 1 0 rfl rfl (q_in (by omega) (by omega)) dX7_greatest_15 (fun v_4 ev_4 => ?_))))
        have tv_4 := q_rd' hr_p1 (q_in (by omega) (by omega)) ev_4
        refine va_mmax hx hb (by rw [hml]; exact hl.1.symm) hown k_1 k_2 k_3 k_4 (Nat.le_of_ble_eq_true rfl) (Nat.le_of_ble_eq_true rfl) (Nat.le_of_ble_eq_true rfl) (Nat.le_of_ble_eq_true rfl) dX7_greatest_16 (lv_topi fun v_5 ev_5 => ?_)
        have tv_5 := q_max ev_5
        have rv_5 : 0 ≤ v_5.toInt ∧ v_5.toInt ≤ 99 := by omega
        refine lv_istore_n (lv' := [(2, .int v_5), (3, .int i), (0, .ref p0), (1, .ref p1)]) hx hb dX7_greatest_19 rfl hl (by decide) rfl (fun ls hl => ?_)
        obtain ⟨v_6, ev_6⟩ : ∃ y : Int32, y = i + 1 := ⟨_, rfl⟩
        have tv_6 := q_add ev_6 (by omega) (by omega)
        refine lv_iinc (v := v_6) (lv' := [(3, .int v_6), (2, .int v_5), (0, .ref p0), (1, .ref p1)]) hx hb dX7_greatest_20 hl (k := 1) rfl (by rw [ev_6]; rfl) (by decide) rfl (fun ls hl => ?_)
        refine lv_goto (tgt := 4) hx hb dX7_greatest_23 (by decide) ?_
        exact ih4 (fu4 - 1) (by omega) v_5 v_6 _ _ _ (by omega) (by omega) (by omega) hP1 hS1 (lv_sub hl [0, 1, 2, 3] rfl)
  exact key4 8 0 0 _ _ _ (by omega) (by omega) (by omega) hP hS (lv_sub hl [0, 1, 2, 3] rfl)
def zo_t_tbegin : List Cond := [.code yX7_begin cX7_begin 2 none, .fieldLink RX7 12 "BowWalk$Trial" "bow" "LBowWalk$Bow;", .fieldLink RX7 51 "BowWalk$Shop" "once" "[I", .methodLink RX7 54 yX0_begin, .instanceMethod yX0_begin, .selects RX0 yX0_begin yX0_begin, .initialized RX0, .fieldLink RX7 34 "BowWalk$Trial" "at" "I"]
def zw_t_tbegin : List Cond := zo_t_tbegin ++ (zw_t_begin ++ (wsX70 ++ (wsX50 ++ [])))
theorem gz_t_tbegin : zw_t_tbegin.all goodWord = true := p1_ga (by decide +kernel) (p1_ga gz_t_begin (p1_ga gk_X7 (p1_ga gk_X5 p1_g0)))
theorem iz_t_tbegin : ∀ w ∈ zw_t_tbegin, w ∈ lw_tbl := p1_ia (p1_all [842, 414, 217, 843, 742, 743, 112, 423] (by decide +kernel)) (p1_ia iz_t_begin (p1_ia ik_X7 (p1_ia ik_X5 p1_i0)))
def zW_t_tbegin (p0 : Nat) (f_p0 : List Value) (p0_bow : Nat) (f_p0_bow : List Value) (p0_bow_ends : Nat) (c_p0_bow_ends : ClassId) (b_p0_bow_ends : Nat → Int32) (p0_bow_tight : Nat) (c_p0_bow_tight : ClassId) (b_p0_bow_tight : Nat → Int32) (p1 : Nat) (f_p1 : List Value) (p1_once : Nat) (c_p1_once : ClassId) (b_p1_once : Nat → Int32) : va_W := [(p0, .inr (6, f_p0)), (p0_bow, .inr (0, f_p0_bow)), (p0_bow_ends, .inl (c_p0_bow_ends, 2, .inl b_p0_bow_ends)), (p0_bow_tight, .inl (c_p0_bow_tight, 12, .inl b_p0_bow_tight)), (p1, .inr (5, f_p1)), (p1_once, .inl (c_p1_once, 2, .inl b_p1_once))]
def zT_t_tbegin (c_p0_bow_ends : ClassId) (c_p0_bow_tight : ClassId) (c_p1_once : ClassId) : List (ClassId × FieldType) := [(c_p0_bow_ends, .int), (c_p0_bow_tight, .int), (c_p1_once, .int)]
def zA_t_tbegin (p0 : Nat) (p0_bow : Nat) (p0_bow_ends : Nat) (p0_bow_tight : Nat) (p1 : Nat) (p1_once : Nat) : List Nat := [p0, p0_bow, p0_bow_ends, p0_bow_tight, p1, p1_once]
theorem za_t_tbegin {p0 : Nat} {f_p0 : List Value} {p0_bow : Nat} {f_p0_bow : List Value} {p0_bow_ends : Nat} {c_p0_bow_ends : ClassId} {b_p0_bow_ends : Nat → Int32} {p0_bow_tight : Nat} {c_p0_bow_tight : ClassId} {b_p0_bow_tight : Nat → Int32} {p1 : Nat} {f_p1 : List Value} {p1_once : Nat} {c_p1_once : ClassId} {b_p1_once : Nat → Int32} : (zW_t_tbegin p0 f_p0 p0_bow f_p0_bow p0_bow_ends c_p0_bow_ends b_p0_bow_ends p0_bow_tight c_p0_bow_tight b_p0_bow_tight p1 f_p1 p1_once c_p1_once b_p1_once).map Prod.fst = (zA_t_tbegin p0 p0_bow p0_bow_ends p0_bow_tight p1 p1_once) := rfl
def zG_t_tbegin (p0 : Nat) (f_p0 : List Value) (p0_bow : Nat) (f_p0_bow : List Value) (p0_bow_ends : Nat) (c_p0_bow_ends : ClassId) (b_p0_bow_ends : Nat → Int32) (p0_bow_tight : Nat) (c_p0_bow_tight : ClassId) (b_p0_bow_tight : Nat → Int32) (p1 : Nat) (f_p1 : List Value) (p1_once : Nat) (c_p1_once : ClassId) (b_p1_once : Nat → Int32) (X : va_W → Prop) : Prop := ∃ (y_p0 : List Value) (y_p0_bow : List Value) (y_p0_bow_ends : Nat → Int32) (y_p0_bow_tight : Nat → Int32), OKX7 y_p0 ∧ q_fr [5] f_p0 y_p0 ∧ OKX0 y_p0_bow ∧ q_fr [3, 4, 5, 6, 7] f_p0_bow y_p0_bow ∧ X (zW_t_tbegin p0 y_p0 p0_bow y_p0_bow p0_bow_ends c_p0_bow_ends y_p0_bow_ends p0_bow_tight c_p0_bow_tight y_p0_bow_tight p1 f_p1 p1_once c_p1_once b_p1_once)
theorem zm_t_tbegin {p0 : Nat} {f_p0 : List Value} {p0_bow : Nat} {f_p0_bow : List Value} {p0_bow_ends : Nat} {c_p0_bow_ends : ClassId} {b_p0_bow_ends : Nat → Int32} {p0_bow_tight : Nat} {c_p0_bow_tight : ClassId} {b_p0_bow_tight : Nat → Int32} {p1 : Nat} {f_p1 : List Value} {p1_once : Nat} {c_p1_once : ClassId} {b_p1_once : Nat → Int32} : ∀ X Y : va_W → Prop, (∀ w, X w → Y w) → zG_t_tbegin p0 f_p0 p0_bow f_p0_bow p0_bow_ends c_p0_bow_ends b_p0_bow_ends p0_bow_tight c_p0_bow_tight b_p0_bow_tight p1 f_p1 p1_once c_p1_once b_p1_once X → zG_t_tbegin p0 f_p0 p0_bow f_p0_bow p0_bow_ends c_p0_bow_ends b_p0_bow_ends p0_bow_tight c_p0_bow_tight b_p0_bow_tight p1 f_p1 p1_once c_p1_once b_p1_once Y := fun X Y h h1 => by obtain ⟨x0, x1, x2, x3, x4, x5, x6, x7, hx⟩ := h1; exact ⟨x0, x1, x2, x3, x4, x5, x6, x7, h _ hx⟩
set_option maxHeartbeats 4000000 in
set_option maxRecDepth 100000 in
theorem t_tbegin (l : Launch) (dC : Nat → ClassId) (dI : Nat → Nat → Nat) (sz : Nat) (p0 : Nat) (f_p0 : List Value) (p0_bow : Nat) (f_p0_bow : List Value) (p0_bow_ends : Nat) (c_p0_bow_ends : ClassId) (b_p0_bow_ends : Nat → Int32) (p0_bow_tight : Nat) (c_p0_bow_tight : ClassId) (b_p0_bow_tight : Nat → Int32) (p1 : Nat) (f_p1 : List Value) (p1_once : Nat) (c_p1_once : ClassId) (b_p1_once : Nat → Int32) (ho_p0 : OKX7 f_p0) (fr_p0_0 : q_rf f_p0 0 p0_bow) (ho_p0_bow : OKX0 f_p0_bow) (fr_p0_bow_0 : q_rf f_p0_bow 0 p0_bow_tight) (fr_p0_bow_1 : q_rf f_p0_bow 1 p0_bow_ends) (ho_p1 : OKX5 f_p1) (fr_p1_13 : q_rf f_p1 13 p1_once) (hr_p1_once : q_rg 2 (0) 999 b_p1_once) : Met l yX7_begin zw_t_tbegin ({ frames := 1, cells := 0, slots := 0, locals := 22 }) (va_Pc [.ref p0, .ref p1] (q_pre (dC, dI) (zW_t_tbegin p0 f_p0 p0_bow f_p0_bow p0_bow_ends c_p0_bow_ends b_p0_bow_ends p0_bow_tight c_p0_bow_tight b_p0_bow_tight p1 f_p1 p1_once c_p1_once b_p1_once) (zT_t_tbegin c_p0_bow_ends c_p0_bow_tight c_p1_once) q_E0 sz)) (q_Qv (dC, dI) (zG_t_tbegin p0 f_p0 p0_bow f_p0_bow p0_bow_ends c_p0_bow_ends b_p0_bow_ends p0_bow_tight c_p0_bow_tight b_p0_bow_tight p1 f_p1 p1_once c_p1_once b_p1_once) (zA_t_tbegin p0 p0_bow p0_bow_ends p0_bow_tight p1 p1_once) (va_A (zW_t_tbegin p0 f_p0 p0_bow f_p0_bow p0_bow_ends c_p0_bow_ends b_p0_bow_ends p0_bow_tight c_p0_bow_tight b_p0_bow_tight p1 f_p1 p1_once c_p1_once b_p1_once) sz)) 0 0 (va_A (zW_t_tbegin p0 f_p0 p0_bow f_p0_bow p0_bow_ends c_p0_bow_ends b_p0_bow_ends p0_bow_tight c_p0_bow_tight b_p0_bow_tight p1 f_p1 p1_once c_p1_once b_p1_once) sz) := by
  refine Met.ofW (cc := cX7_begin) (maxL := 2) (ret := none) (by decide) rfl ?_
  intro p e s m args below meth c s₁ B hml hv
  obtain ⟨rfl, hsz, hP, hK, hD0, hE⟩ := hv
  have hx := B.exec
  have hb := B.bytes
  have hr := B.returns
  have hts := atoms_spec (ws := zw_t_tbegin) B.pre
  have hown : s.vm.findClass RX7 = some m.cls := findClass_of_methodNamed B.named
  have hlocks := B.notSynchronized
  subst hsz
  have hD := hD0.self (sz := s.heap.size)
  generalize hAe : va_A (zW_t_tbegin p0 f_p0 p0_bow f_p0_bow p0_bow_ends c_p0_bow_ends b_p0_bow_ends p0_bow_tight c_p0_bow_tight b_p0_bow_tight p1 f_p1 p1_once c_p1_once b_p1_once) s.heap.size = A at hD hE ⊢
  have hA : ∀ q : Nat, s.heap.size ≤ q → A q := fun q h => by rw [← hAe]; exact Or.inr h
  have hDa : q_DA A (zA_t_tbegin p0 p0_bow p0_bow_ends p0_bow_tight p1 p1_once) := q_DA.mk hD za_t_tbegin
  clear hAe hD0 hD
  have hS : va_S A s.heap s.heap [] := va_S.rf
  have m_0 : (.fieldLink RX7 12 "BowWalk$Trial" "bow" "LBowWalk$Bow;" : Cond) ∈ zw_t_tbegin := List.mem_append_left _ (List.mem_of_getElem? (i := 1) rfl)
  have k_0 := hts _ m_0
  have m_1 : (.fieldLink RX7 51 "BowWalk$Shop" "once" "[I" : Cond) ∈ zw_t_tbegin := List.mem_append_left _ (List.mem_of_getElem? (i := 2) rfl)
  have k_1 := hts _ m_1
  have m_2 : (.methodLink RX7 54 yX0_begin : Cond) ∈ zw_t_tbegin := List.mem_append_left _ (List.mem_of_getElem? (i := 3) rfl)
  have k_2 := hts _ m_2
  have m_3 : (.instanceMethod yX0_begin : Cond) ∈ zw_t_tbegin := List.mem_append_left _ (List.mem_of_getElem? (i := 4) rfl)
  have k_3 := hts _ m_3
  have m_4 : (.selects RX0 yX0_begin yX0_begin : Cond) ∈ zw_t_tbegin := List.mem_append_left _ (List.mem_of_getElem? (i := 5) rfl)
  have k_4 := hts _ m_4
  have m_5 : (.initialized RX0 : Cond) ∈ zw_t_tbegin := List.mem_append_left _ (List.mem_of_getElem? (i := 6) rfl)
  have k_5 := hts _ m_5
  have m_6 : (.fieldLink RX7 34 "BowWalk$Trial" "at" "I" : Cond) ∈ zw_t_tbegin := List.mem_append_left _ (List.mem_of_getElem? (i := 7) rfl)
  have k_6 := hts _ m_6
  have g_t_begin : ∀ w ∈ zw_t_begin, w ∈ zw_t_tbegin := fun w h => List.mem_append_right _ (List.mem_append_left _ h)
  have i_X7 : ∀ w ∈ u_ws RX7 TX7 6, w ∈ zw_t_tbegin := fun w h => List.mem_append_right _ (List.mem_append_right _ (List.mem_append_left _ h))
  have i_X5 : ∀ w ∈ u_ws RX5 TX5 15, w ∈ zw_t_tbegin := fun w h => List.mem_append_right _ (List.mem_append_right _ (List.mem_append_right _ (List.mem_append_left _ h)))
  have lt_0 : (0 : Int32).toInt = 0 := by decide
  have hl := lv_entry ([.ref p0, .ref p1]) (n := 2) (Nat.le_of_ble_eq_true rfl)
  rw [lg_entry_eq]
  generalize (lg_sl ([.ref p0, .ref p1]) ++ List.replicate (2 - (lg_sl ([.ref p0, .ref p1])).length) Slot.unset).toArray = ls at hl ⊢
  have hl : lv_has ls 2 [(0, .ref p0), (1, .ref p1)] := hl
  refine lv_aload_n hx hb dX7_begin_0 rfl (lv_at hl 0 rfl) (qg_X7_0 hx hb hts i_X7 hown hK hP 0 rfl k_0 fr_p0_0 dX7_begin_1 (lv_aload_n hx hb dX7_begin_4 rfl (lv_at hl 1 rfl) (qg_X5_13 hx hb hts i_X5 hown hK hP 4 rfl k_1 fr_p1_13 dX7_begin_5 (lv_iconst (v := 0) hx hb dX7_begin_8 (by decide) (q_ild hx hb hK hP 5 2 rfl rfl (p1_in (i := 0) (n := 2) (by decide)) dX7_begin_9 (fun v_1 ev_1 => ?_))))))
  have tv_1 := q_rd' hr_p1_once (p1_in (i := 0) (n := 2) (by decide)) ev_1
  refine q_cVv (As := [.int v_1]) (rest := []) q_w0 trivial hK hP hDa za_t_tbegin hS hA [1, 2, 3] [0, 1] (by decide +kernel) ⟨hx, hb, hml, hown, hts⟩ (t_begin l dC dI s.heap.size p0_bow f_p0_bow p0_bow_ends c_p0_bow_ends b_p0_bow_ends p0_bow_tight c_p0_bow_tight b_p0_bow_tight v_1 ho_p0_bow fr_p0_bow_0 fr_p0_bow_1) rfl rfl (cwV 1 hts (p1_gV m_2 m_3 m_4 m_5 g_t_begin gz_t_begin) rfl rfl rfl (by decide +kernel) ⟨by decide, by decide⟩) (va_recv hK hP (ci := 0) (q0 := 1) rfl rfl) zm_t_begin rfl hl.1 rfl (Nat.le_of_ble_eq_true rfl) dX7_begin_10 ⟨by decide, by decide⟩ (fun H3 lo3 hG3 hS3 => ?_)
  obtain ⟨o_4, o_5, o_6, ho_7, hf_8, hQ3⟩ := hG3
  have hP3 : va_P (dC, dI) vwCl (zW_t_tbegin p0 f_p0 p0_bow o_4 p0_bow_ends c_p0_bow_ends o_5 p0_bow_tight c_p0_bow_tight o_6 p1 f_p1 p1_once c_p1_once b_p1_once) H3 := hQ3
  clear hQ3 hP hS
  refine lv_aload_n hx hb dX7_begin_13 rfl (lv_at hl 0 rfl) (lv_iconst (v := 0) hx hb dX7_begin_14 (by decide) (qp_X7_5 hx hb hts i_X7 hown hK hP3 hDa za_t_tbegin hS3 0 rfl k_6 (OKX7_l ho_p0) dX7_begin_15 (fun H9 lo9 fs9 efs9 (hP9 : va_P (dC, dI) vwCl (zW_t_tbegin p0 fs9 p0_bow o_4 p0_bow_ends c_p0_bow_ends o_5 p0_bow_tight c_p0_bow_tight o_6 p1 f_p1 p1_once c_p1_once b_p1_once) H9) hS9 => ?_)))
  have ho9 := OKX7_p5 ho_p0 efs9 ⟨by omega, by omega⟩
  clear hP3 hS3
  exact q_vret hx hb hr hlocks hS9 dX7_begin_18 ⟨fs9, o_4, o_5, o_6, ho9, (q_fr.rf.st efs9 (by decide)), ho_7, (q_fr.rf.tr hf_8 (by decide)), hP9, za_t_tbegin⟩
def zo_t_advance : List Cond := [.code yX7_advance cX7_advance 3 (some .int), .fieldLink RX7 34 "BowWalk$Trial" "at" "I", .fieldLink RX7 31 "BowWalk$Trial" "walkSteps" "I", .fieldLink RX7 12 "BowWalk$Trial" "bow" "LBowWalk$Bow;", .fieldLink RX7 58 "BowWalk$Shop" "laws" "LBowWalk$Laws;", .fieldLink RX7 27 "BowWalk$Trial" "law" "I", .fieldLink RX7 20 "BowWalk$Trial" "strikes" "[I", .fieldLink RX7 24 "BowWalk$Trial" "swings" "[I", .methodLink RX7 62 yX0_goStep, .instanceMethod yX0_goStep, .selects RX0 yX0_goStep yX0_goStep, .initialized RX0]
def zw_t_advance : List Cond := zo_t_advance ++ (zw_t_goStep ++ (wsX70 ++ (wsX50 ++ [])))
theorem gz_t_advance : zw_t_advance.all goodWord = true := p1_ga (by decide +kernel) (p1_ga gz_t_goStep (p1_ga gk_X7 (p1_ga gk_X5 p1_g0)))
theorem iz_t_advance : ∀ w ∈ zw_t_advance, w ∈ lw_tbl := p1_ia (p1_all [847, 423, 422, 414, 214, 420, 416, 418, 848, 766, 767, 112] (by decide +kernel)) (p1_ia iz_t_goStep (p1_ia ik_X7 (p1_ia ik_X5 p1_i0)))
def zW_t_advance (p0 : Nat) (f_p0 : List Value) (p0_bow : Nat) (f_p0_bow : List Value) (p0_bow_ends : Nat) (c_p0_bow_ends : ClassId) (b_p0_bow_ends : Nat → Int32) (p0_bow_tight : Nat) (c_p0_bow_tight : ClassId) (b_p0_bow_tight : Nat → Int32) (p0_strikes : Nat) (c_p0_strikes : ClassId) (b_p0_strikes : Nat → Int32) (p0_swings : Nat) (c_p0_swings : ClassId) (b_p0_swings : Nat → Int32) (p1 : Nat) (f_p1 : List Value) (p1_laws : Nat) (f_p1_laws : List Value) (p1_laws_behind : Nat) (c_p1_laws_behind : ClassId) (b_p1_laws_behind : Nat → Int32) (p1_laws_code : Nat) (c_p1_laws_code : ClassId) (b_p1_laws_code : Nat → Int32) (p1_laws_stack : Nat) (c_p1_laws_stack : ClassId) (b_p1_laws_stack : Nat → Int32) : va_W := [(p0, .inr (6, f_p0)), (p0_bow, .inr (0, f_p0_bow)), (p0_bow_ends, .inl (c_p0_bow_ends, 2, .inl b_p0_bow_ends)), (p0_bow_tight, .inl (c_p0_bow_tight, 12, .inl b_p0_bow_tight)), (p0_strikes, .inl (c_p0_strikes, 8, .inl b_p0_strikes)), (p0_swings, .inl (c_p0_swings, 8, .inl b_p0_swings)), (p1, .inr (5, f_p1)), (p1_laws, .inr (3, f_p1_laws)), (p1_laws_behind, .inl (c_p1_laws_behind, 6, .inl b_p1_laws_behind)), (p1_laws_code, .inl (c_p1_laws_code, 600, .inl b_p1_laws_code)), (p1_laws_stack, .inl (c_p1_laws_stack, 60, .inl b_p1_laws_stack))]
def zT_t_advance (c_p0_bow_ends : ClassId) (c_p0_bow_tight : ClassId) (c_p0_strikes : ClassId) (c_p0_swings : ClassId) (c_p1_laws_behind : ClassId) (c_p1_laws_code : ClassId) (c_p1_laws_stack : ClassId) : List (ClassId × FieldType) := [(c_p0_bow_ends, .int), (c_p0_bow_tight, .int), (c_p0_strikes, .int), (c_p0_swings, .int), (c_p1_laws_behind, .int), (c_p1_laws_code, .int), (c_p1_laws_stack, .int)]
def zA_t_advance (p0 : Nat) (p0_bow : Nat) (p0_bow_ends : Nat) (p0_bow_tight : Nat) (p0_strikes : Nat) (p0_swings : Nat) (p1 : Nat) (p1_laws : Nat) (p1_laws_behind : Nat) (p1_laws_code : Nat) (p1_laws_stack : Nat) : List Nat := [p0, p0_bow, p0_bow_ends, p0_bow_tight, p0_strikes, p0_swings, p1, p1_laws, p1_laws_behind, p1_laws_code, p1_laws_stack]
theorem za_t_advance {p0 : Nat} {f_p0 : List Value} {p0_bow : Nat} {f_p0_bow : List Value} {p0_bow_ends : Nat} {c_p0_bow_ends : ClassId} {b_p0_bow_ends : Nat → Int32} {p0_bow_tight : Nat} {c_p0_bow_tight : ClassId} {b_p0_bow_tight : Nat → Int32} {p0_strikes : Nat} {c_p0_strikes : ClassId} {b_p0_strikes : Nat → Int32} {p0_swings : Nat} {c_p0_swings : ClassId} {b_p0_swings : Nat → Int32} {p1 : Nat} {f_p1 : List Value} {p1_laws : Nat} {f_p1_laws : List Value} {p1_laws_behind : Nat} {c_p1_laws_behind : ClassId} {b_p1_laws_behind : Nat → Int32} {p1_laws_code : Nat} {c_p1_laws_code : ClassId} {b_p1_laws_code : Nat → Int32} {p1_laws_stack : Nat} {c_p1_laws_stack : ClassId} {b_p1_laws_stack : Nat → Int32} : (zW_t_advance p0 f_p0 p0_bow f_p0_bow p0_bow_ends c_p0_bow_ends b_p0_bow_ends p0_bow_tight c_p0_bow_tight b_p0_bow_tight p0_strikes c_p0_strikes b_p0_strikes p0_swings c_p0_swings b_p0_swings p1 f_p1 p1_laws f_p1_laws p1_laws_behind c_p1_laws_behind b_p1_laws_behind p1_laws_code c_p1_laws_code b_p1_laws_code p1_laws_stack c_p1_laws_stack b_p1_laws_stack).map Prod.fst = (zA_t_advance p0 p0_bow p0_bow_ends p0_bow_tight p0_strikes p0_swings p1 p1_laws p1_laws_behind p1_laws_code p1_laws_stack) := rfl
def zG_t_advance (p0 : Nat) (f_p0 : List Value) (p0_bow : Nat) (f_p0_bow : List Value) (p0_bow_ends : Nat) (c_p0_bow_ends : ClassId) (b_p0_bow_ends : Nat → Int32) (p0_bow_tight : Nat) (c_p0_bow_tight : ClassId) (b_p0_bow_tight : Nat → Int32) (p0_strikes : Nat) (c_p0_strikes : ClassId) (b_p0_strikes : Nat → Int32) (p0_swings : Nat) (c_p0_swings : ClassId) (b_p0_swings : Nat → Int32) (p1 : Nat) (f_p1 : List Value) (p1_laws : Nat) (f_p1_laws : List Value) (p1_laws_behind : Nat) (c_p1_laws_behind : ClassId) (b_p1_laws_behind : Nat → Int32) (p1_laws_code : Nat) (c_p1_laws_code : ClassId) (b_p1_laws_code : Nat → Int32) (p1_laws_stack : Nat) (c_p1_laws_stack : ClassId) (b_p1_laws_stack : Nat → Int32) (r : Int32) (X : va_W → Prop) : Prop := ∃ (y_p0 : List Value) (y_p0_bow : List Value) (y_p0_bow_ends : Nat → Int32) (y_p0_bow_tight : Nat → Int32) (y_p1_laws_stack : Nat → Int32), OKX7 y_p0 ∧ q_fr [5] f_p0 y_p0 ∧ OKX0 y_p0_bow ∧ q_fr [3, 5, 13, 14] f_p0_bow y_p0_bow ∧ X (zW_t_advance p0 y_p0 p0_bow y_p0_bow p0_bow_ends c_p0_bow_ends y_p0_bow_ends p0_bow_tight c_p0_bow_tight y_p0_bow_tight p0_strikes c_p0_strikes b_p0_strikes p0_swings c_p0_swings b_p0_swings p1 f_p1 p1_laws f_p1_laws p1_laws_behind c_p1_laws_behind b_p1_laws_behind p1_laws_code c_p1_laws_code b_p1_laws_code p1_laws_stack c_p1_laws_stack y_p1_laws_stack)
theorem zm_t_advance {p0 : Nat} {f_p0 : List Value} {p0_bow : Nat} {f_p0_bow : List Value} {p0_bow_ends : Nat} {c_p0_bow_ends : ClassId} {b_p0_bow_ends : Nat → Int32} {p0_bow_tight : Nat} {c_p0_bow_tight : ClassId} {b_p0_bow_tight : Nat → Int32} {p0_strikes : Nat} {c_p0_strikes : ClassId} {b_p0_strikes : Nat → Int32} {p0_swings : Nat} {c_p0_swings : ClassId} {b_p0_swings : Nat → Int32} {p1 : Nat} {f_p1 : List Value} {p1_laws : Nat} {f_p1_laws : List Value} {p1_laws_behind : Nat} {c_p1_laws_behind : ClassId} {b_p1_laws_behind : Nat → Int32} {p1_laws_code : Nat} {c_p1_laws_code : ClassId} {b_p1_laws_code : Nat → Int32} {p1_laws_stack : Nat} {c_p1_laws_stack : ClassId} {b_p1_laws_stack : Nat → Int32} : ∀ (r : Int32), ∀ X Y : va_W → Prop, (∀ w, X w → Y w) → zG_t_advance p0 f_p0 p0_bow f_p0_bow p0_bow_ends c_p0_bow_ends b_p0_bow_ends p0_bow_tight c_p0_bow_tight b_p0_bow_tight p0_strikes c_p0_strikes b_p0_strikes p0_swings c_p0_swings b_p0_swings p1 f_p1 p1_laws f_p1_laws p1_laws_behind c_p1_laws_behind b_p1_laws_behind p1_laws_code c_p1_laws_code b_p1_laws_code p1_laws_stack c_p1_laws_stack b_p1_laws_stack r X → zG_t_advance p0 f_p0 p0_bow f_p0_bow p0_bow_ends c_p0_bow_ends b_p0_bow_ends p0_bow_tight c_p0_bow_tight b_p0_bow_tight p0_strikes c_p0_strikes b_p0_strikes p0_swings c_p0_swings b_p0_swings p1 f_p1 p1_laws f_p1_laws p1_laws_behind c_p1_laws_behind b_p1_laws_behind p1_laws_code c_p1_laws_code b_p1_laws_code p1_laws_stack c_p1_laws_stack b_p1_laws_stack r Y := fun r X Y h h1 => by obtain ⟨x0, x1, x2, x3, x4, x5, x6, x7, x8, hx⟩ := h1; exact ⟨x0, x1, x2, x3, x4, x5, x6, x7, x8, h _ hx⟩
set_option maxHeartbeats 4000000 in
set_option maxRecDepth 100000 in
theorem t_advance (l : Launch) (dC : Nat → ClassId) (dI : Nat → Nat → Nat) (sz : Nat) (p0 : Nat) (f_p0 : List Value) (p0_bow : Nat) (f_p0_bow : List Value) (p0_bow_ends : Nat) (c_p0_bow_ends : ClassId) (b_p0_bow_ends : Nat → Int32) (p0_bow_tight : Nat) (c_p0_bow_tight : ClassId) (b_p0_bow_tight : Nat → Int32) (p0_strikes : Nat) (c_p0_strikes : ClassId) (b_p0_strikes : Nat → Int32) (p0_swings : Nat) (c_p0_swings : ClassId) (b_p0_swings : Nat → Int32) (p1 : Nat) (f_p1 : List Value) (p1_laws : Nat) (f_p1_laws : List Value) (p1_laws_behind : Nat) (c_p1_laws_behind : ClassId) (b_p1_laws_behind : Nat → Int32) (p1_laws_code : Nat) (c_p1_laws_code : ClassId) (b_p1_laws_code : Nat → Int32) (p1_laws_stack : Nat) (c_p1_laws_stack : ClassId) (b_p1_laws_stack : Nat → Int32) (ho_p0 : OKX7 f_p0) (fr_p0_0 : q_rf f_p0 0 p0_bow) (fr_p0_1 : q_rf f_p0 1 p0_strikes) (fr_p0_2 : q_rf f_p0 2 p0_swings) (ho_p0_bow : OKX0 f_p0_bow) (fr_p0_bow_0 : q_rf f_p0_bow 0 p0_bow_tight) (fr_p0_bow_1 : q_rf f_p0_bow 1 p0_bow_ends) (hr_p0_strikes : q_rg 8 (0) 99 b_p0_strikes) (hr_p0_swings : q_rg 8 (0) 99 b_p0_swings) (ho_p1 : OKX5 f_p1) (fr_p1_12 : q_rf f_p1 12 p1_laws) (ho_p1_laws : OKX3 f_p1_laws) (fr_p1_laws_0 : q_rf f_p1_laws 0 p1_laws_code) (fr_p1_laws_1 : q_rf f_p1_laws 1 p1_laws_behind) (fr_p1_laws_2 : q_rf f_p1_laws 2 p1_laws_stack) (hr_p1_laws_behind : q_rg 6 (0) 600 b_p1_laws_behind) : Met l yX7_advance zw_t_advance ({ frames := 4, cells := 0, slots := 0, locals := 100 }) (va_Pc [.ref p0, .ref p1] (q_pre (dC, dI) (zW_t_advance p0 f_p0 p0_bow f_p0_bow p0_bow_ends c_p0_bow_ends b_p0_bow_ends p0_bow_tight c_p0_bow_tight b_p0_bow_tight p0_strikes c_p0_strikes b_p0_strikes p0_swings c_p0_swings b_p0_swings p1 f_p1 p1_laws f_p1_laws p1_laws_behind c_p1_laws_behind b_p1_laws_behind p1_laws_code c_p1_laws_code b_p1_laws_code p1_laws_stack c_p1_laws_stack b_p1_laws_stack) (zT_t_advance c_p0_bow_ends c_p0_bow_tight c_p0_strikes c_p0_swings c_p1_laws_behind c_p1_laws_code c_p1_laws_stack) q_E0 sz)) (q_Qi (dC, dI) (zG_t_advance p0 f_p0 p0_bow f_p0_bow p0_bow_ends c_p0_bow_ends b_p0_bow_ends p0_bow_tight c_p0_bow_tight b_p0_bow_tight p0_strikes c_p0_strikes b_p0_strikes p0_swings c_p0_swings b_p0_swings p1 f_p1 p1_laws f_p1_laws p1_laws_behind c_p1_laws_behind b_p1_laws_behind p1_laws_code c_p1_laws_code b_p1_laws_code p1_laws_stack c_p1_laws_stack b_p1_laws_stack) (zA_t_advance p0 p0_bow p0_bow_ends p0_bow_tight p0_strikes p0_swings p1 p1_laws p1_laws_behind p1_laws_code p1_laws_stack) (va_A (zW_t_advance p0 f_p0 p0_bow f_p0_bow p0_bow_ends c_p0_bow_ends b_p0_bow_ends p0_bow_tight c_p0_bow_tight b_p0_bow_tight p0_strikes c_p0_strikes b_p0_strikes p0_swings c_p0_swings b_p0_swings p1 f_p1 p1_laws f_p1_laws p1_laws_behind c_p1_laws_behind b_p1_laws_behind p1_laws_code c_p1_laws_code b_p1_laws_code p1_laws_stack c_p1_laws_stack b_p1_laws_stack) sz)) 0 0 (va_A (zW_t_advance p0 f_p0 p0_bow f_p0_bow p0_bow_ends c_p0_bow_ends b_p0_bow_ends p0_bow_tight c_p0_bow_tight b_p0_bow_tight p0_strikes c_p0_strikes b_p0_strikes p0_swings c_p0_swings b_p0_swings p1 f_p1 p1_laws f_p1_laws p1_laws_behind c_p1_laws_behind b_p1_laws_behind p1_laws_code c_p1_laws_code b_p1_laws_code p1_laws_stack c_p1_laws_stack b_p1_laws_stack) sz) := by
  refine Met.ofW (cc := cX7_advance) (maxL := 3) (ret := (some .int)) (by decide) rfl ?_
  intro p e s m args below meth c s₁ B hml hv
  obtain ⟨rfl, hsz, hP, hK, hD0, hE⟩ := hv
  have hx := B.exec
  have hb := B.bytes
  have hr := B.returns
  have hts := atoms_spec (ws := zw_t_advance) B.pre
  have hown : s.vm.findClass RX7 = some m.cls := findClass_of_methodNamed B.named
  have hlocks := B.notSynchronized
  subst hsz
  have hD := hD0.self (sz := s.heap.size)
  generalize hAe : va_A (zW_t_advance p0 f_p0 p0_bow f_p0_bow p0_bow_ends c_p0_bow_ends b_p0_bow_ends p0_bow_tight c_p0_bow_tight b_p0_bow_tight p0_strikes c_p0_strikes b_p0_strikes p0_swings c_p0_swings b_p0_swings p1 f_p1 p1_laws f_p1_laws p1_laws_behind c_p1_laws_behind b_p1_laws_behind p1_laws_code c_p1_laws_code b_p1_laws_code p1_laws_stack c_p1_laws_stack b_p1_laws_stack) s.heap.size = A at hD hE ⊢
  have hA : ∀ q : Nat, s.heap.size ≤ q → A q := fun q h => by rw [← hAe]; exact Or.inr h
  have hDa : q_DA A (zA_t_advance p0 p0_bow p0_bow_ends p0_bow_tight p0_strikes p0_swings p1 p1_laws p1_laws_behind p1_laws_code p1_laws_stack) := q_DA.mk hD za_t_advance
  clear hAe hD0 hD
  have hS : va_S A s.heap s.heap [] := va_S.rf
  have m_0 : (.fieldLink RX7 34 "BowWalk$Trial" "at" "I" : Cond) ∈ zw_t_advance := List.mem_append_left _ (List.mem_of_getElem? (i := 1) rfl)
  have k_0 := hts _ m_0
  have m_1 : (.fieldLink RX7 31 "BowWalk$Trial" "walkSteps" "I" : Cond) ∈ zw_t_advance := List.mem_append_left _ (List.mem_of_getElem? (i := 2) rfl)
  have k_1 := hts _ m_1
  have m_2 : (.fieldLink RX7 12 "BowWalk$Trial" "bow" "LBowWalk$Bow;" : Cond) ∈ zw_t_advance := List.mem_append_left _ (List.mem_of_getElem? (i := 3) rfl)
  have k_2 := hts _ m_2
  have m_3 : (.fieldLink RX7 58 "BowWalk$Shop" "laws" "LBowWalk$Laws;" : Cond) ∈ zw_t_advance := List.mem_append_left _ (List.mem_of_getElem? (i := 4) rfl)
  have k_3 := hts _ m_3
  have m_4 : (.fieldLink RX7 27 "BowWalk$Trial" "law" "I" : Cond) ∈ zw_t_advance := List.mem_append_left _ (List.mem_of_getElem? (i := 5) rfl)
  have k_4 := hts _ m_4
  have m_5 : (.fieldLink RX7 20 "BowWalk$Trial" "strikes" "[I" : Cond) ∈ zw_t_advance := List.mem_append_left _ (List.mem_of_getElem? (i := 6) rfl)
  have k_5 := hts _ m_5
  have m_6 : (.fieldLink RX7 24 "BowWalk$Trial" "swings" "[I" : Cond) ∈ zw_t_advance := List.mem_append_left _ (List.mem_of_getElem? (i := 7) rfl)
  have k_6 := hts _ m_6
  have m_7 : (.methodLink RX7 62 yX0_goStep : Cond) ∈ zw_t_advance := List.mem_append_left _ (List.mem_of_getElem? (i := 8) rfl)
  have k_7 := hts _ m_7
  have m_8 : (.instanceMethod yX0_goStep : Cond) ∈ zw_t_advance := List.mem_append_left _ (List.mem_of_getElem? (i := 9) rfl)
  have k_8 := hts _ m_8
  have m_9 : (.selects RX0 yX0_goStep yX0_goStep : Cond) ∈ zw_t_advance := List.mem_append_left _ (List.mem_of_getElem? (i := 10) rfl)
  have k_9 := hts _ m_9
  have m_10 : (.initialized RX0 : Cond) ∈ zw_t_advance := List.mem_append_left _ (List.mem_of_getElem? (i := 11) rfl)
  have k_10 := hts _ m_10
  have g_t_goStep : ∀ w ∈ zw_t_goStep, w ∈ zw_t_advance := fun w h => List.mem_append_right _ (List.mem_append_left _ h)
  have i_X7 : ∀ w ∈ u_ws RX7 TX7 6, w ∈ zw_t_advance := fun w h => List.mem_append_right _ (List.mem_append_right _ (List.mem_append_left _ h))
  have i_X5 : ∀ w ∈ u_ws RX5 TX5 15, w ∈ zw_t_advance := fun w h => List.mem_append_right _ (List.mem_append_right _ (List.mem_append_right _ (List.mem_append_left _ h)))
  have lt_0 : (0 : Int32).toInt = 0 := by decide
  have lt_1 : (1 : Int32).toInt = 1 := by decide
  have hl := lv_entry ([.ref p0, .ref p1]) (n := 3) (Nat.le_of_ble_eq_true rfl)
  rw [lg_entry_eq]
  generalize (lg_sl ([.ref p0, .ref p1]) ++ List.replicate (3 - (lg_sl ([.ref p0, .ref p1])).length) Slot.unset).toArray = ls at hl ⊢
  have hl : lv_has ls 3 [(0, .ref p0), (1, .ref p1)] := hl
  refine lv_aload_n hx hb dX7_advance_0 rfl (lv_at hl 0 rfl) ?_
  obtain ⟨v_1, fv_1, tv_1⟩ := OKX7_g5 ho_p0
  refine qg_X7_5 hx hb hts i_X7 hown hK hP 0 rfl k_0 fv_1 dX7_advance_1 (lv_istore_n (lv' := [(2, .int v_1), (0, .ref p0), (1, .ref p1)]) hx hb dX7_advance_4 rfl hl (by decide) rfl (fun ls hl => ?_))
  refine lv_aload_n hx hb dX7_advance_5 rfl (lv_at hl 1 rfl) (lv_aload_n hx hb dX7_advance_6 rfl (lv_at hl 1 rfl) (qg_X7_5 hx hb hts i_X7 hown hK hP 0 rfl k_0 fv_1 dX7_advance_7 (lv_iconst (v := 1) hx hb dX7_advance_10 (by decide) (lv_iadd hx hb dX7_advance_11 (lv_topi fun v_2 ev_2 => ?_)))))
  have tv_2 := q_add ev_2 (by omega) (by omega)
  refine lv_aload_n hx hb dX7_advance_12 rfl (lv_at hl 1 rfl) ?_
  obtain ⟨v_3, fv_3, tv_3⟩ := OKX7_g4 ho_p0
  refine qg_X7_4 hx hb hts i_X7 hown hK hP 0 rfl k_1 fv_3 dX7_advance_13 ?_
  refine lv_icmp_ge (tgt := 28) hx hb dX7_advance_16 (by decide) (fun c_4 => ?_) (fun c_4 => ?_)
  · have tc_4 := q_ge c_4
    refine lv_iconst (v := 0) hx hb dX7_advance_28 (by decide) (qp_X7_5 hx hb hts i_X7 hown hK hP hDa za_t_advance hS 0 rfl k_0 (OKX7_l ho_p0) dX7_advance_29 (fun H5 lo5 fs5 efs5 (hP5 : va_P (dC, dI) vwCl (zW_t_advance p0 fs5 p0_bow f_p0_bow p0_bow_ends c_p0_bow_ends b_p0_bow_ends p0_bow_tight c_p0_bow_tight b_p0_bow_tight p0_strikes c_p0_strikes b_p0_strikes p0_swings c_p0_swings b_p0_swings p1 f_p1 p1_laws f_p1_laws p1_laws_behind c_p1_laws_behind b_p1_laws_behind p1_laws_code c_p1_laws_code b_p1_laws_code p1_laws_stack c_p1_laws_stack b_p1_laws_stack) H5) hS5 => ?_))
    have ho5 := OKX7_p5 ho_p0 efs5 ⟨by omega, by omega⟩
    clear hP hS
    refine lv_aload_n hx hb dX7_advance_32 rfl (lv_at hl 1 rfl) (qg_X7_0 hx hb hts i_X7 hown hK hP5 0 rfl k_2 (q_sn efs5 (by decide) fr_p0_0) dX7_advance_33 (lv_aload_n hx hb dX7_advance_36 rfl (lv_at hl 2 rfl) (qg_X5_12 hx hb hts i_X5 hown hK hP5 6 rfl k_3 fr_p1_12 dX7_advance_37 (lv_aload_n hx hb dX7_advance_40 rfl (lv_at hl 1 rfl) ?_))))
    obtain ⟨v_6, fv_6⟩ := OKX7_g3 ho5
    refine qg_X7_3 hx hb hts i_X7 hown hK hP5 0 rfl k_4 fv_6 dX7_advance_41 (lv_aload_n hx hb dX7_advance_44 rfl (lv_at hl 1 rfl) (qg_X7_1 hx hb hts i_X7 hown hK hP5 0 rfl k_5 (q_sn efs5 (by decide) fr_p0_1) dX7_advance_45 (lv_iload_n hx hb dX7_advance_48 rfl (lv_at hl 0 rfl) (q_ild hx hb hK hP5 4 2 rfl rfl (q_in (by omega) (by omega)) dX7_advance_49 (fun v_7 ev_7 => ?_)))))
    have tv_7 := q_rd' hr_p0_strikes (q_in (by omega) (by omega)) ev_7
    refine lv_aload_n hx hb dX7_advance_50 rfl (lv_at hl 1 rfl) (qg_X7_2 hx hb hts i_X7 hown hK hP5 0 rfl k_6 (q_sn efs5 (by decide) fr_p0_2) dX7_advance_51 (lv_iload_n hx hb dX7_advance_54 rfl (lv_at hl 0 rfl) (q_ild hx hb hK hP5 5 3 rfl rfl (q_in (by omega) (by omega)) dX7_advance_55 (fun v_8 ev_8 => ?_))))
    have tv_8 := q_rd' hr_p0_swings (q_in (by omega) (by omega)) ev_8
    refine q_cVi (As := [.ref p1_laws, .int v_6, .int v_7, .int v_8]) (rest := []) q_w0 trivial hK hP5 hDa za_t_advance hS5 hA [1, 2, 3, 7, 8, 9, 10] [0, 1, 4, 5, 6] (by decide +kernel) ⟨hx, hb, hml, hown, hts⟩ (t_goStep l dC dI H5.size p0_bow f_p0_bow p0_bow_ends c_p0_bow_ends b_p0_bow_ends p0_bow_tight c_p0_bow_tight b_p0_bow_tight p1_laws f_p1_laws p1_laws_behind c_p1_laws_behind b_p1_laws_behind p1_laws_code c_p1_laws_code b_p1_laws_code p1_laws_stack c_p1_laws_stack b_p1_laws_stack v_6 v_7 v_8 ho_p0_bow fr_p0_bow_0 fr_p0_bow_1 ho_p1_laws fr_p1_laws_0 fr_p1_laws_1 fr_p1_laws_2 hr_p1_laws_behind) rfl rfl (cwV 4 hts (p1_gV m_7 m_8 m_9 m_10 g_t_goStep gz_t_goStep) rfl rfl rfl (by decide +kernel) ⟨by decide, by decide⟩) (va_recv hK hP5 (ci := 0) (q0 := 1) rfl rfl) zm_t_goStep rfl hl.1 rfl (Nat.le_of_ble_eq_true rfl) dX7_advance_56 ⟨by decide, by decide⟩ (fun r_9 H10 lo10 hG10 hS10 => ?_)
    obtain ⟨o_11, o_12, o_13, o_14, ho_15, hf_16, hQ10⟩ := hG10
    have hP10 : va_P (dC, dI) vwCl (zW_t_advance p0 fs5 p0_bow o_11 p0_bow_ends c_p0_bow_ends o_12 p0_bow_tight c_p0_bow_tight o_13 p0_strikes c_p0_strikes b_p0_strikes p0_swings c_p0_swings b_p0_swings p1 f_p1 p1_laws f_p1_laws p1_laws_behind c_p1_laws_behind b_p1_laws_behind p1_laws_code c_p1_laws_code b_p1_laws_code p1_laws_stack c_p1_laws_stack o_14) H10 := hQ10
    clear hQ10 hP5 hS5
    exact q_iret hx hb hr hlocks hS10 dX7_advance_59 ⟨fs5, o_11, o_12, o_13, o_14, ho5, (q_fr.rf.st efs5 (by decide)), ho_15, (q_fr.rf.tr hf_16 (by decide)), hP10, za_t_advance⟩
  · have tc_4 := q_ltN c_4
    refine lv_aload_n hx hb dX7_advance_19 rfl (lv_at hl 1 rfl) (qg_X7_5 hx hb hts i_X7 hown hK hP 0 rfl k_0 fv_1 dX7_advance_20 (lv_iconst (v := 1) hx hb dX7_advance_23 (by decide) (lv_iadd hx hb dX7_advance_24 (lv_topi fun v_17 ev_17 => ?_))))
    have tv_17 := q_add ev_17 (by omega) (by omega)
    refine lv_goto (tgt := 29) hx hb dX7_advance_25 (by decide) (qp_X7_5 hx hb hts i_X7 hown hK hP hDa za_t_advance hS 0 rfl k_0 (OKX7_l ho_p0) dX7_advance_29 (fun H18 lo18 fs18 efs18 (hP18 : va_P (dC, dI) vwCl (zW_t_advance p0 fs18 p0_bow f_p0_bow p0_bow_ends c_p0_bow_ends b_p0_bow_ends p0_bow_tight c_p0_bow_tight b_p0_bow_tight p0_strikes c_p0_strikes b_p0_strikes p0_swings c_p0_swings b_p0_swings p1 f_p1 p1_laws f_p1_laws p1_laws_behind c_p1_laws_behind b_p1_laws_behind p1_laws_code c_p1_laws_code b_p1_laws_code p1_laws_stack c_p1_laws_stack b_p1_laws_stack) H18) hS18 => ?_))
    have ho18 := OKX7_p5 ho_p0 efs18 ⟨by omega, by omega⟩
    clear hP hS
    refine lv_aload_n hx hb dX7_advance_32 rfl (lv_at hl 1 rfl) (qg_X7_0 hx hb hts i_X7 hown hK hP18 0 rfl k_2 (q_sn efs18 (by decide) fr_p0_0) dX7_advance_33 (lv_aload_n hx hb dX7_advance_36 rfl (lv_at hl 2 rfl) (qg_X5_12 hx hb hts i_X5 hown hK hP18 6 rfl k_3 fr_p1_12 dX7_advance_37 (lv_aload_n hx hb dX7_advance_40 rfl (lv_at hl 1 rfl) ?_))))
    obtain ⟨v_19, fv_19⟩ := OKX7_g3 ho18
    refine qg_X7_3 hx hb hts i_X7 hown hK hP18 0 rfl k_4 fv_19 dX7_advance_41 (lv_aload_n hx hb dX7_advance_44 rfl (lv_at hl 1 rfl) (qg_X7_1 hx hb hts i_X7 hown hK hP18 0 rfl k_5 (q_sn efs18 (by decide) fr_p0_1) dX7_advance_45 (lv_iload_n hx hb dX7_advance_48 rfl (lv_at hl 0 rfl) (q_ild hx hb hK hP18 4 2 rfl rfl (q_in (by omega) (by omega)) dX7_advance_49 (fun v_20 ev_20 => ?_)))))
    have tv_20 := q_rd' hr_p0_strikes (q_in (by omega) (by omega)) ev_20
    refine lv_aload_n hx hb dX7_advance_50 rfl (lv_at hl 1 rfl) (qg_X7_2 hx hb hts i_X7 hown hK hP18 0 rfl k_6 (q_sn efs18 (by decide) fr_p0_2) dX7_advance_51 (lv_iload_n hx hb dX7_advance_54 rfl (lv_at hl 0 rfl) (q_ild hx hb hK hP18 5 3 rfl rfl (q_in (by omega) (by omega)) dX7_advance_55 (fun v_21 ev_21 => ?_))))
    have tv_21 := q_rd' hr_p0_swings (q_in (by omega) (by omega)) ev_21
    refine q_cVi (As := [.ref p1_laws, .int v_19, .int v_20, .int v_21]) (rest := []) q_w0 trivial hK hP18 hDa za_t_advance hS18 hA [1, 2, 3, 7, 8, 9, 10] [0, 1, 4, 5, 6] (by decide +kernel) ⟨hx, hb, hml, hown, hts⟩ (t_goStep l dC dI H18.size p0_bow f_p0_bow p0_bow_ends c_p0_bow_ends b_p0_bow_ends p0_bow_tight c_p0_bow_tight b_p0_bow_tight p1_laws f_p1_laws p1_laws_behind c_p1_laws_behind b_p1_laws_behind p1_laws_code c_p1_laws_code b_p1_laws_code p1_laws_stack c_p1_laws_stack b_p1_laws_stack v_19 v_20 v_21 ho_p0_bow fr_p0_bow_0 fr_p0_bow_1 ho_p1_laws fr_p1_laws_0 fr_p1_laws_1 fr_p1_laws_2 hr_p1_laws_behind) rfl rfl (cwV 4 hts (p1_gV m_7 m_8 m_9 m_10 g_t_goStep gz_t_goStep) rfl rfl rfl (by decide +kernel) ⟨by decide, by decide⟩) (va_recv hK hP18 (ci := 0) (q0 := 1) rfl rfl) zm_t_goStep rfl hl.1 rfl (Nat.le_of_ble_eq_true rfl) dX7_advance_56 ⟨by decide, by decide⟩ (fun r_22 H23 lo23 hG23 hS23 => ?_)
    obtain ⟨o_24, o_25, o_26, o_27, ho_28, hf_29, hQ23⟩ := hG23
    have hP23 : va_P (dC, dI) vwCl (zW_t_advance p0 fs18 p0_bow o_24 p0_bow_ends c_p0_bow_ends o_25 p0_bow_tight c_p0_bow_tight o_26 p0_strikes c_p0_strikes b_p0_strikes p0_swings c_p0_swings b_p0_swings p1 f_p1 p1_laws f_p1_laws p1_laws_behind c_p1_laws_behind b_p1_laws_behind p1_laws_code c_p1_laws_code b_p1_laws_code p1_laws_stack c_p1_laws_stack o_27) H23 := hQ23
    clear hQ23 hP18 hS18
    exact q_iret hx hb hr hlocks hS23 dX7_advance_59 ⟨fs18, o_24, o_25, o_26, o_27, ho18, (q_fr.rf.st efs18 (by decide)), ho_28, (q_fr.rf.tr hf_29 (by decide)), hP23, za_t_advance⟩
def zo_t_stepsHeld : List Cond := [.code yX7_stepsHeld cX7_stepsHeld 4 (some .int), .methodLink RX7 66 yX7_begin, .instanceMethod yX7_begin, .selects RX7 yX7_begin yX7_begin, .initialized RX7, .methodLink RX7 69 yX7_advance, .instanceMethod yX7_advance, .selects RX7 yX7_advance yX7_advance, .fieldLink RX7 12 "BowWalk$Trial" "bow" "LBowWalk$Bow;", .fieldLink RX7 73 "BowWalk$Bow" "left" "I", .fieldLink RX7 31 "BowWalk$Trial" "walkSteps" "I"]
def zw_t_stepsHeld : List Cond := zo_t_stepsHeld ++ (zw_t_tbegin ++ (zw_t_advance ++ (wsX70 ++ (wsX00 ++ []))))
theorem gz_t_stepsHeld : zw_t_stepsHeld.all goodWord = true := p1_ga (by decide +kernel) (p1_ga gz_t_tbegin (p1_ga gz_t_advance (p1_ga gk_X7 (p1_ga gk_X0 p1_g0))))
theorem iz_t_stepsHeld : ∀ w ∈ zw_t_stepsHeld, w ∈ lw_tbl := p1_ia (p1_all [838, 839, 841, 32, 113, 844, 846, 33, 414, 358, 422] (by decide +kernel)) (p1_ia iz_t_tbegin (p1_ia iz_t_advance (p1_ia ik_X7 (p1_ia ik_X0 p1_i0))))
def zW_t_stepsHeld (p0 : Nat) (f_p0 : List Value) (p0_bow : Nat) (f_p0_bow : List Value) (p0_bow_ends : Nat) (c_p0_bow_ends : ClassId) (b_p0_bow_ends : Nat → Int32) (p0_bow_tight : Nat) (c_p0_bow_tight : ClassId) (b_p0_bow_tight : Nat → Int32) (p0_strikes : Nat) (c_p0_strikes : ClassId) (b_p0_strikes : Nat → Int32) (p0_swings : Nat) (c_p0_swings : ClassId) (b_p0_swings : Nat → Int32) (p1 : Nat) (f_p1 : List Value) (p1_laws : Nat) (f_p1_laws : List Value) (p1_laws_behind : Nat) (c_p1_laws_behind : ClassId) (b_p1_laws_behind : Nat → Int32) (p1_laws_code : Nat) (c_p1_laws_code : ClassId) (b_p1_laws_code : Nat → Int32) (p1_laws_stack : Nat) (c_p1_laws_stack : ClassId) (b_p1_laws_stack : Nat → Int32) (p1_once : Nat) (c_p1_once : ClassId) (b_p1_once : Nat → Int32) : va_W := [(p0, .inr (6, f_p0)), (p0_bow, .inr (0, f_p0_bow)), (p0_bow_ends, .inl (c_p0_bow_ends, 2, .inl b_p0_bow_ends)), (p0_bow_tight, .inl (c_p0_bow_tight, 12, .inl b_p0_bow_tight)), (p0_strikes, .inl (c_p0_strikes, 8, .inl b_p0_strikes)), (p0_swings, .inl (c_p0_swings, 8, .inl b_p0_swings)), (p1, .inr (5, f_p1)), (p1_laws, .inr (3, f_p1_laws)), (p1_laws_behind, .inl (c_p1_laws_behind, 6, .inl b_p1_laws_behind)), (p1_laws_code, .inl (c_p1_laws_code, 600, .inl b_p1_laws_code)), (p1_laws_stack, .inl (c_p1_laws_stack, 60, .inl b_p1_laws_stack)), (p1_once, .inl (c_p1_once, 2, .inl b_p1_once))]
def zT_t_stepsHeld (c_p0_bow_ends : ClassId) (c_p0_bow_tight : ClassId) (c_p0_strikes : ClassId) (c_p0_swings : ClassId) (c_p1_laws_behind : ClassId) (c_p1_laws_code : ClassId) (c_p1_laws_stack : ClassId) (c_p1_once : ClassId) : List (ClassId × FieldType) := [(c_p0_bow_ends, .int), (c_p0_bow_tight, .int), (c_p0_strikes, .int), (c_p0_swings, .int), (c_p1_laws_behind, .int), (c_p1_laws_code, .int), (c_p1_laws_stack, .int), (c_p1_once, .int)]
def zA_t_stepsHeld (p0 : Nat) (p0_bow : Nat) (p0_bow_ends : Nat) (p0_bow_tight : Nat) (p0_strikes : Nat) (p0_swings : Nat) (p1 : Nat) (p1_laws : Nat) (p1_laws_behind : Nat) (p1_laws_code : Nat) (p1_laws_stack : Nat) (p1_once : Nat) : List Nat := [p0, p0_bow, p0_bow_ends, p0_bow_tight, p0_strikes, p0_swings, p1, p1_laws, p1_laws_behind, p1_laws_code, p1_laws_stack, p1_once]
theorem za_t_stepsHeld {p0 : Nat} {f_p0 : List Value} {p0_bow : Nat} {f_p0_bow : List Value} {p0_bow_ends : Nat} {c_p0_bow_ends : ClassId} {b_p0_bow_ends : Nat → Int32} {p0_bow_tight : Nat} {c_p0_bow_tight : ClassId} {b_p0_bow_tight : Nat → Int32} {p0_strikes : Nat} {c_p0_strikes : ClassId} {b_p0_strikes : Nat → Int32} {p0_swings : Nat} {c_p0_swings : ClassId} {b_p0_swings : Nat → Int32} {p1 : Nat} {f_p1 : List Value} {p1_laws : Nat} {f_p1_laws : List Value} {p1_laws_behind : Nat} {c_p1_laws_behind : ClassId} {b_p1_laws_behind : Nat → Int32} {p1_laws_code : Nat} {c_p1_laws_code : ClassId} {b_p1_laws_code : Nat → Int32} {p1_laws_stack : Nat} {c_p1_laws_stack : ClassId} {b_p1_laws_stack : Nat → Int32} {p1_once : Nat} {c_p1_once : ClassId} {b_p1_once : Nat → Int32} : (zW_t_stepsHeld p0 f_p0 p0_bow f_p0_bow p0_bow_ends c_p0_bow_ends b_p0_bow_ends p0_bow_tight c_p0_bow_tight b_p0_bow_tight p0_strikes c_p0_strikes b_p0_strikes p0_swings c_p0_swings b_p0_swings p1 f_p1 p1_laws f_p1_laws p1_laws_behind c_p1_laws_behind b_p1_laws_behind p1_laws_code c_p1_laws_code b_p1_laws_code p1_laws_stack c_p1_laws_stack b_p1_laws_stack p1_once c_p1_once b_p1_once).map Prod.fst = (zA_t_stepsHeld p0 p0_bow p0_bow_ends p0_bow_tight p0_strikes p0_swings p1 p1_laws p1_laws_behind p1_laws_code p1_laws_stack p1_once) := rfl
def zG_t_stepsHeld (p0 : Nat) (f_p0 : List Value) (p0_bow : Nat) (f_p0_bow : List Value) (p0_bow_ends : Nat) (c_p0_bow_ends : ClassId) (b_p0_bow_ends : Nat → Int32) (p0_bow_tight : Nat) (c_p0_bow_tight : ClassId) (b_p0_bow_tight : Nat → Int32) (p0_strikes : Nat) (c_p0_strikes : ClassId) (b_p0_strikes : Nat → Int32) (p0_swings : Nat) (c_p0_swings : ClassId) (b_p0_swings : Nat → Int32) (p1 : Nat) (f_p1 : List Value) (p1_laws : Nat) (f_p1_laws : List Value) (p1_laws_behind : Nat) (c_p1_laws_behind : ClassId) (b_p1_laws_behind : Nat → Int32) (p1_laws_code : Nat) (c_p1_laws_code : ClassId) (b_p1_laws_code : Nat → Int32) (p1_laws_stack : Nat) (c_p1_laws_stack : ClassId) (b_p1_laws_stack : Nat → Int32) (p1_once : Nat) (c_p1_once : ClassId) (b_p1_once : Nat → Int32) (r : Int32) (X : va_W → Prop) : Prop := ∃ (y_p0 : List Value) (y_p0_bow : List Value) (y_p0_bow_ends : Nat → Int32) (y_p0_bow_tight : Nat → Int32) (y_p1_laws_stack : Nat → Int32), ((0) ≤ r.toInt ∧ r.toInt ≤ 2000) ∧ OKX7 y_p0 ∧ q_fr [5] f_p0 y_p0 ∧ OKX0 y_p0_bow ∧ q_fr [3, 4, 5, 6, 7, 13, 14] f_p0_bow y_p0_bow ∧ X (zW_t_stepsHeld p0 y_p0 p0_bow y_p0_bow p0_bow_ends c_p0_bow_ends y_p0_bow_ends p0_bow_tight c_p0_bow_tight y_p0_bow_tight p0_strikes c_p0_strikes b_p0_strikes p0_swings c_p0_swings b_p0_swings p1 f_p1 p1_laws f_p1_laws p1_laws_behind c_p1_laws_behind b_p1_laws_behind p1_laws_code c_p1_laws_code b_p1_laws_code p1_laws_stack c_p1_laws_stack y_p1_laws_stack p1_once c_p1_once b_p1_once)
theorem zm_t_stepsHeld {p0 : Nat} {f_p0 : List Value} {p0_bow : Nat} {f_p0_bow : List Value} {p0_bow_ends : Nat} {c_p0_bow_ends : ClassId} {b_p0_bow_ends : Nat → Int32} {p0_bow_tight : Nat} {c_p0_bow_tight : ClassId} {b_p0_bow_tight : Nat → Int32} {p0_strikes : Nat} {c_p0_strikes : ClassId} {b_p0_strikes : Nat → Int32} {p0_swings : Nat} {c_p0_swings : ClassId} {b_p0_swings : Nat → Int32} {p1 : Nat} {f_p1 : List Value} {p1_laws : Nat} {f_p1_laws : List Value} {p1_laws_behind : Nat} {c_p1_laws_behind : ClassId} {b_p1_laws_behind : Nat → Int32} {p1_laws_code : Nat} {c_p1_laws_code : ClassId} {b_p1_laws_code : Nat → Int32} {p1_laws_stack : Nat} {c_p1_laws_stack : ClassId} {b_p1_laws_stack : Nat → Int32} {p1_once : Nat} {c_p1_once : ClassId} {b_p1_once : Nat → Int32} : ∀ (r : Int32), ∀ X Y : va_W → Prop, (∀ w, X w → Y w) → zG_t_stepsHeld p0 f_p0 p0_bow f_p0_bow p0_bow_ends c_p0_bow_ends b_p0_bow_ends p0_bow_tight c_p0_bow_tight b_p0_bow_tight p0_strikes c_p0_strikes b_p0_strikes p0_swings c_p0_swings b_p0_swings p1 f_p1 p1_laws f_p1_laws p1_laws_behind c_p1_laws_behind b_p1_laws_behind p1_laws_code c_p1_laws_code b_p1_laws_code p1_laws_stack c_p1_laws_stack b_p1_laws_stack p1_once c_p1_once b_p1_once r X → zG_t_stepsHeld p0 f_p0 p0_bow f_p0_bow p0_bow_ends c_p0_bow_ends b_p0_bow_ends p0_bow_tight c_p0_bow_tight b_p0_bow_tight p0_strikes c_p0_strikes b_p0_strikes p0_swings c_p0_swings b_p0_swings p1 f_p1 p1_laws f_p1_laws p1_laws_behind c_p1_laws_behind b_p1_laws_behind p1_laws_code c_p1_laws_code b_p1_laws_code p1_laws_stack c_p1_laws_stack b_p1_laws_stack p1_once c_p1_once b_p1_once r Y := fun r X Y h h1 => by obtain ⟨x0, x1, x2, x3, x4, x5, x6, x7, x8, x9, hx⟩ := h1; exact ⟨x0, x1, x2, x3, x4, x5, x6, x7, x8, x9, h _ hx⟩
set_option maxHeartbeats 4000000 in
set_option maxRecDepth 100000 in
theorem t_stepsHeld (l : Launch) (dC : Nat → ClassId) (dI : Nat → Nat → Nat) (sz : Nat) (p0 : Nat) (f_p0 : List Value) (p0_bow : Nat) (f_p0_bow : List Value) (p0_bow_ends : Nat) (c_p0_bow_ends : ClassId) (b_p0_bow_ends : Nat → Int32) (p0_bow_tight : Nat) (c_p0_bow_tight : ClassId) (b_p0_bow_tight : Nat → Int32) (p0_strikes : Nat) (c_p0_strikes : ClassId) (b_p0_strikes : Nat → Int32) (p0_swings : Nat) (c_p0_swings : ClassId) (b_p0_swings : Nat → Int32) (p1 : Nat) (f_p1 : List Value) (p1_laws : Nat) (f_p1_laws : List Value) (p1_laws_behind : Nat) (c_p1_laws_behind : ClassId) (b_p1_laws_behind : Nat → Int32) (p1_laws_code : Nat) (c_p1_laws_code : ClassId) (b_p1_laws_code : Nat → Int32) (p1_laws_stack : Nat) (c_p1_laws_stack : ClassId) (b_p1_laws_stack : Nat → Int32) (p1_once : Nat) (c_p1_once : ClassId) (b_p1_once : Nat → Int32) (ho_p0 : OKX7 f_p0) (fr_p0_0 : q_rf f_p0 0 p0_bow) (fr_p0_1 : q_rf f_p0 1 p0_strikes) (fr_p0_2 : q_rf f_p0 2 p0_swings) (ho_p0_bow : OKX0 f_p0_bow) (fr_p0_bow_0 : q_rf f_p0_bow 0 p0_bow_tight) (fr_p0_bow_1 : q_rf f_p0_bow 1 p0_bow_ends) (hr_p0_strikes : q_rg 8 (0) 99 b_p0_strikes) (hr_p0_swings : q_rg 8 (0) 99 b_p0_swings) (ho_p1 : OKX5 f_p1) (fr_p1_12 : q_rf f_p1 12 p1_laws) (fr_p1_13 : q_rf f_p1 13 p1_once) (ho_p1_laws : OKX3 f_p1_laws) (fr_p1_laws_0 : q_rf f_p1_laws 0 p1_laws_code) (fr_p1_laws_1 : q_rf f_p1_laws 1 p1_laws_behind) (fr_p1_laws_2 : q_rf f_p1_laws 2 p1_laws_stack) (hr_p1_laws_behind : q_rg 6 (0) 600 b_p1_laws_behind) (hr_p1_once : q_rg 2 (0) 999 b_p1_once) : Met l yX7_stepsHeld zw_t_stepsHeld ({ frames := 5, cells := 0, slots := 0, locals := 122 }) (va_Pc [.ref p0, .ref p1] (q_pre (dC, dI) (zW_t_stepsHeld p0 f_p0 p0_bow f_p0_bow p0_bow_ends c_p0_bow_ends b_p0_bow_ends p0_bow_tight c_p0_bow_tight b_p0_bow_tight p0_strikes c_p0_strikes b_p0_strikes p0_swings c_p0_swings b_p0_swings p1 f_p1 p1_laws f_p1_laws p1_laws_behind c_p1_laws_behind b_p1_laws_behind p1_laws_code c_p1_laws_code b_p1_laws_code p1_laws_stack c_p1_laws_stack b_p1_laws_stack p1_once c_p1_once b_p1_once) (zT_t_stepsHeld c_p0_bow_ends c_p0_bow_tight c_p0_strikes c_p0_swings c_p1_laws_behind c_p1_laws_code c_p1_laws_stack c_p1_once) q_E0 sz)) (q_Qi (dC, dI) (zG_t_stepsHeld p0 f_p0 p0_bow f_p0_bow p0_bow_ends c_p0_bow_ends b_p0_bow_ends p0_bow_tight c_p0_bow_tight b_p0_bow_tight p0_strikes c_p0_strikes b_p0_strikes p0_swings c_p0_swings b_p0_swings p1 f_p1 p1_laws f_p1_laws p1_laws_behind c_p1_laws_behind b_p1_laws_behind p1_laws_code c_p1_laws_code b_p1_laws_code p1_laws_stack c_p1_laws_stack b_p1_laws_stack p1_once c_p1_once b_p1_once) (zA_t_stepsHeld p0 p0_bow p0_bow_ends p0_bow_tight p0_strikes p0_swings p1 p1_laws p1_laws_behind p1_laws_code p1_laws_stack p1_once) (va_A (zW_t_stepsHeld p0 f_p0 p0_bow f_p0_bow p0_bow_ends c_p0_bow_ends b_p0_bow_ends p0_bow_tight c_p0_bow_tight b_p0_bow_tight p0_strikes c_p0_strikes b_p0_strikes p0_swings c_p0_swings b_p0_swings p1 f_p1 p1_laws f_p1_laws p1_laws_behind c_p1_laws_behind b_p1_laws_behind p1_laws_code c_p1_laws_code b_p1_laws_code p1_laws_stack c_p1_laws_stack b_p1_laws_stack p1_once c_p1_once b_p1_once) sz)) 0 0 (va_A (zW_t_stepsHeld p0 f_p0 p0_bow f_p0_bow p0_bow_ends c_p0_bow_ends b_p0_bow_ends p0_bow_tight c_p0_bow_tight b_p0_bow_tight p0_strikes c_p0_strikes b_p0_strikes p0_swings c_p0_swings b_p0_swings p1 f_p1 p1_laws f_p1_laws p1_laws_behind c_p1_laws_behind b_p1_laws_behind p1_laws_code c_p1_laws_code b_p1_laws_code p1_laws_stack c_p1_laws_stack b_p1_laws_stack p1_once c_p1_once b_p1_once) sz) := by
  refine Met.ofW (cc := cX7_stepsHeld) (maxL := 4) (ret := (some .int)) (by decide) rfl ?_
  intro p e s m args below meth c s₁ B hml hv
  obtain ⟨rfl, hsz, hP, hK, hD0, hE⟩ := hv
  have hx := B.exec
  have hb := B.bytes
  have hr := B.returns
  have hts := atoms_spec (ws := zw_t_stepsHeld) B.pre
  have hown : s.vm.findClass RX7 = some m.cls := findClass_of_methodNamed B.named
  have hlocks := B.notSynchronized
  subst hsz
  have hD := hD0.self (sz := s.heap.size)
  generalize hAe : va_A (zW_t_stepsHeld p0 f_p0 p0_bow f_p0_bow p0_bow_ends c_p0_bow_ends b_p0_bow_ends p0_bow_tight c_p0_bow_tight b_p0_bow_tight p0_strikes c_p0_strikes b_p0_strikes p0_swings c_p0_swings b_p0_swings p1 f_p1 p1_laws f_p1_laws p1_laws_behind c_p1_laws_behind b_p1_laws_behind p1_laws_code c_p1_laws_code b_p1_laws_code p1_laws_stack c_p1_laws_stack b_p1_laws_stack p1_once c_p1_once b_p1_once) s.heap.size = A at hD hE ⊢
  have hA : ∀ q : Nat, s.heap.size ≤ q → A q := fun q h => by rw [← hAe]; exact Or.inr h
  have hDa : q_DA A (zA_t_stepsHeld p0 p0_bow p0_bow_ends p0_bow_tight p0_strikes p0_swings p1 p1_laws p1_laws_behind p1_laws_code p1_laws_stack p1_once) := q_DA.mk hD za_t_stepsHeld
  clear hAe hD0 hD
  have hS : va_S A s.heap s.heap [] := va_S.rf
  have m_0 : (.methodLink RX7 66 yX7_begin : Cond) ∈ zw_t_stepsHeld := List.mem_append_left _ (List.mem_of_getElem? (i := 1) rfl)
  have k_0 := hts _ m_0
  have m_1 : (.instanceMethod yX7_begin : Cond) ∈ zw_t_stepsHeld := List.mem_append_left _ (List.mem_of_getElem? (i := 2) rfl)
  have k_1 := hts _ m_1
  have m_2 : (.selects RX7 yX7_begin yX7_begin : Cond) ∈ zw_t_stepsHeld := List.mem_append_left _ (List.mem_of_getElem? (i := 3) rfl)
  have k_2 := hts _ m_2
  have m_3 : (.initialized RX7 : Cond) ∈ zw_t_stepsHeld := List.mem_append_left _ (List.mem_of_getElem? (i := 4) rfl)
  have k_3 := hts _ m_3
  have m_4 : (.methodLink RX7 69 yX7_advance : Cond) ∈ zw_t_stepsHeld := List.mem_append_left _ (List.mem_of_getElem? (i := 5) rfl)
  have k_4 := hts _ m_4
  have m_5 : (.instanceMethod yX7_advance : Cond) ∈ zw_t_stepsHeld := List.mem_append_left _ (List.mem_of_getElem? (i := 6) rfl)
  have k_5 := hts _ m_5
  have m_6 : (.selects RX7 yX7_advance yX7_advance : Cond) ∈ zw_t_stepsHeld := List.mem_append_left _ (List.mem_of_getElem? (i := 7) rfl)
  have k_6 := hts _ m_6
  have m_7 : (.fieldLink RX7 12 "BowWalk$Trial" "bow" "LBowWalk$Bow;" : Cond) ∈ zw_t_stepsHeld := List.mem_append_left _ (List.mem_of_getElem? (i := 8) rfl)
  have k_7 := hts _ m_7
  have m_8 : (.fieldLink RX7 73 "BowWalk$Bow" "left" "I" : Cond) ∈ zw_t_stepsHeld := List.mem_append_left _ (List.mem_of_getElem? (i := 9) rfl)
  have k_8 := hts _ m_8
  have m_9 : (.fieldLink RX7 31 "BowWalk$Trial" "walkSteps" "I" : Cond) ∈ zw_t_stepsHeld := List.mem_append_left _ (List.mem_of_getElem? (i := 10) rfl)
  have k_9 := hts _ m_9
  have g_t_tbegin : ∀ w ∈ zw_t_tbegin, w ∈ zw_t_stepsHeld := fun w h => List.mem_append_right _ (List.mem_append_left _ h)
  have g_t_advance : ∀ w ∈ zw_t_advance, w ∈ zw_t_stepsHeld := fun w h => List.mem_append_right _ (List.mem_append_right _ (List.mem_append_left _ h))
  have i_X7 : ∀ w ∈ u_ws RX7 TX7 6, w ∈ zw_t_stepsHeld := fun w h => List.mem_append_right _ (List.mem_append_right _ (List.mem_append_right _ (List.mem_append_left _ h)))
  have i_X0 : ∀ w ∈ u_ws RX0 TX0 15, w ∈ zw_t_stepsHeld := fun w h => List.mem_append_right _ (List.mem_append_right _ (List.mem_append_right _ (List.mem_append_right _ (List.mem_append_left _ h))))
  have lt_0 : (0 : Int32).toInt = 0 := by decide
  have lt_1 : (1 : Int32).toInt = 1 := by decide
  have lt_2000 : (2000 : Int32).toInt = 2000 := by decide
  have hl := lv_entry ([.ref p0, .ref p1]) (n := 4) (Nat.le_of_ble_eq_true rfl)
  rw [lg_entry_eq]
  generalize (lg_sl ([.ref p0, .ref p1]) ++ List.replicate (4 - (lg_sl ([.ref p0, .ref p1])).length) Slot.unset).toArray = ls at hl ⊢
  have hl : lv_has ls 4 [(0, .ref p0), (1, .ref p1)] := hl
  refine lv_aload_n hx hb dX7_stepsHeld_0 rfl (lv_at hl 0 rfl) (lv_aload_n hx hb dX7_stepsHeld_1 rfl (lv_at hl 1 rfl) ?_)
  refine q_cVv (As := [.ref p1]) (rest := []) q_w0 trivial hK hP hDa za_t_stepsHeld hS hA [0, 1, 2, 3, 6, 11] [0, 1, 7] (by decide +kernel) ⟨hx, hb, hml, hown, hts⟩ (t_tbegin l dC dI s.heap.size p0 f_p0 p0_bow f_p0_bow p0_bow_ends c_p0_bow_ends b_p0_bow_ends p0_bow_tight c_p0_bow_tight b_p0_bow_tight p1 f_p1 p1_once c_p1_once b_p1_once ho_p0 fr_p0_0 ho_p0_bow fr_p0_bow_0 fr_p0_bow_1 ho_p1 fr_p1_13 hr_p1_once) rfl rfl (cwV 1 hts (p1_gV m_0 m_1 m_2 m_3 g_t_tbegin gz_t_tbegin) rfl rfl rfl (by decide +kernel) ⟨by decide, by decide⟩) (va_recv hK hP (ci := 6) (q0 := 0) rfl rfl) zm_t_tbegin rfl hl.1 rfl (Nat.le_of_ble_eq_true rfl) dX7_stepsHeld_2 ⟨by decide, by decide⟩ (fun H2 lo2 hG2 hS2 => ?_)
  obtain ⟨o_3, o_4, o_5, o_6, ho_7, hf_8, ho_9, hf_10, hQ2⟩ := hG2
  have hP2 : va_P (dC, dI) vwCl (zW_t_stepsHeld p0 o_3 p0_bow o_4 p0_bow_ends c_p0_bow_ends o_5 p0_bow_tight c_p0_bow_tight o_6 p0_strikes c_p0_strikes b_p0_strikes p0_swings c_p0_swings b_p0_swings p1 f_p1 p1_laws f_p1_laws p1_laws_behind c_p1_laws_behind b_p1_laws_behind p1_laws_code c_p1_laws_code b_p1_laws_code p1_laws_stack c_p1_laws_stack b_p1_laws_stack p1_once c_p1_once b_p1_once) H2 := hQ2
  clear hQ2 hP hS
  refine lv_iconst (v := 0) hx hb dX7_stepsHeld_5 (by decide) (lv_istore_n (lv' := [(2, .int 0), (0, .ref p0), (1, .ref p1)]) hx hb dX7_stepsHeld_6 rfl hl (by decide) rfl (fun ls hl => ?_))
  refine lv_iconst (v := 1) hx hb dX7_stepsHeld_7 (by decide) (lv_istore_n (lv' := [(3, .int 1), (2, .int 0), (0, .ref p0), (1, .ref p1)]) hx hb dX7_stepsHeld_8 rfl hl (by decide) rfl (fun ls hl => ?_))
  have key9 : ∀ (fu9 : Nat) (idl : Int32) (st : Int32) (fz_p0 : List Value) (fz_p0_bow : List Value) (bz_p0_bow_ends : Nat → Int32) (bz_p0_bow_tight : Nat → Int32) (bz_p1_laws_stack : Nat → Int32) (H : Heap) (locs : List Loc) (ls : Array Slot) (hfu9 : 2001 - st.toInt ≤ (fu9 : Int)) (tst : (1) ≤ st.toInt ∧ st.toInt ≤ 2001) (ho_fz_p0 : OKX7 fz_p0) (hf_fz_p0 : q_fr [5] f_p0 fz_p0) (fr_fz_p0_0 : q_rf fz_p0 0 p0_bow) (fr_fz_p0_1 : q_rf fz_p0 1 p0_strikes) (fr_fz_p0_2 : q_rf fz_p0 2 p0_swings) (ho_fz_p0_bow : OKX0 fz_p0_bow) (hf_fz_p0_bow : q_fr [3, 4, 5, 6, 7, 13, 14] f_p0_bow fz_p0_bow) (fr_fz_p0_bow_0 : q_rf fz_p0_bow 0 p0_bow_tight) (fr_fz_p0_bow_1 : q_rf fz_p0_bow 1 p0_bow_ends), va_P (dC, dI) vwCl (zW_t_stepsHeld p0 fz_p0 p0_bow fz_p0_bow p0_bow_ends c_p0_bow_ends bz_p0_bow_ends p0_bow_tight c_p0_bow_tight bz_p0_bow_tight p0_strikes c_p0_strikes b_p0_strikes p0_swings c_p0_swings b_p0_swings p1 f_p1 p1_laws f_p1_laws p1_laws_behind c_p1_laws_behind b_p1_laws_behind p1_laws_code c_p1_laws_code b_p1_laws_code p1_laws_stack c_p1_laws_stack bz_p1_laws_stack p1_once c_p1_once b_p1_once) H → va_S A s.heap H locs → lv_has ls 4 [(3, .int st), (2, .int idl), (0, .ref p0), (1, .ref p1)] → W p l e (headSpec zw_t_stepsHeld { frames := 5, cells := 0, slots := 0, locals := 122 }).room s m ([.ref p0, .ref p1] : List Value).toArray below meth c H locs 0 0 (MQ below (q_Qi (dC, dI) (zG_t_stepsHeld p0 f_p0 p0_bow f_p0_bow p0_bow_ends c_p0_bow_ends b_p0_bow_ends p0_bow_tight c_p0_bow_tight b_p0_bow_tight p0_strikes c_p0_strikes b_p0_strikes p0_swings c_p0_swings b_p0_swings p1 f_p1 p1_laws f_p1_laws p1_laws_behind c_p1_laws_behind b_p1_laws_behind p1_laws_code c_p1_laws_code b_p1_laws_code p1_laws_stack c_p1_laws_stack b_p1_laws_stack p1_once c_p1_once b_p1_once) (zA_t_stepsHeld p0 p0_bow p0_bow_ends p0_bow_tight p0_strikes p0_swings p1 p1_laws p1_laws_behind p1_laws_code p1_laws_stack p1_once) A) ([.ref p0, .ref p1] : List Value).toArray s 0 0 A) (F0 m 9 ls []) := by
    intro fu9
    induction fu9 using Nat.strongRecOn with
    | ind fu9 ih9 =>
      intro idl st fz_p0 fz_p0_bow bz_p0_bow_ends bz_p0_bow_tight bz_p1_laws_stack H11 lo11 ls hfu9 tst ho_fz_p0 hf_fz_p0 fr_fz_p0_0 fr_fz_p0_1 fr_fz_p0_2 ho_fz_p0_bow hf_fz_p0_bow fr_fz_p0_bow_0 fr_fz_p0_bow_1 hP11 hS11 hl
      refine lv_iload_n hx hb dX7_stepsHeld_9 rfl (lv_at hl 0 rfl) (lv_sipush (v := 2000) hx hb dX7_stepsHeld_10 (by decide) ?_)
      refine lv_icmp_gt (tgt := 62) hx hb dX7_stepsHeld_13 (by decide) (fun c_12 => ?_) (fun c_12 => ?_)
      · have tc_12 := q_gt c_12
        refine lv_sipush (v := 2000) hx hb dX7_stepsHeld_62 (by decide) ?_
        exact q_iret hx hb hr hlocks hS11 dX7_stepsHeld_65 ⟨fz_p0, fz_p0_bow, bz_p0_bow_ends, bz_p0_bow_tight, bz_p1_laws_stack, (by omega), ho_fz_p0, hf_fz_p0, ho_fz_p0_bow, hf_fz_p0_bow, hP11, za_t_stepsHeld⟩
      · have tc_12 := q_leN c_12
        refine lv_aload_n hx hb dX7_stepsHeld_16 rfl (lv_at hl 2 rfl) (lv_aload_n hx hb dX7_stepsHeld_17 rfl (lv_at hl 3 rfl) ?_)
        refine q_cVi (As := [.ref p1]) (rest := []) q_w0 trivial hK hP11 hDa za_t_stepsHeld hS11 hA [0, 1, 2, 3, 4, 5, 6, 7, 8, 9, 10] [0, 1, 2, 3, 4, 5, 6] (by decide +kernel) ⟨hx, hb, hml, hown, hts⟩ (t_advance l dC dI H11.size p0 fz_p0 p0_bow fz_p0_bow p0_bow_ends c_p0_bow_ends bz_p0_bow_ends p0_bow_tight c_p0_bow_tight bz_p0_bow_tight p0_strikes c_p0_strikes b_p0_strikes p0_swings c_p0_swings b_p0_swings p1 f_p1 p1_laws f_p1_laws p1_laws_behind c_p1_laws_behind b_p1_laws_behind p1_laws_code c_p1_laws_code b_p1_laws_code p1_laws_stack c_p1_laws_stack bz_p1_laws_stack ho_fz_p0 fr_fz_p0_0 fr_fz_p0_1 fr_fz_p0_2 ho_fz_p0_bow fr_fz_p0_bow_0 fr_fz_p0_bow_1 hr_p0_strikes hr_p0_swings ho_p1 fr_p1_12 ho_p1_laws fr_p1_laws_0 fr_p1_laws_1 fr_p1_laws_2 hr_p1_laws_behind) rfl rfl (cwV 1 hts (p1_gV m_4 m_5 m_6 m_3 g_t_advance gz_t_advance) rfl rfl rfl (by decide +kernel) ⟨by decide, by decide⟩) (va_recv hK hP11 (ci := 6) (q0 := 0) rfl rfl) zm_t_advance rfl hl.1 rfl (Nat.le_of_ble_eq_true rfl) dX7_stepsHeld_18 ⟨by decide, by decide⟩ (fun r_13 H14 lo14 hG14 hS14 => ?_)
        obtain ⟨o_15, o_16, o_17, o_18, o_19, ho_20, hf_21, ho_22, hf_23, hQ14⟩ := hG14
        have hP14 : va_P (dC, dI) vwCl (zW_t_stepsHeld p0 o_15 p0_bow o_16 p0_bow_ends c_p0_bow_ends o_17 p0_bow_tight c_p0_bow_tight o_18 p0_strikes c_p0_strikes b_p0_strikes p0_swings c_p0_swings b_p0_swings p1 f_p1 p1_laws f_p1_laws p1_laws_behind c_p1_laws_behind b_p1_laws_behind p1_laws_code c_p1_laws_code b_p1_laws_code p1_laws_stack c_p1_laws_stack o_19 p1_once c_p1_once b_p1_once) H14 := hQ14
        clear hQ14 hP11 hS11
        refine lv_if_ne (tgt := 30) hx hb dX7_stepsHeld_21 (by decide) (fun c_24 => ?_) (fun c_24 => ?_)
        · have tc_24 := q_ne c_24
          refine lv_iconst (v := 0) hx hb dX7_stepsHeld_30 (by decide) (lv_istore_n (lv' := [(2, .int 0), (3, .int st), (0, .ref p0), (1, .ref p1)]) hx hb dX7_stepsHeld_31 rfl hl (by decide) rfl (fun ls hl => ?_))
          refine lv_aload_n hx hb dX7_stepsHeld_32 rfl (lv_at hl 2 rfl) (qg_X7_0 hx hb hts i_X7 hown hK hP14 0 rfl k_7 (hf_21.u (by decide) fr_fz_p0_0) dX7_stepsHeld_33 ?_)
          obtain ⟨v_25, fv_25, tv_25⟩ := OKX0_g3 ho_22
          refine qg_X0_3 hx hb hts i_X0 hown hK hP14 1 rfl k_8 fv_25 dX7_stepsHeld_36 ?_
          refine lv_if_ne (tgt := 44) hx hb dX7_stepsHeld_39 (by decide) (fun c_26 => ?_) (fun c_26 => ?_)
          · have tc_26 := q_ne c_26
            refine lv_iload_n hx hb dX7_stepsHeld_44 rfl (lv_at hl 0 rfl) (lv_aload_n hx hb dX7_stepsHeld_45 rfl (lv_at hl 2 rfl) ?_)
            obtain ⟨v_27, fv_27, tv_27⟩ := OKX7_g4 ho_20
            refine qg_X7_4 hx hb hts i_X7 hown hK hP14 0 rfl k_9 fv_27 dX7_stepsHeld_46 ?_
            refine lv_icmp_lt (tgt := 56) hx hb dX7_stepsHeld_49 (by decide) (fun c_28 => ?_) (fun c_28 => ?_)
            · have tc_28 := q_lt c_28
              obtain ⟨v_29, ev_29⟩ : ∃ y : Int32, y = st + 1 := ⟨_, rfl⟩
              have tv_29 := q_add ev_29 (by omega) (by omega)
              refine lv_iinc (v := v_29) (lv' := [(3, .int v_29), (2, .int 0), (0, .ref p0), (1, .ref p1)]) hx hb dX7_stepsHeld_56 hl (k := 1) rfl (by rw [ev_29]; rfl) (by decide) rfl (fun ls hl => ?_)
              refine lv_goto (tgt := 9) hx hb dX7_stepsHeld_59 (by decide) ?_
              exact ih9 (fu9 - 1) (by omega) 0 v_29 o_15 o_16 o_17 o_18 o_19 _ _ _ (by omega) (by omega) ho_20 (hf_fz_p0.tr hf_21 (by decide)) (hf_21.u (by decide) fr_fz_p0_0) (hf_21.u (by decide) fr_fz_p0_1) (hf_21.u (by decide) fr_fz_p0_2) ho_22 (hf_fz_p0_bow.tr hf_23 (by decide)) (hf_23.u (by decide) fr_fz_p0_bow_0) (hf_23.u (by decide) fr_fz_p0_bow_1) hP14 hS14 (lv_sub hl [0, 1, 2, 3] rfl)
            · have tc_28 := q_geN c_28
              refine lv_sipush (v := 2000) hx hb dX7_stepsHeld_52 (by decide) ?_
              exact q_iret hx hb hr hlocks hS14 dX7_stepsHeld_55 ⟨o_15, o_16, o_17, o_18, o_19, (by omega), ho_20, (hf_fz_p0.tr hf_21 (by decide)), ho_22, (hf_fz_p0_bow.tr hf_23 (by decide)), hP14, za_t_stepsHeld⟩
          · have tc_26 := q_eqN c_26
            refine lv_iload_n hx hb dX7_stepsHeld_42 rfl (lv_at hl 1 rfl) ?_
            exact q_iret hx hb hr hlocks hS14 dX7_stepsHeld_43 ⟨o_15, o_16, o_17, o_18, o_19, (by omega), ho_20, (hf_fz_p0.tr hf_21 (by decide)), ho_22, (hf_fz_p0_bow.tr hf_23 (by decide)), hP14, za_t_stepsHeld⟩
        · have tc_24 := q_eqN c_24
          refine lv_iload_n hx hb dX7_stepsHeld_24 rfl (lv_at hl 1 rfl) (lv_iconst (v := 1) hx hb dX7_stepsHeld_25 (by decide) (lv_iadd hx hb dX7_stepsHeld_26 (lv_topi fun v_30 ev_30 => lv_goto (tgt := 31) hx hb dX7_stepsHeld_27 (by decide) (lv_istore_n (lv' := [(2, .int v_30), (3, .int st), (0, .ref p0), (1, .ref p1)]) hx hb dX7_stepsHeld_31 rfl hl (by decide) rfl (fun ls hl => ?_)))))
          refine lv_aload_n hx hb dX7_stepsHeld_32 rfl (lv_at hl 2 rfl) (qg_X7_0 hx hb hts i_X7 hown hK hP14 0 rfl k_7 (hf_21.u (by decide) fr_fz_p0_0) dX7_stepsHeld_33 ?_)
          obtain ⟨v_31, fv_31, tv_31⟩ := OKX0_g3 ho_22
          refine qg_X0_3 hx hb hts i_X0 hown hK hP14 1 rfl k_8 fv_31 dX7_stepsHeld_36 ?_
          refine lv_if_ne (tgt := 44) hx hb dX7_stepsHeld_39 (by decide) (fun c_32 => ?_) (fun c_32 => ?_)
          · have tc_32 := q_ne c_32
            refine lv_iload_n hx hb dX7_stepsHeld_44 rfl (lv_at hl 0 rfl) (lv_aload_n hx hb dX7_stepsHeld_45 rfl (lv_at hl 2 rfl) ?_)
            obtain ⟨v_33, fv_33, tv_33⟩ := OKX7_g4 ho_20
            refine qg_X7_4 hx hb hts i_X7 hown hK hP14 0 rfl k_9 fv_33 dX7_stepsHeld_46 ?_
            refine lv_icmp_lt (tgt := 56) hx hb dX7_stepsHeld_49 (by decide) (fun c_34 => ?_) (fun c_34 => ?_)
            · have tc_34 := q_lt c_34
              obtain ⟨v_35, ev_35⟩ : ∃ y : Int32, y = st + 1 := ⟨_, rfl⟩
              have tv_35 := q_add ev_35 (by omega) (by omega)
              refine lv_iinc (v := v_35) (lv' := [(3, .int v_35), (2, .int v_30), (0, .ref p0), (1, .ref p1)]) hx hb dX7_stepsHeld_56 hl (k := 1) rfl (by rw [ev_35]; rfl) (by decide) rfl (fun ls hl => ?_)
              refine lv_goto (tgt := 9) hx hb dX7_stepsHeld_59 (by decide) ?_
              exact ih9 (fu9 - 1) (by omega) v_30 v_35 o_15 o_16 o_17 o_18 o_19 _ _ _ (by omega) (by omega) ho_20 (hf_fz_p0.tr hf_21 (by decide)) (hf_21.u (by decide) fr_fz_p0_0) (hf_21.u (by decide) fr_fz_p0_1) (hf_21.u (by decide) fr_fz_p0_2) ho_22 (hf_fz_p0_bow.tr hf_23 (by decide)) (hf_23.u (by decide) fr_fz_p0_bow_0) (hf_23.u (by decide) fr_fz_p0_bow_1) hP14 hS14 (lv_sub hl [0, 1, 2, 3] rfl)
            · have tc_34 := q_geN c_34
              refine lv_sipush (v := 2000) hx hb dX7_stepsHeld_52 (by decide) ?_
              exact q_iret hx hb hr hlocks hS14 dX7_stepsHeld_55 ⟨o_15, o_16, o_17, o_18, o_19, (by omega), ho_20, (hf_fz_p0.tr hf_21 (by decide)), ho_22, (hf_fz_p0_bow.tr hf_23 (by decide)), hP14, za_t_stepsHeld⟩
          · have tc_32 := q_eqN c_32
            refine lv_iload_n hx hb dX7_stepsHeld_42 rfl (lv_at hl 1 rfl) ?_
            exact q_iret hx hb hr hlocks hS14 dX7_stepsHeld_43 ⟨o_15, o_16, o_17, o_18, o_19, (by omega), ho_20, (hf_fz_p0.tr hf_21 (by decide)), ho_22, (hf_fz_p0_bow.tr hf_23 (by decide)), hP14, za_t_stepsHeld⟩
  exact key9 2000 0 1 o_3 o_4 o_5 o_6 b_p1_laws_stack _ _ _ (by omega) (by omega) ho_7 (q_fr.rf.tr hf_8 (by decide)) (hf_8.u (by decide) fr_p0_0) (hf_8.u (by decide) fr_p0_1) (hf_8.u (by decide) fr_p0_2) ho_9 (q_fr.rf.tr hf_10 (by decide)) (hf_10.u (by decide) fr_p0_bow_0) (hf_10.u (by decide) fr_p0_bow_1) hP2 hS2 (lv_sub hl [0, 1, 2, 3] rfl)
def zo_t_firstFeeding : List Cond := [.code yX7_firstFeedingStep cX7_firstFeedingStep 6 (some .int), .methodLink RX7 66 yX7_begin, .instanceMethod yX7_begin, .selects RX7 yX7_begin yX7_begin, .initialized RX7, .methodLink RX7 69 yX7_advance, .instanceMethod yX7_advance, .selects RX7 yX7_advance yX7_advance, .fieldLink RX7 12 "BowWalk$Trial" "bow" "LBowWalk$Bow;", .fieldLink RX7 73 "BowWalk$Bow" "left" "I"]
def zw_t_firstFeeding : List Cond := zo_t_firstFeeding ++ (zw_t_tbegin ++ (zw_t_advance ++ (wsX70 ++ (wsX00 ++ []))))
theorem gz_t_firstFeeding : zw_t_firstFeeding.all goodWord = true := p1_ga (by decide +kernel) (p1_ga gz_t_tbegin (p1_ga gz_t_advance (p1_ga gk_X7 (p1_ga gk_X0 p1_g0))))
theorem iz_t_firstFeeding : ∀ w ∈ zw_t_firstFeeding, w ∈ lw_tbl := p1_ia (p1_all [856, 839, 841, 32, 113, 844, 846, 33, 414, 358] (by decide +kernel)) (p1_ia iz_t_tbegin (p1_ia iz_t_advance (p1_ia ik_X7 (p1_ia ik_X0 p1_i0))))
def zW_t_firstFeeding (p0 : Nat) (f_p0 : List Value) (p0_bow : Nat) (f_p0_bow : List Value) (p0_bow_ends : Nat) (c_p0_bow_ends : ClassId) (b_p0_bow_ends : Nat → Int32) (p0_bow_tight : Nat) (c_p0_bow_tight : ClassId) (b_p0_bow_tight : Nat → Int32) (p0_strikes : Nat) (c_p0_strikes : ClassId) (b_p0_strikes : Nat → Int32) (p0_swings : Nat) (c_p0_swings : ClassId) (b_p0_swings : Nat → Int32) (p1 : Nat) (f_p1 : List Value) (p1_laws : Nat) (f_p1_laws : List Value) (p1_laws_behind : Nat) (c_p1_laws_behind : ClassId) (b_p1_laws_behind : Nat → Int32) (p1_laws_code : Nat) (c_p1_laws_code : ClassId) (b_p1_laws_code : Nat → Int32) (p1_laws_stack : Nat) (c_p1_laws_stack : ClassId) (b_p1_laws_stack : Nat → Int32) (p1_once : Nat) (c_p1_once : ClassId) (b_p1_once : Nat → Int32) : va_W := [(p0, .inr (6, f_p0)), (p0_bow, .inr (0, f_p0_bow)), (p0_bow_ends, .inl (c_p0_bow_ends, 2, .inl b_p0_bow_ends)), (p0_bow_tight, .inl (c_p0_bow_tight, 12, .inl b_p0_bow_tight)), (p0_strikes, .inl (c_p0_strikes, 8, .inl b_p0_strikes)), (p0_swings, .inl (c_p0_swings, 8, .inl b_p0_swings)), (p1, .inr (5, f_p1)), (p1_laws, .inr (3, f_p1_laws)), (p1_laws_behind, .inl (c_p1_laws_behind, 6, .inl b_p1_laws_behind)), (p1_laws_code, .inl (c_p1_laws_code, 600, .inl b_p1_laws_code)), (p1_laws_stack, .inl (c_p1_laws_stack, 60, .inl b_p1_laws_stack)), (p1_once, .inl (c_p1_once, 2, .inl b_p1_once))]
def zT_t_firstFeeding (c_p0_bow_ends : ClassId) (c_p0_bow_tight : ClassId) (c_p0_strikes : ClassId) (c_p0_swings : ClassId) (c_p1_laws_behind : ClassId) (c_p1_laws_code : ClassId) (c_p1_laws_stack : ClassId) (c_p1_once : ClassId) : List (ClassId × FieldType) := [(c_p0_bow_ends, .int), (c_p0_bow_tight, .int), (c_p0_strikes, .int), (c_p0_swings, .int), (c_p1_laws_behind, .int), (c_p1_laws_code, .int), (c_p1_laws_stack, .int), (c_p1_once, .int)]
def zA_t_firstFeeding (p0 : Nat) (p0_bow : Nat) (p0_bow_ends : Nat) (p0_bow_tight : Nat) (p0_strikes : Nat) (p0_swings : Nat) (p1 : Nat) (p1_laws : Nat) (p1_laws_behind : Nat) (p1_laws_code : Nat) (p1_laws_stack : Nat) (p1_once : Nat) : List Nat := [p0, p0_bow, p0_bow_ends, p0_bow_tight, p0_strikes, p0_swings, p1, p1_laws, p1_laws_behind, p1_laws_code, p1_laws_stack, p1_once]
theorem za_t_firstFeeding {p0 : Nat} {f_p0 : List Value} {p0_bow : Nat} {f_p0_bow : List Value} {p0_bow_ends : Nat} {c_p0_bow_ends : ClassId} {b_p0_bow_ends : Nat → Int32} {p0_bow_tight : Nat} {c_p0_bow_tight : ClassId} {b_p0_bow_tight : Nat → Int32} {p0_strikes : Nat} {c_p0_strikes : ClassId} {b_p0_strikes : Nat → Int32} {p0_swings : Nat} {c_p0_swings : ClassId} {b_p0_swings : Nat → Int32} {p1 : Nat} {f_p1 : List Value} {p1_laws : Nat} {f_p1_laws : List Value} {p1_laws_behind : Nat} {c_p1_laws_behind : ClassId} {b_p1_laws_behind : Nat → Int32} {p1_laws_code : Nat} {c_p1_laws_code : ClassId} {b_p1_laws_code : Nat → Int32} {p1_laws_stack : Nat} {c_p1_laws_stack : ClassId} {b_p1_laws_stack : Nat → Int32} {p1_once : Nat} {c_p1_once : ClassId} {b_p1_once : Nat → Int32} : (zW_t_firstFeeding p0 f_p0 p0_bow f_p0_bow p0_bow_ends c_p0_bow_ends b_p0_bow_ends p0_bow_tight c_p0_bow_tight b_p0_bow_tight p0_strikes c_p0_strikes b_p0_strikes p0_swings c_p0_swings b_p0_swings p1 f_p1 p1_laws f_p1_laws p1_laws_behind c_p1_laws_behind b_p1_laws_behind p1_laws_code c_p1_laws_code b_p1_laws_code p1_laws_stack c_p1_laws_stack b_p1_laws_stack p1_once c_p1_once b_p1_once).map Prod.fst = (zA_t_firstFeeding p0 p0_bow p0_bow_ends p0_bow_tight p0_strikes p0_swings p1 p1_laws p1_laws_behind p1_laws_code p1_laws_stack p1_once) := rfl
def zG_t_firstFeeding (p0 : Nat) (f_p0 : List Value) (p0_bow : Nat) (f_p0_bow : List Value) (p0_bow_ends : Nat) (c_p0_bow_ends : ClassId) (b_p0_bow_ends : Nat → Int32) (p0_bow_tight : Nat) (c_p0_bow_tight : ClassId) (b_p0_bow_tight : Nat → Int32) (p0_strikes : Nat) (c_p0_strikes : ClassId) (b_p0_strikes : Nat → Int32) (p0_swings : Nat) (c_p0_swings : ClassId) (b_p0_swings : Nat → Int32) (p1 : Nat) (f_p1 : List Value) (p1_laws : Nat) (f_p1_laws : List Value) (p1_laws_behind : Nat) (c_p1_laws_behind : ClassId) (b_p1_laws_behind : Nat → Int32) (p1_laws_code : Nat) (c_p1_laws_code : ClassId) (b_p1_laws_code : Nat → Int32) (p1_laws_stack : Nat) (c_p1_laws_stack : ClassId) (b_p1_laws_stack : Nat → Int32) (p1_once : Nat) (c_p1_once : ClassId) (b_p1_once : Nat → Int32) (r : Int32) (X : va_W → Prop) : Prop := ∃ (y_p0 : List Value) (y_p0_bow : List Value) (y_p0_bow_ends : Nat → Int32) (y_p0_bow_tight : Nat → Int32) (y_p1_laws_stack : Nat → Int32), OKX7 y_p0 ∧ q_fr [5] f_p0 y_p0 ∧ OKX0 y_p0_bow ∧ q_fr [3, 4, 5, 6, 7, 13, 14] f_p0_bow y_p0_bow ∧ X (zW_t_firstFeeding p0 y_p0 p0_bow y_p0_bow p0_bow_ends c_p0_bow_ends y_p0_bow_ends p0_bow_tight c_p0_bow_tight y_p0_bow_tight p0_strikes c_p0_strikes b_p0_strikes p0_swings c_p0_swings b_p0_swings p1 f_p1 p1_laws f_p1_laws p1_laws_behind c_p1_laws_behind b_p1_laws_behind p1_laws_code c_p1_laws_code b_p1_laws_code p1_laws_stack c_p1_laws_stack y_p1_laws_stack p1_once c_p1_once b_p1_once)
theorem zm_t_firstFeeding {p0 : Nat} {f_p0 : List Value} {p0_bow : Nat} {f_p0_bow : List Value} {p0_bow_ends : Nat} {c_p0_bow_ends : ClassId} {b_p0_bow_ends : Nat → Int32} {p0_bow_tight : Nat} {c_p0_bow_tight : ClassId} {b_p0_bow_tight : Nat → Int32} {p0_strikes : Nat} {c_p0_strikes : ClassId} {b_p0_strikes : Nat → Int32} {p0_swings : Nat} {c_p0_swings : ClassId} {b_p0_swings : Nat → Int32} {p1 : Nat} {f_p1 : List Value} {p1_laws : Nat} {f_p1_laws : List Value} {p1_laws_behind : Nat} {c_p1_laws_behind : ClassId} {b_p1_laws_behind : Nat → Int32} {p1_laws_code : Nat} {c_p1_laws_code : ClassId} {b_p1_laws_code : Nat → Int32} {p1_laws_stack : Nat} {c_p1_laws_stack : ClassId} {b_p1_laws_stack : Nat → Int32} {p1_once : Nat} {c_p1_once : ClassId} {b_p1_once : Nat → Int32} : ∀ (r : Int32), ∀ X Y : va_W → Prop, (∀ w, X w → Y w) → zG_t_firstFeeding p0 f_p0 p0_bow f_p0_bow p0_bow_ends c_p0_bow_ends b_p0_bow_ends p0_bow_tight c_p0_bow_tight b_p0_bow_tight p0_strikes c_p0_strikes b_p0_strikes p0_swings c_p0_swings b_p0_swings p1 f_p1 p1_laws f_p1_laws p1_laws_behind c_p1_laws_behind b_p1_laws_behind p1_laws_code c_p1_laws_code b_p1_laws_code p1_laws_stack c_p1_laws_stack b_p1_laws_stack p1_once c_p1_once b_p1_once r X → zG_t_firstFeeding p0 f_p0 p0_bow f_p0_bow p0_bow_ends c_p0_bow_ends b_p0_bow_ends p0_bow_tight c_p0_bow_tight b_p0_bow_tight p0_strikes c_p0_strikes b_p0_strikes p0_swings c_p0_swings b_p0_swings p1 f_p1 p1_laws f_p1_laws p1_laws_behind c_p1_laws_behind b_p1_laws_behind p1_laws_code c_p1_laws_code b_p1_laws_code p1_laws_stack c_p1_laws_stack b_p1_laws_stack p1_once c_p1_once b_p1_once r Y := fun r X Y h h1 => by obtain ⟨x0, x1, x2, x3, x4, x5, x6, x7, x8, hx⟩ := h1; exact ⟨x0, x1, x2, x3, x4, x5, x6, x7, x8, h _ hx⟩
set_option maxHeartbeats 4000000 in
set_option maxRecDepth 100000 in
theorem t_firstFeeding (l : Launch) (dC : Nat → ClassId) (dI : Nat → Nat → Nat) (sz : Nat) (p0 : Nat) (f_p0 : List Value) (p0_bow : Nat) (f_p0_bow : List Value) (p0_bow_ends : Nat) (c_p0_bow_ends : ClassId) (b_p0_bow_ends : Nat → Int32) (p0_bow_tight : Nat) (c_p0_bow_tight : ClassId) (b_p0_bow_tight : Nat → Int32) (p0_strikes : Nat) (c_p0_strikes : ClassId) (b_p0_strikes : Nat → Int32) (p0_swings : Nat) (c_p0_swings : ClassId) (b_p0_swings : Nat → Int32) (p1 : Nat) (f_p1 : List Value) (p1_laws : Nat) (f_p1_laws : List Value) (p1_laws_behind : Nat) (c_p1_laws_behind : ClassId) (b_p1_laws_behind : Nat → Int32) (p1_laws_code : Nat) (c_p1_laws_code : ClassId) (b_p1_laws_code : Nat → Int32) (p1_laws_stack : Nat) (c_p1_laws_stack : ClassId) (b_p1_laws_stack : Nat → Int32) (p1_once : Nat) (c_p1_once : ClassId) (b_p1_once : Nat → Int32) (ho_p0 : OKX7 f_p0) (fr_p0_0 : q_rf f_p0 0 p0_bow) (fr_p0_1 : q_rf f_p0 1 p0_strikes) (fr_p0_2 : q_rf f_p0 2 p0_swings) (ho_p0_bow : OKX0 f_p0_bow) (fr_p0_bow_0 : q_rf f_p0_bow 0 p0_bow_tight) (fr_p0_bow_1 : q_rf f_p0_bow 1 p0_bow_ends) (hr_p0_strikes : q_rg 8 (0) 99 b_p0_strikes) (hr_p0_swings : q_rg 8 (0) 99 b_p0_swings) (ho_p1 : OKX5 f_p1) (fr_p1_12 : q_rf f_p1 12 p1_laws) (fr_p1_13 : q_rf f_p1 13 p1_once) (ho_p1_laws : OKX3 f_p1_laws) (fr_p1_laws_0 : q_rf f_p1_laws 0 p1_laws_code) (fr_p1_laws_1 : q_rf f_p1_laws 1 p1_laws_behind) (fr_p1_laws_2 : q_rf f_p1_laws 2 p1_laws_stack) (hr_p1_laws_behind : q_rg 6 (0) 600 b_p1_laws_behind) (hr_p1_once : q_rg 2 (0) 999 b_p1_once) : Met l yX7_firstFeedingStep zw_t_firstFeeding ({ frames := 5, cells := 0, slots := 0, locals := 122 }) (va_Pc [.ref p0, .ref p1] (q_pre (dC, dI) (zW_t_firstFeeding p0 f_p0 p0_bow f_p0_bow p0_bow_ends c_p0_bow_ends b_p0_bow_ends p0_bow_tight c_p0_bow_tight b_p0_bow_tight p0_strikes c_p0_strikes b_p0_strikes p0_swings c_p0_swings b_p0_swings p1 f_p1 p1_laws f_p1_laws p1_laws_behind c_p1_laws_behind b_p1_laws_behind p1_laws_code c_p1_laws_code b_p1_laws_code p1_laws_stack c_p1_laws_stack b_p1_laws_stack p1_once c_p1_once b_p1_once) (zT_t_firstFeeding c_p0_bow_ends c_p0_bow_tight c_p0_strikes c_p0_swings c_p1_laws_behind c_p1_laws_code c_p1_laws_stack c_p1_once) q_E0 sz)) (q_Qi (dC, dI) (zG_t_firstFeeding p0 f_p0 p0_bow f_p0_bow p0_bow_ends c_p0_bow_ends b_p0_bow_ends p0_bow_tight c_p0_bow_tight b_p0_bow_tight p0_strikes c_p0_strikes b_p0_strikes p0_swings c_p0_swings b_p0_swings p1 f_p1 p1_laws f_p1_laws p1_laws_behind c_p1_laws_behind b_p1_laws_behind p1_laws_code c_p1_laws_code b_p1_laws_code p1_laws_stack c_p1_laws_stack b_p1_laws_stack p1_once c_p1_once b_p1_once) (zA_t_firstFeeding p0 p0_bow p0_bow_ends p0_bow_tight p0_strikes p0_swings p1 p1_laws p1_laws_behind p1_laws_code p1_laws_stack p1_once) (va_A (zW_t_firstFeeding p0 f_p0 p0_bow f_p0_bow p0_bow_ends c_p0_bow_ends b_p0_bow_ends p0_bow_tight c_p0_bow_tight b_p0_bow_tight p0_strikes c_p0_strikes b_p0_strikes p0_swings c_p0_swings b_p0_swings p1 f_p1 p1_laws f_p1_laws p1_laws_behind c_p1_laws_behind b_p1_laws_behind p1_laws_code c_p1_laws_code b_p1_laws_code p1_laws_stack c_p1_laws_stack b_p1_laws_stack p1_once c_p1_once b_p1_once) sz)) 0 0 (va_A (zW_t_firstFeeding p0 f_p0 p0_bow f_p0_bow p0_bow_ends c_p0_bow_ends b_p0_bow_ends p0_bow_tight c_p0_bow_tight b_p0_bow_tight p0_strikes c_p0_strikes b_p0_strikes p0_swings c_p0_swings b_p0_swings p1 f_p1 p1_laws f_p1_laws p1_laws_behind c_p1_laws_behind b_p1_laws_behind p1_laws_code c_p1_laws_code b_p1_laws_code p1_laws_stack c_p1_laws_stack b_p1_laws_stack p1_once c_p1_once b_p1_once) sz) := by
  refine Met.ofW (cc := cX7_firstFeedingStep) (maxL := 6) (ret := (some .int)) (by decide) rfl ?_
  intro p e s m args below meth c s₁ B hml hv
  obtain ⟨rfl, hsz, hP, hK, hD0, hE⟩ := hv
  have hx := B.exec
  have hb := B.bytes
  have hr := B.returns
  have hts := atoms_spec (ws := zw_t_firstFeeding) B.pre
  have hown : s.vm.findClass RX7 = some m.cls := findClass_of_methodNamed B.named
  have hlocks := B.notSynchronized
  subst hsz
  have hD := hD0.self (sz := s.heap.size)
  generalize hAe : va_A (zW_t_firstFeeding p0 f_p0 p0_bow f_p0_bow p0_bow_ends c_p0_bow_ends b_p0_bow_ends p0_bow_tight c_p0_bow_tight b_p0_bow_tight p0_strikes c_p0_strikes b_p0_strikes p0_swings c_p0_swings b_p0_swings p1 f_p1 p1_laws f_p1_laws p1_laws_behind c_p1_laws_behind b_p1_laws_behind p1_laws_code c_p1_laws_code b_p1_laws_code p1_laws_stack c_p1_laws_stack b_p1_laws_stack p1_once c_p1_once b_p1_once) s.heap.size = A at hD hE ⊢
  have hA : ∀ q : Nat, s.heap.size ≤ q → A q := fun q h => by rw [← hAe]; exact Or.inr h
  have hDa : q_DA A (zA_t_firstFeeding p0 p0_bow p0_bow_ends p0_bow_tight p0_strikes p0_swings p1 p1_laws p1_laws_behind p1_laws_code p1_laws_stack p1_once) := q_DA.mk hD za_t_firstFeeding
  clear hAe hD0 hD
  have hS : va_S A s.heap s.heap [] := va_S.rf
  have m_0 : (.methodLink RX7 66 yX7_begin : Cond) ∈ zw_t_firstFeeding := List.mem_append_left _ (List.mem_of_getElem? (i := 1) rfl)
  have k_0 := hts _ m_0
  have m_1 : (.instanceMethod yX7_begin : Cond) ∈ zw_t_firstFeeding := List.mem_append_left _ (List.mem_of_getElem? (i := 2) rfl)
  have k_1 := hts _ m_1
  have m_2 : (.selects RX7 yX7_begin yX7_begin : Cond) ∈ zw_t_firstFeeding := List.mem_append_left _ (List.mem_of_getElem? (i := 3) rfl)
  have k_2 := hts _ m_2
  have m_3 : (.initialized RX7 : Cond) ∈ zw_t_firstFeeding := List.mem_append_left _ (List.mem_of_getElem? (i := 4) rfl)
  have k_3 := hts _ m_3
  have m_4 : (.methodLink RX7 69 yX7_advance : Cond) ∈ zw_t_firstFeeding := List.mem_append_left _ (List.mem_of_getElem? (i := 5) rfl)
  have k_4 := hts _ m_4
  have m_5 : (.instanceMethod yX7_advance : Cond) ∈ zw_t_firstFeeding := List.mem_append_left _ (List.mem_of_getElem? (i := 6) rfl)
  have k_5 := hts _ m_5
  have m_6 : (.selects RX7 yX7_advance yX7_advance : Cond) ∈ zw_t_firstFeeding := List.mem_append_left _ (List.mem_of_getElem? (i := 7) rfl)
  have k_6 := hts _ m_6
  have m_7 : (.fieldLink RX7 12 "BowWalk$Trial" "bow" "LBowWalk$Bow;" : Cond) ∈ zw_t_firstFeeding := List.mem_append_left _ (List.mem_of_getElem? (i := 8) rfl)
  have k_7 := hts _ m_7
  have m_8 : (.fieldLink RX7 73 "BowWalk$Bow" "left" "I" : Cond) ∈ zw_t_firstFeeding := List.mem_append_left _ (List.mem_of_getElem? (i := 9) rfl)
  have k_8 := hts _ m_8
  have g_t_tbegin : ∀ w ∈ zw_t_tbegin, w ∈ zw_t_firstFeeding := fun w h => List.mem_append_right _ (List.mem_append_left _ h)
  have g_t_advance : ∀ w ∈ zw_t_advance, w ∈ zw_t_firstFeeding := fun w h => List.mem_append_right _ (List.mem_append_right _ (List.mem_append_left _ h))
  have i_X7 : ∀ w ∈ u_ws RX7 TX7 6, w ∈ zw_t_firstFeeding := fun w h => List.mem_append_right _ (List.mem_append_right _ (List.mem_append_right _ (List.mem_append_left _ h)))
  have i_X0 : ∀ w ∈ u_ws RX0 TX0 15, w ∈ zw_t_firstFeeding := fun w h => List.mem_append_right _ (List.mem_append_right _ (List.mem_append_right _ (List.mem_append_right _ (List.mem_append_left _ h))))
  have lt_m1 : ((-1) : Int32).toInt = -1 := by decide
  have lt_0 : (0 : Int32).toInt = 0 := by decide
  have lt_1 : (1 : Int32).toInt = 1 := by decide
  have lt_2000 : (2000 : Int32).toInt = 2000 := by decide
  have hl := lv_entry ([.ref p0, .ref p1]) (n := 6) (Nat.le_of_ble_eq_true rfl)
  rw [lg_entry_eq]
  generalize (lg_sl ([.ref p0, .ref p1]) ++ List.replicate (6 - (lg_sl ([.ref p0, .ref p1])).length) Slot.unset).toArray = ls at hl ⊢
  have hl : lv_has ls 6 [(0, .ref p0), (1, .ref p1)] := hl
  refine lv_aload_n hx hb dX7_firstFeedingStep_0 rfl (lv_at hl 0 rfl) (lv_aload_n hx hb dX7_firstFeedingStep_1 rfl (lv_at hl 1 rfl) ?_)
  refine q_cVv (As := [.ref p1]) (rest := []) q_w0 trivial hK hP hDa za_t_firstFeeding hS hA [0, 1, 2, 3, 6, 11] [0, 1, 7] (by decide +kernel) ⟨hx, hb, hml, hown, hts⟩ (t_tbegin l dC dI s.heap.size p0 f_p0 p0_bow f_p0_bow p0_bow_ends c_p0_bow_ends b_p0_bow_ends p0_bow_tight c_p0_bow_tight b_p0_bow_tight p1 f_p1 p1_once c_p1_once b_p1_once ho_p0 fr_p0_0 ho_p0_bow fr_p0_bow_0 fr_p0_bow_1 ho_p1 fr_p1_13 hr_p1_once) rfl rfl (cwV 1 hts (p1_gV m_0 m_1 m_2 m_3 g_t_tbegin gz_t_tbegin) rfl rfl rfl (by decide +kernel) ⟨by decide, by decide⟩) (va_recv hK hP (ci := 6) (q0 := 0) rfl rfl) zm_t_tbegin rfl hl.1 rfl (Nat.le_of_ble_eq_true rfl) dX7_firstFeedingStep_2 ⟨by decide, by decide⟩ (fun H2 lo2 hG2 hS2 => ?_)
  obtain ⟨o_3, o_4, o_5, o_6, ho_7, hf_8, ho_9, hf_10, hQ2⟩ := hG2
  have hP2 : va_P (dC, dI) vwCl (zW_t_firstFeeding p0 o_3 p0_bow o_4 p0_bow_ends c_p0_bow_ends o_5 p0_bow_tight c_p0_bow_tight o_6 p0_strikes c_p0_strikes b_p0_strikes p0_swings c_p0_swings b_p0_swings p1 f_p1 p1_laws f_p1_laws p1_laws_behind c_p1_laws_behind b_p1_laws_behind p1_laws_code c_p1_laws_code b_p1_laws_code p1_laws_stack c_p1_laws_stack b_p1_laws_stack p1_once c_p1_once b_p1_once) H2 := hQ2
  clear hQ2 hP hS
  refine lv_iconst (v := (-1)) hx hb dX7_firstFeedingStep_5 (by decide) (lv_istore_n (lv' := [(2, .int (-1)), (0, .ref p0), (1, .ref p1)]) hx hb dX7_firstFeedingStep_6 rfl hl (by decide) rfl (fun ls hl => ?_))
  refine lv_iconst (v := 0) hx hb dX7_firstFeedingStep_7 (by decide) (lv_istore_n (lv' := [(3, .int 0), (2, .int (-1)), (0, .ref p0), (1, .ref p1)]) hx hb dX7_firstFeedingStep_8 rfl hl (by decide) rfl (fun ls hl => ?_))
  refine lv_iconst (v := 1) hx hb dX7_firstFeedingStep_9 (by decide) (lv_istore (lv' := [(4, .int 1), (3, .int 0), (2, .int (-1)), (0, .ref p0), (1, .ref p1)]) hx hb dX7_firstFeedingStep_10 hl (by decide) rfl (fun ls hl => ?_))
  have key12 : ∀ (fu12 : Nat) (fi : Int32) (be : Int32) (st : Int32) (fz_p0 : List Value) (fz_p0_bow : List Value) (bz_p0_bow_ends : Nat → Int32) (bz_p0_bow_tight : Nat → Int32) (bz_p1_laws_stack : Nat → Int32) (H : Heap) (locs : List Loc) (ls : Array Slot) (hfu12 : 2001 - st.toInt ≤ (fu12 : Int)) (tst : (1) ≤ st.toInt ∧ st.toInt ≤ 2001) (ho_fz_p0 : OKX7 fz_p0) (hf_fz_p0 : q_fr [5] f_p0 fz_p0) (fr_fz_p0_0 : q_rf fz_p0 0 p0_bow) (fr_fz_p0_1 : q_rf fz_p0 1 p0_strikes) (fr_fz_p0_2 : q_rf fz_p0 2 p0_swings) (ho_fz_p0_bow : OKX0 fz_p0_bow) (hf_fz_p0_bow : q_fr [3, 4, 5, 6, 7, 13, 14] f_p0_bow fz_p0_bow) (fr_fz_p0_bow_0 : q_rf fz_p0_bow 0 p0_bow_tight) (fr_fz_p0_bow_1 : q_rf fz_p0_bow 1 p0_bow_ends), va_P (dC, dI) vwCl (zW_t_firstFeeding p0 fz_p0 p0_bow fz_p0_bow p0_bow_ends c_p0_bow_ends bz_p0_bow_ends p0_bow_tight c_p0_bow_tight bz_p0_bow_tight p0_strikes c_p0_strikes b_p0_strikes p0_swings c_p0_swings b_p0_swings p1 f_p1 p1_laws f_p1_laws p1_laws_behind c_p1_laws_behind b_p1_laws_behind p1_laws_code c_p1_laws_code b_p1_laws_code p1_laws_stack c_p1_laws_stack bz_p1_laws_stack p1_once c_p1_once b_p1_once) H → va_S A s.heap H locs → lv_has ls 6 [(4, .int st), (3, .int be), (2, .int fi), (0, .ref p0), (1, .ref p1)] → W p l e (headSpec zw_t_firstFeeding { frames := 5, cells := 0, slots := 0, locals := 122 }).room s m ([.ref p0, .ref p1] : List Value).toArray below meth c H locs 0 0 (MQ below (q_Qi (dC, dI) (zG_t_firstFeeding p0 f_p0 p0_bow f_p0_bow p0_bow_ends c_p0_bow_ends b_p0_bow_ends p0_bow_tight c_p0_bow_tight b_p0_bow_tight p0_strikes c_p0_strikes b_p0_strikes p0_swings c_p0_swings b_p0_swings p1 f_p1 p1_laws f_p1_laws p1_laws_behind c_p1_laws_behind b_p1_laws_behind p1_laws_code c_p1_laws_code b_p1_laws_code p1_laws_stack c_p1_laws_stack b_p1_laws_stack p1_once c_p1_once b_p1_once) (zA_t_firstFeeding p0 p0_bow p0_bow_ends p0_bow_tight p0_strikes p0_swings p1 p1_laws p1_laws_behind p1_laws_code p1_laws_stack p1_once) A) ([.ref p0, .ref p1] : List Value).toArray s 0 0 A) (F0 m 12 ls []) := by
    intro fu12
    induction fu12 using Nat.strongRecOn with
    | ind fu12 ih12 =>
      intro fi be st fz_p0 fz_p0_bow bz_p0_bow_ends bz_p0_bow_tight bz_p1_laws_stack H11 lo11 ls hfu12 tst ho_fz_p0 hf_fz_p0 fr_fz_p0_0 fr_fz_p0_1 fr_fz_p0_2 ho_fz_p0_bow hf_fz_p0_bow fr_fz_p0_bow_0 fr_fz_p0_bow_1 hP11 hS11 hl
      refine lv_iload hx hb dX7_firstFeedingStep_12 (lv_at hl 0 rfl) (lv_sipush (v := 2000) hx hb dX7_firstFeedingStep_14 (by decide) ?_)
      refine lv_icmp_gt (tgt := 72) hx hb dX7_firstFeedingStep_17 (by decide) (fun c_12 => ?_) (fun c_12 => ?_)
      · have tc_12 := q_gt c_12
        refine lv_iconst (v := (-1)) hx hb dX7_firstFeedingStep_72 (by decide) ?_
        exact q_iret hx hb hr hlocks hS11 dX7_firstFeedingStep_73 ⟨fz_p0, fz_p0_bow, bz_p0_bow_ends, bz_p0_bow_tight, bz_p1_laws_stack, ho_fz_p0, hf_fz_p0, ho_fz_p0_bow, hf_fz_p0_bow, hP11, za_t_firstFeeding⟩
      · have tc_12 := q_leN c_12
        refine lv_aload_n hx hb dX7_firstFeedingStep_20 rfl (lv_at hl 3 rfl) (lv_aload_n hx hb dX7_firstFeedingStep_21 rfl (lv_at hl 4 rfl) ?_)
        refine q_cVi (As := [.ref p1]) (rest := []) q_w0 trivial hK hP11 hDa za_t_firstFeeding hS11 hA [0, 1, 2, 3, 4, 5, 6, 7, 8, 9, 10] [0, 1, 2, 3, 4, 5, 6] (by decide +kernel) ⟨hx, hb, hml, hown, hts⟩ (t_advance l dC dI H11.size p0 fz_p0 p0_bow fz_p0_bow p0_bow_ends c_p0_bow_ends bz_p0_bow_ends p0_bow_tight c_p0_bow_tight bz_p0_bow_tight p0_strikes c_p0_strikes b_p0_strikes p0_swings c_p0_swings b_p0_swings p1 f_p1 p1_laws f_p1_laws p1_laws_behind c_p1_laws_behind b_p1_laws_behind p1_laws_code c_p1_laws_code b_p1_laws_code p1_laws_stack c_p1_laws_stack bz_p1_laws_stack ho_fz_p0 fr_fz_p0_0 fr_fz_p0_1 fr_fz_p0_2 ho_fz_p0_bow fr_fz_p0_bow_0 fr_fz_p0_bow_1 hr_p0_strikes hr_p0_swings ho_p1 fr_p1_12 ho_p1_laws fr_p1_laws_0 fr_p1_laws_1 fr_p1_laws_2 hr_p1_laws_behind) rfl rfl (cwV 1 hts (p1_gV m_4 m_5 m_6 m_3 g_t_advance gz_t_advance) rfl rfl rfl (by decide +kernel) ⟨by decide, by decide⟩) (va_recv hK hP11 (ci := 6) (q0 := 0) rfl rfl) zm_t_advance rfl hl.1 rfl (Nat.le_of_ble_eq_true rfl) dX7_firstFeedingStep_22 ⟨by decide, by decide⟩ (fun r_13 H14 lo14 hG14 hS14 => ?_)
        obtain ⟨o_15, o_16, o_17, o_18, o_19, ho_20, hf_21, ho_22, hf_23, hQ14⟩ := hG14
        have hP14 : va_P (dC, dI) vwCl (zW_t_firstFeeding p0 o_15 p0_bow o_16 p0_bow_ends c_p0_bow_ends o_17 p0_bow_tight c_p0_bow_tight o_18 p0_strikes c_p0_strikes b_p0_strikes p0_swings c_p0_swings b_p0_swings p1 f_p1 p1_laws f_p1_laws p1_laws_behind c_p1_laws_behind b_p1_laws_behind p1_laws_code c_p1_laws_code b_p1_laws_code p1_laws_stack c_p1_laws_stack o_19 p1_once c_p1_once b_p1_once) H14 := hQ14
        clear hQ14 hP11 hS11
        refine lv_istore (lv' := [(5, .int r_13), (4, .int st), (3, .int be), (2, .int fi), (0, .ref p0), (1, .ref p1)]) hx hb dX7_firstFeedingStep_25 hl (by decide) rfl (fun ls hl => ?_)
        refine lv_iload hx hb dX7_firstFeedingStep_27 (lv_at hl 0 rfl) ?_
        refine lv_if_eq (tgt := 38) hx hb dX7_firstFeedingStep_29 (by decide) (fun c_24 => ?_) (fun c_24 => ?_)
        · have tc_24 := q_eq c_24
          refine lv_iconst (v := (-1)) hx hb dX7_firstFeedingStep_38 (by decide) (lv_istore_n (lv' := [(2, .int (-1)), (5, .int r_13), (4, .int st), (3, .int be), (0, .ref p0), (1, .ref p1)]) hx hb dX7_firstFeedingStep_39 rfl hl (by decide) rfl (fun ls hl => ?_))
          refine lv_goto (tgt := 51) hx hb dX7_firstFeedingStep_40 (by decide) (lv_aload_n hx hb dX7_firstFeedingStep_51 rfl (lv_at hl 4 rfl) (qg_X7_0 hx hb hts i_X7 hown hK hP14 0 rfl k_7 (hf_21.u (by decide) fr_fz_p0_0) dX7_firstFeedingStep_52 ?_))
          obtain ⟨v_25, fv_25, tv_25⟩ := OKX0_g3 ho_22
          refine qg_X0_3 hx hb hts i_X0 hown hK hP14 1 rfl k_8 fv_25 dX7_firstFeedingStep_55 ?_
          refine lv_if_ne (tgt := 63) hx hb dX7_firstFeedingStep_58 (by decide) (fun c_26 => ?_) (fun c_26 => ?_)
          · have tc_26 := q_ne c_26
            refine lv_iload hx hb dX7_firstFeedingStep_63 (lv_at hl 1 rfl) (lv_istore_n (lv' := [(3, .int r_13), (2, .int (-1)), (5, .int r_13), (4, .int st), (0, .ref p0), (1, .ref p1)]) hx hb dX7_firstFeedingStep_65 rfl hl (by decide) rfl (fun ls hl => ?_))
            obtain ⟨v_27, ev_27⟩ : ∃ y : Int32, y = st + 1 := ⟨_, rfl⟩
            have tv_27 := q_add ev_27 (by omega) (by omega)
            refine lv_iinc (v := v_27) (lv' := [(4, .int v_27), (3, .int r_13), (2, .int (-1)), (5, .int r_13), (0, .ref p0), (1, .ref p1)]) hx hb dX7_firstFeedingStep_66 hl (k := 3) rfl (by rw [ev_27]; rfl) (by decide) rfl (fun ls hl => ?_)
            refine lv_goto (tgt := 12) hx hb dX7_firstFeedingStep_69 (by decide) ?_
            exact ih12 (fu12 - 1) (by omega) ((-1)) r_13 v_27 o_15 o_16 o_17 o_18 o_19 _ _ _ (by omega) (by omega) ho_20 (hf_fz_p0.tr hf_21 (by decide)) (hf_21.u (by decide) fr_fz_p0_0) (hf_21.u (by decide) fr_fz_p0_1) (hf_21.u (by decide) fr_fz_p0_2) ho_22 (hf_fz_p0_bow.tr hf_23 (by decide)) (hf_23.u (by decide) fr_fz_p0_bow_0) (hf_23.u (by decide) fr_fz_p0_bow_1) hP14 hS14 (lv_sub hl [0, 1, 2, 4, 5] rfl)
          · have tc_26 := q_eqN c_26
            refine lv_iload_n hx hb dX7_firstFeedingStep_61 rfl (lv_at hl 0 rfl) ?_
            exact q_iret hx hb hr hlocks hS14 dX7_firstFeedingStep_62 ⟨o_15, o_16, o_17, o_18, o_19, ho_20, (hf_fz_p0.tr hf_21 (by decide)), ho_22, (hf_fz_p0_bow.tr hf_23 (by decide)), hP14, za_t_firstFeeding⟩
        · have tc_24 := q_neN c_24
          refine lv_iload hx hb dX7_firstFeedingStep_32 (lv_at hl 0 rfl) (lv_iload_n hx hb dX7_firstFeedingStep_34 rfl (lv_at hl 2 rfl) ?_)
          refine lv_icmp_ge (tgt := 43) hx hb dX7_firstFeedingStep_35 (by decide) (fun c_28 => ?_) (fun c_28 => ?_)
          · have tc_28 := q_ge c_28
            refine lv_iload_n hx hb dX7_firstFeedingStep_43 rfl (lv_at hl 3 rfl) (lv_iconst (v := (-1)) hx hb dX7_firstFeedingStep_44 (by decide) ?_)
            refine lv_icmp_ne (tgt := 51) hx hb dX7_firstFeedingStep_45 (by decide) (fun c_29 => ?_) (fun c_29 => ?_)
            · have tc_29 := q_ne c_29
              refine lv_aload_n hx hb dX7_firstFeedingStep_51 rfl (lv_at hl 4 rfl) (qg_X7_0 hx hb hts i_X7 hown hK hP14 0 rfl k_7 (hf_21.u (by decide) fr_fz_p0_0) dX7_firstFeedingStep_52 ?_)
              obtain ⟨v_30, fv_30, tv_30⟩ := OKX0_g3 ho_22
              refine qg_X0_3 hx hb hts i_X0 hown hK hP14 1 rfl k_8 fv_30 dX7_firstFeedingStep_55 ?_
              refine lv_if_ne (tgt := 63) hx hb dX7_firstFeedingStep_58 (by decide) (fun c_31 => ?_) (fun c_31 => ?_)
              · have tc_31 := q_ne c_31
                refine lv_iload hx hb dX7_firstFeedingStep_63 (lv_at hl 0 rfl) (lv_istore_n (lv' := [(3, .int r_13), (5, .int r_13), (4, .int st), (2, .int fi), (0, .ref p0), (1, .ref p1)]) hx hb dX7_firstFeedingStep_65 rfl hl (by decide) rfl (fun ls hl => ?_))
                obtain ⟨v_32, ev_32⟩ : ∃ y : Int32, y = st + 1 := ⟨_, rfl⟩
                have tv_32 := q_add ev_32 (by omega) (by omega)
                refine lv_iinc (v := v_32) (lv' := [(4, .int v_32), (3, .int r_13), (5, .int r_13), (2, .int fi), (0, .ref p0), (1, .ref p1)]) hx hb dX7_firstFeedingStep_66 hl (k := 2) rfl (by rw [ev_32]; rfl) (by decide) rfl (fun ls hl => ?_)
                refine lv_goto (tgt := 12) hx hb dX7_firstFeedingStep_69 (by decide) ?_
                exact ih12 (fu12 - 1) (by omega) fi r_13 v_32 o_15 o_16 o_17 o_18 o_19 _ _ _ (by omega) (by omega) ho_20 (hf_fz_p0.tr hf_21 (by decide)) (hf_21.u (by decide) fr_fz_p0_0) (hf_21.u (by decide) fr_fz_p0_1) (hf_21.u (by decide) fr_fz_p0_2) ho_22 (hf_fz_p0_bow.tr hf_23 (by decide)) (hf_23.u (by decide) fr_fz_p0_bow_0) (hf_23.u (by decide) fr_fz_p0_bow_1) hP14 hS14 (lv_sub hl [0, 1, 3, 4, 5] rfl)
              · have tc_31 := q_eqN c_31
                refine lv_iload_n hx hb dX7_firstFeedingStep_61 rfl (lv_at hl 3 rfl) ?_
                exact q_iret hx hb hr hlocks hS14 dX7_firstFeedingStep_62 ⟨o_15, o_16, o_17, o_18, o_19, ho_20, (hf_fz_p0.tr hf_21 (by decide)), ho_22, (hf_fz_p0_bow.tr hf_23 (by decide)), hP14, za_t_firstFeeding⟩
            · have tc_29 := q_eqN c_29
              refine lv_iload hx hb dX7_firstFeedingStep_48 (lv_at hl 1 rfl) (lv_istore_n (lv' := [(2, .int st), (5, .int r_13), (4, .int st), (3, .int be), (0, .ref p0), (1, .ref p1)]) hx hb dX7_firstFeedingStep_50 rfl hl (by decide) rfl (fun ls hl => ?_))
              refine lv_aload_n hx hb dX7_firstFeedingStep_51 rfl (lv_at hl 4 rfl) (qg_X7_0 hx hb hts i_X7 hown hK hP14 0 rfl k_7 (hf_21.u (by decide) fr_fz_p0_0) dX7_firstFeedingStep_52 ?_)
              obtain ⟨v_33, fv_33, tv_33⟩ := OKX0_g3 ho_22
              refine qg_X0_3 hx hb hts i_X0 hown hK hP14 1 rfl k_8 fv_33 dX7_firstFeedingStep_55 ?_
              refine lv_if_ne (tgt := 63) hx hb dX7_firstFeedingStep_58 (by decide) (fun c_34 => ?_) (fun c_34 => ?_)
              · have tc_34 := q_ne c_34
                refine lv_iload hx hb dX7_firstFeedingStep_63 (lv_at hl 1 rfl) (lv_istore_n (lv' := [(3, .int r_13), (2, .int st), (5, .int r_13), (4, .int st), (0, .ref p0), (1, .ref p1)]) hx hb dX7_firstFeedingStep_65 rfl hl (by decide) rfl (fun ls hl => ?_))
                obtain ⟨v_35, ev_35⟩ : ∃ y : Int32, y = st + 1 := ⟨_, rfl⟩
                have tv_35 := q_add ev_35 (by omega) (by omega)
                refine lv_iinc (v := v_35) (lv' := [(4, .int v_35), (3, .int r_13), (2, .int st), (5, .int r_13), (0, .ref p0), (1, .ref p1)]) hx hb dX7_firstFeedingStep_66 hl (k := 3) rfl (by rw [ev_35]; rfl) (by decide) rfl (fun ls hl => ?_)
                refine lv_goto (tgt := 12) hx hb dX7_firstFeedingStep_69 (by decide) ?_
                exact ih12 (fu12 - 1) (by omega) st r_13 v_35 o_15 o_16 o_17 o_18 o_19 _ _ _ (by omega) (by omega) ho_20 (hf_fz_p0.tr hf_21 (by decide)) (hf_21.u (by decide) fr_fz_p0_0) (hf_21.u (by decide) fr_fz_p0_1) (hf_21.u (by decide) fr_fz_p0_2) ho_22 (hf_fz_p0_bow.tr hf_23 (by decide)) (hf_23.u (by decide) fr_fz_p0_bow_0) (hf_23.u (by decide) fr_fz_p0_bow_1) hP14 hS14 (lv_sub hl [0, 1, 2, 4, 5] rfl)
              · have tc_34 := q_eqN c_34
                refine lv_iload_n hx hb dX7_firstFeedingStep_61 rfl (lv_at hl 0 rfl) ?_
                exact q_iret hx hb hr hlocks hS14 dX7_firstFeedingStep_62 ⟨o_15, o_16, o_17, o_18, o_19, ho_20, (hf_fz_p0.tr hf_21 (by decide)), ho_22, (hf_fz_p0_bow.tr hf_23 (by decide)), hP14, za_t_firstFeeding⟩
          · have tc_28 := q_ltN c_28
            refine lv_iconst (v := (-1)) hx hb dX7_firstFeedingStep_38 (by decide) (lv_istore_n (lv' := [(2, .int (-1)), (5, .int r_13), (4, .int st), (3, .int be), (0, .ref p0), (1, .ref p1)]) hx hb dX7_firstFeedingStep_39 rfl hl (by decide) rfl (fun ls hl => ?_))
            refine lv_goto (tgt := 51) hx hb dX7_firstFeedingStep_40 (by decide) (lv_aload_n hx hb dX7_firstFeedingStep_51 rfl (lv_at hl 4 rfl) (qg_X7_0 hx hb hts i_X7 hown hK hP14 0 rfl k_7 (hf_21.u (by decide) fr_fz_p0_0) dX7_firstFeedingStep_52 ?_))
            obtain ⟨v_36, fv_36, tv_36⟩ := OKX0_g3 ho_22
            refine qg_X0_3 hx hb hts i_X0 hown hK hP14 1 rfl k_8 fv_36 dX7_firstFeedingStep_55 ?_
            refine lv_if_ne (tgt := 63) hx hb dX7_firstFeedingStep_58 (by decide) (fun c_37 => ?_) (fun c_37 => ?_)
            · have tc_37 := q_ne c_37
              refine lv_iload hx hb dX7_firstFeedingStep_63 (lv_at hl 1 rfl) (lv_istore_n (lv' := [(3, .int r_13), (2, .int (-1)), (5, .int r_13), (4, .int st), (0, .ref p0), (1, .ref p1)]) hx hb dX7_firstFeedingStep_65 rfl hl (by decide) rfl (fun ls hl => ?_))
              obtain ⟨v_38, ev_38⟩ : ∃ y : Int32, y = st + 1 := ⟨_, rfl⟩
              have tv_38 := q_add ev_38 (by omega) (by omega)
              refine lv_iinc (v := v_38) (lv' := [(4, .int v_38), (3, .int r_13), (2, .int (-1)), (5, .int r_13), (0, .ref p0), (1, .ref p1)]) hx hb dX7_firstFeedingStep_66 hl (k := 3) rfl (by rw [ev_38]; rfl) (by decide) rfl (fun ls hl => ?_)
              refine lv_goto (tgt := 12) hx hb dX7_firstFeedingStep_69 (by decide) ?_
              exact ih12 (fu12 - 1) (by omega) ((-1)) r_13 v_38 o_15 o_16 o_17 o_18 o_19 _ _ _ (by omega) (by omega) ho_20 (hf_fz_p0.tr hf_21 (by decide)) (hf_21.u (by decide) fr_fz_p0_0) (hf_21.u (by decide) fr_fz_p0_1) (hf_21.u (by decide) fr_fz_p0_2) ho_22 (hf_fz_p0_bow.tr hf_23 (by decide)) (hf_23.u (by decide) fr_fz_p0_bow_0) (hf_23.u (by decide) fr_fz_p0_bow_1) hP14 hS14 (lv_sub hl [0, 1, 2, 4, 5] rfl)
            · have tc_37 := q_eqN c_37
              refine lv_iload_n hx hb dX7_firstFeedingStep_61 rfl (lv_at hl 0 rfl) ?_
              exact q_iret hx hb hr hlocks hS14 dX7_firstFeedingStep_62 ⟨o_15, o_16, o_17, o_18, o_19, ho_20, (hf_fz_p0.tr hf_21 (by decide)), ho_22, (hf_fz_p0_bow.tr hf_23 (by decide)), hP14, za_t_firstFeeding⟩
  exact key12 2000 ((-1)) 0 1 o_3 o_4 o_5 o_6 b_p1_laws_stack _ _ _ (by omega) (by omega) ho_7 (q_fr.rf.tr hf_8 (by decide)) (hf_8.u (by decide) fr_p0_0) (hf_8.u (by decide) fr_p0_1) (hf_8.u (by decide) fr_p0_2) ho_9 (q_fr.rf.tr hf_10 (by decide)) (hf_10.u (by decide) fr_p0_bow_0) (hf_10.u (by decide) fr_p0_bow_1) hP2 hS2 (lv_sub hl [0, 1, 2, 3, 4] rfl)
def zo_t_opensBy : List Cond := [.code yX7_opensBy cX7_opensBy 4 (some .boolean), .methodLink RX7 66 yX7_begin, .instanceMethod yX7_begin, .selects RX7 yX7_begin yX7_begin, .initialized RX7, .fieldLink RX7 12 "BowWalk$Trial" "bow" "LBowWalk$Bow;", .fieldLink RX7 73 "BowWalk$Bow" "left" "I", .fieldLink RX7 58 "BowWalk$Shop" "laws" "LBowWalk$Laws;", .methodLink RX7 80 yX0_pullByHand, .instanceMethod yX0_pullByHand, .selects RX0 yX0_pullByHand yX0_pullByHand, .initialized RX0]
def zw_t_opensBy : List Cond := zo_t_opensBy ++ (zw_t_tbegin ++ (zw_t_pullByHand ++ (wsX70 ++ (wsX00 ++ (wsX50 ++ [])))))
theorem gz_t_opensBy : zw_t_opensBy.all goodWord = true := p1_ga (by decide +kernel) (p1_ga gz_t_tbegin (p1_ga gz_t_pullByHand (p1_ga gk_X7 (p1_ga gk_X0 (p1_ga gk_X5 p1_g0)))))
theorem iz_t_opensBy : ∀ w ∈ zw_t_opensBy, w ∈ lw_tbl := p1_ia (p1_all [877, 839, 841, 32, 113, 414, 358, 214, 878, 799, 800, 112] (by decide +kernel)) (p1_ia iz_t_tbegin (p1_ia iz_t_pullByHand (p1_ia ik_X7 (p1_ia ik_X0 (p1_ia ik_X5 p1_i0)))))
def zW_t_opensBy (p0 : Nat) (f_p0 : List Value) (p0_bow : Nat) (f_p0_bow : List Value) (p0_bow_ends : Nat) (c_p0_bow_ends : ClassId) (b_p0_bow_ends : Nat → Int32) (p0_bow_tight : Nat) (c_p0_bow_tight : ClassId) (b_p0_bow_tight : Nat → Int32) (p1 : Nat) (f_p1 : List Value) (p1_laws : Nat) (f_p1_laws : List Value) (p1_laws_behind : Nat) (c_p1_laws_behind : ClassId) (b_p1_laws_behind : Nat → Int32) (p1_laws_code : Nat) (c_p1_laws_code : ClassId) (b_p1_laws_code : Nat → Int32) (p1_laws_stack : Nat) (c_p1_laws_stack : ClassId) (b_p1_laws_stack : Nat → Int32) (p1_once : Nat) (c_p1_once : ClassId) (b_p1_once : Nat → Int32) : va_W := [(p0, .inr (6, f_p0)), (p0_bow, .inr (0, f_p0_bow)), (p0_bow_ends, .inl (c_p0_bow_ends, 2, .inl b_p0_bow_ends)), (p0_bow_tight, .inl (c_p0_bow_tight, 12, .inl b_p0_bow_tight)), (p1, .inr (5, f_p1)), (p1_laws, .inr (3, f_p1_laws)), (p1_laws_behind, .inl (c_p1_laws_behind, 6, .inl b_p1_laws_behind)), (p1_laws_code, .inl (c_p1_laws_code, 600, .inl b_p1_laws_code)), (p1_laws_stack, .inl (c_p1_laws_stack, 60, .inl b_p1_laws_stack)), (p1_once, .inl (c_p1_once, 2, .inl b_p1_once))]
def zT_t_opensBy (c_p0_bow_ends : ClassId) (c_p0_bow_tight : ClassId) (c_p1_laws_behind : ClassId) (c_p1_laws_code : ClassId) (c_p1_laws_stack : ClassId) (c_p1_once : ClassId) : List (ClassId × FieldType) := [(c_p0_bow_ends, .int), (c_p0_bow_tight, .int), (c_p1_laws_behind, .int), (c_p1_laws_code, .int), (c_p1_laws_stack, .int), (c_p1_once, .int)]
def zA_t_opensBy (p0 : Nat) (p0_bow : Nat) (p0_bow_ends : Nat) (p0_bow_tight : Nat) (p1 : Nat) (p1_laws : Nat) (p1_laws_behind : Nat) (p1_laws_code : Nat) (p1_laws_stack : Nat) (p1_once : Nat) : List Nat := [p0, p0_bow, p0_bow_ends, p0_bow_tight, p1, p1_laws, p1_laws_behind, p1_laws_code, p1_laws_stack, p1_once]
theorem za_t_opensBy {p0 : Nat} {f_p0 : List Value} {p0_bow : Nat} {f_p0_bow : List Value} {p0_bow_ends : Nat} {c_p0_bow_ends : ClassId} {b_p0_bow_ends : Nat → Int32} {p0_bow_tight : Nat} {c_p0_bow_tight : ClassId} {b_p0_bow_tight : Nat → Int32} {p1 : Nat} {f_p1 : List Value} {p1_laws : Nat} {f_p1_laws : List Value} {p1_laws_behind : Nat} {c_p1_laws_behind : ClassId} {b_p1_laws_behind : Nat → Int32} {p1_laws_code : Nat} {c_p1_laws_code : ClassId} {b_p1_laws_code : Nat → Int32} {p1_laws_stack : Nat} {c_p1_laws_stack : ClassId} {b_p1_laws_stack : Nat → Int32} {p1_once : Nat} {c_p1_once : ClassId} {b_p1_once : Nat → Int32} : (zW_t_opensBy p0 f_p0 p0_bow f_p0_bow p0_bow_ends c_p0_bow_ends b_p0_bow_ends p0_bow_tight c_p0_bow_tight b_p0_bow_tight p1 f_p1 p1_laws f_p1_laws p1_laws_behind c_p1_laws_behind b_p1_laws_behind p1_laws_code c_p1_laws_code b_p1_laws_code p1_laws_stack c_p1_laws_stack b_p1_laws_stack p1_once c_p1_once b_p1_once).map Prod.fst = (zA_t_opensBy p0 p0_bow p0_bow_ends p0_bow_tight p1 p1_laws p1_laws_behind p1_laws_code p1_laws_stack p1_once) := rfl
def zG_t_opensBy (p0 : Nat) (f_p0 : List Value) (p0_bow : Nat) (f_p0_bow : List Value) (p0_bow_ends : Nat) (c_p0_bow_ends : ClassId) (b_p0_bow_ends : Nat → Int32) (p0_bow_tight : Nat) (c_p0_bow_tight : ClassId) (b_p0_bow_tight : Nat → Int32) (p1 : Nat) (f_p1 : List Value) (p1_laws : Nat) (f_p1_laws : List Value) (p1_laws_behind : Nat) (c_p1_laws_behind : ClassId) (b_p1_laws_behind : Nat → Int32) (p1_laws_code : Nat) (c_p1_laws_code : ClassId) (b_p1_laws_code : Nat → Int32) (p1_laws_stack : Nat) (c_p1_laws_stack : ClassId) (b_p1_laws_stack : Nat → Int32) (p1_once : Nat) (c_p1_once : ClassId) (b_p1_once : Nat → Int32) (a2 : Int32) (r : Int32) (X : va_W → Prop) : Prop := ∃ (y_p0 : List Value) (y_p0_bow : List Value) (y_p0_bow_ends : Nat → Int32) (y_p0_bow_tight : Nat → Int32) (y_p1_laws_stack : Nat → Int32), ((r = 1 ∧ (True)) ∨ (r = 0 ∧ (True))) ∧ OKX7 y_p0 ∧ q_fr [5] f_p0 y_p0 ∧ OKX0 y_p0_bow ∧ q_fr [3, 4, 5, 6, 7, 13, 14] f_p0_bow y_p0_bow ∧ X (zW_t_opensBy p0 y_p0 p0_bow y_p0_bow p0_bow_ends c_p0_bow_ends y_p0_bow_ends p0_bow_tight c_p0_bow_tight y_p0_bow_tight p1 f_p1 p1_laws f_p1_laws p1_laws_behind c_p1_laws_behind b_p1_laws_behind p1_laws_code c_p1_laws_code b_p1_laws_code p1_laws_stack c_p1_laws_stack y_p1_laws_stack p1_once c_p1_once b_p1_once)
theorem zm_t_opensBy {p0 : Nat} {f_p0 : List Value} {p0_bow : Nat} {f_p0_bow : List Value} {p0_bow_ends : Nat} {c_p0_bow_ends : ClassId} {b_p0_bow_ends : Nat → Int32} {p0_bow_tight : Nat} {c_p0_bow_tight : ClassId} {b_p0_bow_tight : Nat → Int32} {p1 : Nat} {f_p1 : List Value} {p1_laws : Nat} {f_p1_laws : List Value} {p1_laws_behind : Nat} {c_p1_laws_behind : ClassId} {b_p1_laws_behind : Nat → Int32} {p1_laws_code : Nat} {c_p1_laws_code : ClassId} {b_p1_laws_code : Nat → Int32} {p1_laws_stack : Nat} {c_p1_laws_stack : ClassId} {b_p1_laws_stack : Nat → Int32} {p1_once : Nat} {c_p1_once : ClassId} {b_p1_once : Nat → Int32} {a2 : Int32} : ∀ (r : Int32), ∀ X Y : va_W → Prop, (∀ w, X w → Y w) → zG_t_opensBy p0 f_p0 p0_bow f_p0_bow p0_bow_ends c_p0_bow_ends b_p0_bow_ends p0_bow_tight c_p0_bow_tight b_p0_bow_tight p1 f_p1 p1_laws f_p1_laws p1_laws_behind c_p1_laws_behind b_p1_laws_behind p1_laws_code c_p1_laws_code b_p1_laws_code p1_laws_stack c_p1_laws_stack b_p1_laws_stack p1_once c_p1_once b_p1_once a2 r X → zG_t_opensBy p0 f_p0 p0_bow f_p0_bow p0_bow_ends c_p0_bow_ends b_p0_bow_ends p0_bow_tight c_p0_bow_tight b_p0_bow_tight p1 f_p1 p1_laws f_p1_laws p1_laws_behind c_p1_laws_behind b_p1_laws_behind p1_laws_code c_p1_laws_code b_p1_laws_code p1_laws_stack c_p1_laws_stack b_p1_laws_stack p1_once c_p1_once b_p1_once a2 r Y := fun r X Y h h1 => by obtain ⟨x0, x1, x2, x3, x4, x5, x6, x7, x8, x9, hx⟩ := h1; exact ⟨x0, x1, x2, x3, x4, x5, x6, x7, x8, x9, h _ hx⟩
set_option maxHeartbeats 4000000 in
set_option maxRecDepth 100000 in
theorem t_opensBy (l : Launch) (dC : Nat → ClassId) (dI : Nat → Nat → Nat) (sz : Nat) (p0 : Nat) (f_p0 : List Value) (p0_bow : Nat) (f_p0_bow : List Value) (p0_bow_ends : Nat) (c_p0_bow_ends : ClassId) (b_p0_bow_ends : Nat → Int32) (p0_bow_tight : Nat) (c_p0_bow_tight : ClassId) (b_p0_bow_tight : Nat → Int32) (p1 : Nat) (f_p1 : List Value) (p1_laws : Nat) (f_p1_laws : List Value) (p1_laws_behind : Nat) (c_p1_laws_behind : ClassId) (b_p1_laws_behind : Nat → Int32) (p1_laws_code : Nat) (c_p1_laws_code : ClassId) (b_p1_laws_code : Nat → Int32) (p1_laws_stack : Nat) (c_p1_laws_stack : ClassId) (b_p1_laws_stack : Nat → Int32) (p1_once : Nat) (c_p1_once : ClassId) (b_p1_once : Nat → Int32) (a2 : Int32) (ho_p0 : OKX7 f_p0) (fr_p0_0 : q_rf f_p0 0 p0_bow) (ho_p0_bow : OKX0 f_p0_bow) (fr_p0_bow_0 : q_rf f_p0_bow 0 p0_bow_tight) (fr_p0_bow_1 : q_rf f_p0_bow 1 p0_bow_ends) (ho_p1 : OKX5 f_p1) (fr_p1_12 : q_rf f_p1 12 p1_laws) (fr_p1_13 : q_rf f_p1 13 p1_once) (ho_p1_laws : OKX3 f_p1_laws) (fr_p1_laws_0 : q_rf f_p1_laws 0 p1_laws_code) (fr_p1_laws_1 : q_rf f_p1_laws 1 p1_laws_behind) (fr_p1_laws_2 : q_rf f_p1_laws 2 p1_laws_stack) (hr_p1_laws_behind : q_rg 6 (0) 600 b_p1_laws_behind) (hr_p1_once : q_rg 2 (0) 999 b_p1_once) : Met l yX7_opensBy zw_t_opensBy ({ frames := 4, cells := 0, slots := 0, locals := 98 }) (va_Pc [.ref p0, .ref p1, .int a2] (q_pre (dC, dI) (zW_t_opensBy p0 f_p0 p0_bow f_p0_bow p0_bow_ends c_p0_bow_ends b_p0_bow_ends p0_bow_tight c_p0_bow_tight b_p0_bow_tight p1 f_p1 p1_laws f_p1_laws p1_laws_behind c_p1_laws_behind b_p1_laws_behind p1_laws_code c_p1_laws_code b_p1_laws_code p1_laws_stack c_p1_laws_stack b_p1_laws_stack p1_once c_p1_once b_p1_once) (zT_t_opensBy c_p0_bow_ends c_p0_bow_tight c_p1_laws_behind c_p1_laws_code c_p1_laws_stack c_p1_once) q_E0 sz)) (q_Qi (dC, dI) (zG_t_opensBy p0 f_p0 p0_bow f_p0_bow p0_bow_ends c_p0_bow_ends b_p0_bow_ends p0_bow_tight c_p0_bow_tight b_p0_bow_tight p1 f_p1 p1_laws f_p1_laws p1_laws_behind c_p1_laws_behind b_p1_laws_behind p1_laws_code c_p1_laws_code b_p1_laws_code p1_laws_stack c_p1_laws_stack b_p1_laws_stack p1_once c_p1_once b_p1_once a2) (zA_t_opensBy p0 p0_bow p0_bow_ends p0_bow_tight p1 p1_laws p1_laws_behind p1_laws_code p1_laws_stack p1_once) (va_A (zW_t_opensBy p0 f_p0 p0_bow f_p0_bow p0_bow_ends c_p0_bow_ends b_p0_bow_ends p0_bow_tight c_p0_bow_tight b_p0_bow_tight p1 f_p1 p1_laws f_p1_laws p1_laws_behind c_p1_laws_behind b_p1_laws_behind p1_laws_code c_p1_laws_code b_p1_laws_code p1_laws_stack c_p1_laws_stack b_p1_laws_stack p1_once c_p1_once b_p1_once) sz)) 0 0 (va_A (zW_t_opensBy p0 f_p0 p0_bow f_p0_bow p0_bow_ends c_p0_bow_ends b_p0_bow_ends p0_bow_tight c_p0_bow_tight b_p0_bow_tight p1 f_p1 p1_laws f_p1_laws p1_laws_behind c_p1_laws_behind b_p1_laws_behind p1_laws_code c_p1_laws_code b_p1_laws_code p1_laws_stack c_p1_laws_stack b_p1_laws_stack p1_once c_p1_once b_p1_once) sz) := by
  refine Met.ofW (cc := cX7_opensBy) (maxL := 4) (ret := (some .boolean)) (by decide) rfl ?_
  intro p e s m args below meth c s₁ B hml hv
  obtain ⟨rfl, hsz, hP, hK, hD0, hE⟩ := hv
  have hx := B.exec
  have hb := B.bytes
  have hr := B.returns
  have hts := atoms_spec (ws := zw_t_opensBy) B.pre
  have hown : s.vm.findClass RX7 = some m.cls := findClass_of_methodNamed B.named
  have hlocks := B.notSynchronized
  subst hsz
  have hD := hD0.self (sz := s.heap.size)
  generalize hAe : va_A (zW_t_opensBy p0 f_p0 p0_bow f_p0_bow p0_bow_ends c_p0_bow_ends b_p0_bow_ends p0_bow_tight c_p0_bow_tight b_p0_bow_tight p1 f_p1 p1_laws f_p1_laws p1_laws_behind c_p1_laws_behind b_p1_laws_behind p1_laws_code c_p1_laws_code b_p1_laws_code p1_laws_stack c_p1_laws_stack b_p1_laws_stack p1_once c_p1_once b_p1_once) s.heap.size = A at hD hE ⊢
  have hA : ∀ q : Nat, s.heap.size ≤ q → A q := fun q h => by rw [← hAe]; exact Or.inr h
  have hDa : q_DA A (zA_t_opensBy p0 p0_bow p0_bow_ends p0_bow_tight p1 p1_laws p1_laws_behind p1_laws_code p1_laws_stack p1_once) := q_DA.mk hD za_t_opensBy
  clear hAe hD0 hD
  have hS : va_S A s.heap s.heap [] := va_S.rf
  have m_0 : (.methodLink RX7 66 yX7_begin : Cond) ∈ zw_t_opensBy := List.mem_append_left _ (List.mem_of_getElem? (i := 1) rfl)
  have k_0 := hts _ m_0
  have m_1 : (.instanceMethod yX7_begin : Cond) ∈ zw_t_opensBy := List.mem_append_left _ (List.mem_of_getElem? (i := 2) rfl)
  have k_1 := hts _ m_1
  have m_2 : (.selects RX7 yX7_begin yX7_begin : Cond) ∈ zw_t_opensBy := List.mem_append_left _ (List.mem_of_getElem? (i := 3) rfl)
  have k_2 := hts _ m_2
  have m_3 : (.initialized RX7 : Cond) ∈ zw_t_opensBy := List.mem_append_left _ (List.mem_of_getElem? (i := 4) rfl)
  have k_3 := hts _ m_3
  have m_4 : (.fieldLink RX7 12 "BowWalk$Trial" "bow" "LBowWalk$Bow;" : Cond) ∈ zw_t_opensBy := List.mem_append_left _ (List.mem_of_getElem? (i := 5) rfl)
  have k_4 := hts _ m_4
  have m_5 : (.fieldLink RX7 73 "BowWalk$Bow" "left" "I" : Cond) ∈ zw_t_opensBy := List.mem_append_left _ (List.mem_of_getElem? (i := 6) rfl)
  have k_5 := hts _ m_5
  have m_6 : (.fieldLink RX7 58 "BowWalk$Shop" "laws" "LBowWalk$Laws;" : Cond) ∈ zw_t_opensBy := List.mem_append_left _ (List.mem_of_getElem? (i := 7) rfl)
  have k_6 := hts _ m_6
  have m_7 : (.methodLink RX7 80 yX0_pullByHand : Cond) ∈ zw_t_opensBy := List.mem_append_left _ (List.mem_of_getElem? (i := 8) rfl)
  have k_7 := hts _ m_7
  have m_8 : (.instanceMethod yX0_pullByHand : Cond) ∈ zw_t_opensBy := List.mem_append_left _ (List.mem_of_getElem? (i := 9) rfl)
  have k_8 := hts _ m_8
  have m_9 : (.selects RX0 yX0_pullByHand yX0_pullByHand : Cond) ∈ zw_t_opensBy := List.mem_append_left _ (List.mem_of_getElem? (i := 10) rfl)
  have k_9 := hts _ m_9
  have m_10 : (.initialized RX0 : Cond) ∈ zw_t_opensBy := List.mem_append_left _ (List.mem_of_getElem? (i := 11) rfl)
  have k_10 := hts _ m_10
  have g_t_tbegin : ∀ w ∈ zw_t_tbegin, w ∈ zw_t_opensBy := fun w h => List.mem_append_right _ (List.mem_append_left _ h)
  have g_t_pullByHand : ∀ w ∈ zw_t_pullByHand, w ∈ zw_t_opensBy := fun w h => List.mem_append_right _ (List.mem_append_right _ (List.mem_append_left _ h))
  have i_X7 : ∀ w ∈ u_ws RX7 TX7 6, w ∈ zw_t_opensBy := fun w h => List.mem_append_right _ (List.mem_append_right _ (List.mem_append_right _ (List.mem_append_left _ h)))
  have i_X0 : ∀ w ∈ u_ws RX0 TX0 15, w ∈ zw_t_opensBy := fun w h => List.mem_append_right _ (List.mem_append_right _ (List.mem_append_right _ (List.mem_append_right _ (List.mem_append_left _ h))))
  have i_X5 : ∀ w ∈ u_ws RX5 TX5 15, w ∈ zw_t_opensBy := fun w h => List.mem_append_right _ (List.mem_append_right _ (List.mem_append_right _ (List.mem_append_right _ (List.mem_append_right _ (List.mem_append_left _ h)))))
  have lt_0 : (0 : Int32).toInt = 0 := by decide
  have lt_1 : (1 : Int32).toInt = 1 := by decide
  have lt_100 : (100 : Int32).toInt = 100 := by decide
  have hl := lv_entry ([.ref p0, .ref p1, .int a2]) (n := 4) (Nat.le_of_ble_eq_true rfl)
  rw [lg_entry_eq]
  generalize (lg_sl ([.ref p0, .ref p1, .int a2]) ++ List.replicate (4 - (lg_sl ([.ref p0, .ref p1, .int a2])).length) Slot.unset).toArray = ls at hl ⊢
  have hl : lv_has ls 4 [(0, .ref p0), (1, .ref p1), (2, .int a2)] := hl
  refine lv_aload_n hx hb dX7_opensBy_0 rfl (lv_at hl 0 rfl) (lv_aload_n hx hb dX7_opensBy_1 rfl (lv_at hl 1 rfl) ?_)
  refine q_cVv (As := [.ref p1]) (rest := []) q_w0 trivial hK hP hDa za_t_opensBy hS hA [0, 1, 2, 3, 4, 9] [0, 1, 5] (by decide +kernel) ⟨hx, hb, hml, hown, hts⟩ (t_tbegin l dC dI s.heap.size p0 f_p0 p0_bow f_p0_bow p0_bow_ends c_p0_bow_ends b_p0_bow_ends p0_bow_tight c_p0_bow_tight b_p0_bow_tight p1 f_p1 p1_once c_p1_once b_p1_once ho_p0 fr_p0_0 ho_p0_bow fr_p0_bow_0 fr_p0_bow_1 ho_p1 fr_p1_13 hr_p1_once) rfl rfl (cwV 1 hts (p1_gV m_0 m_1 m_2 m_3 g_t_tbegin gz_t_tbegin) rfl rfl rfl (by decide +kernel) ⟨by decide, by decide⟩) (va_recv hK hP (ci := 6) (q0 := 0) rfl rfl) zm_t_tbegin rfl hl.1 rfl (Nat.le_of_ble_eq_true rfl) dX7_opensBy_2 ⟨by decide, by decide⟩ (fun H2 lo2 hG2 hS2 => ?_)
  obtain ⟨o_3, o_4, o_5, o_6, ho_7, hf_8, ho_9, hf_10, hQ2⟩ := hG2
  have hP2 : va_P (dC, dI) vwCl (zW_t_opensBy p0 o_3 p0_bow o_4 p0_bow_ends c_p0_bow_ends o_5 p0_bow_tight c_p0_bow_tight o_6 p1 f_p1 p1_laws f_p1_laws p1_laws_behind c_p1_laws_behind b_p1_laws_behind p1_laws_code c_p1_laws_code b_p1_laws_code p1_laws_stack c_p1_laws_stack b_p1_laws_stack p1_once c_p1_once b_p1_once) H2 := hQ2
  clear hQ2 hP hS
  refine lv_iconst (v := 0) hx hb dX7_opensBy_5 (by decide) (lv_istore_n (lv' := [(3, .int 0), (0, .ref p0), (1, .ref p1), (2, .int a2)]) hx hb dX7_opensBy_6 rfl hl (by decide) rfl (fun ls hl => ?_))
  have key7 : ∀ (fu7 : Nat) (n : Int32) (fz_p0_bow : List Value) (bz_p0_bow_ends : Nat → Int32) (bz_p0_bow_tight : Nat → Int32) (bz_p1_laws_stack : Nat → Int32) (H : Heap) (locs : List Loc) (ls : Array Slot) (hfu7 : 100 - n.toInt ≤ (fu7 : Int)) (tn : (0) ≤ n.toInt ∧ n.toInt ≤ 100) (ho_fz_p0_bow : OKX0 fz_p0_bow) (hf_fz_p0_bow : q_fr [3, 4, 5, 6, 7, 13, 14] f_p0_bow fz_p0_bow) (fr_fz_p0_bow_0 : q_rf fz_p0_bow 0 p0_bow_tight) (fr_fz_p0_bow_1 : q_rf fz_p0_bow 1 p0_bow_ends), va_P (dC, dI) vwCl (zW_t_opensBy p0 o_3 p0_bow fz_p0_bow p0_bow_ends c_p0_bow_ends bz_p0_bow_ends p0_bow_tight c_p0_bow_tight bz_p0_bow_tight p1 f_p1 p1_laws f_p1_laws p1_laws_behind c_p1_laws_behind b_p1_laws_behind p1_laws_code c_p1_laws_code b_p1_laws_code p1_laws_stack c_p1_laws_stack bz_p1_laws_stack p1_once c_p1_once b_p1_once) H → va_S A s.heap H locs → lv_has ls 4 [(3, .int n), (0, .ref p0), (1, .ref p1), (2, .int a2)] → W p l e (headSpec zw_t_opensBy { frames := 4, cells := 0, slots := 0, locals := 98 }).room s m ([.ref p0, .ref p1, .int a2] : List Value).toArray below meth c H locs 0 0 (MQ below (q_Qi (dC, dI) (zG_t_opensBy p0 f_p0 p0_bow f_p0_bow p0_bow_ends c_p0_bow_ends b_p0_bow_ends p0_bow_tight c_p0_bow_tight b_p0_bow_tight p1 f_p1 p1_laws f_p1_laws p1_laws_behind c_p1_laws_behind b_p1_laws_behind p1_laws_code c_p1_laws_code b_p1_laws_code p1_laws_stack c_p1_laws_stack b_p1_laws_stack p1_once c_p1_once b_p1_once a2) (zA_t_opensBy p0 p0_bow p0_bow_ends p0_bow_tight p1 p1_laws p1_laws_behind p1_laws_code p1_laws_stack p1_once) A) ([.ref p0, .ref p1, .int a2] : List Value).toArray s 0 0 A) (F0 m 7 ls []) := by
    intro fu7
    induction fu7 using Nat.strongRecOn with
    | ind fu7 ih7 =>
      intro n fz_p0_bow bz_p0_bow_ends bz_p0_bow_tight bz_p1_laws_stack H11 lo11 ls hfu7 tn ho_fz_p0_bow hf_fz_p0_bow fr_fz_p0_bow_0 fr_fz_p0_bow_1 hP11 hS11 hl
      refine lv_iload_n hx hb dX7_opensBy_7 rfl (lv_at hl 0 rfl) (lv_bipush (v := 100) hx hb dX7_opensBy_8 (by decide) ?_)
      refine lv_icmp_ge (tgt := 46) hx hb dX7_opensBy_10 (by decide) (fun c_12 => ?_) (fun c_12 => ?_)
      · have tc_12 := q_ge c_12
        refine lv_aload_n hx hb dX7_opensBy_46 rfl (lv_at hl 1 rfl) (qg_X7_0 hx hb hts i_X7 hown hK hP11 0 rfl k_4 (hf_8.u (by decide) fr_p0_0) dX7_opensBy_47 ?_)
        obtain ⟨v_13, fv_13, tv_13⟩ := OKX0_g3 ho_fz_p0_bow
        refine qg_X0_3 hx hb hts i_X0 hown hK hP11 1 rfl k_5 fv_13 dX7_opensBy_50 ?_
        refine lv_if_ne (tgt := 60) hx hb dX7_opensBy_53 (by decide) (fun c_14 => ?_) (fun c_14 => ?_)
        · have tc_14 := q_ne c_14
          refine lv_iconst (v := 0) hx hb dX7_opensBy_60 (by decide) ?_
          exact q_zret hx hb hr hlocks (by decide) hS11 dX7_opensBy_61 ⟨o_3, fz_p0_bow, bz_p0_bow_ends, bz_p0_bow_tight, bz_p1_laws_stack, (Or.inr ⟨rfl, by first | trivial | omega⟩), ho_7, (q_fr.rf.tr hf_8 (by decide)), ho_fz_p0_bow, hf_fz_p0_bow, hP11, za_t_opensBy⟩
        · have tc_14 := q_eqN c_14
          refine lv_iconst (v := 1) hx hb dX7_opensBy_56 (by decide) (lv_goto (tgt := 61) hx hb dX7_opensBy_57 (by decide) ?_)
          exact q_zret hx hb hr hlocks (by decide) hS11 dX7_opensBy_61 ⟨o_3, fz_p0_bow, bz_p0_bow_ends, bz_p0_bow_tight, bz_p1_laws_stack, (Or.inl ⟨rfl, by first | trivial | omega⟩), ho_7, (q_fr.rf.tr hf_8 (by decide)), ho_fz_p0_bow, hf_fz_p0_bow, hP11, za_t_opensBy⟩
      · have tc_12 := q_ltN c_12
        refine lv_aload_n hx hb dX7_opensBy_13 rfl (lv_at hl 1 rfl) (qg_X7_0 hx hb hts i_X7 hown hK hP11 0 rfl k_4 (hf_8.u (by decide) fr_p0_0) dX7_opensBy_14 ?_)
        obtain ⟨v_15, fv_15, tv_15⟩ := OKX0_g3 ho_fz_p0_bow
        refine qg_X0_3 hx hb hts i_X0 hown hK hP11 1 rfl k_5 fv_15 dX7_opensBy_17 ?_
        refine lv_if_le (tgt := 46) hx hb dX7_opensBy_20 (by decide) (fun c_16 => ?_) (fun c_16 => ?_)
        · have tc_16 := q_le c_16
          refine lv_aload_n hx hb dX7_opensBy_46 rfl (lv_at hl 1 rfl) (qg_X7_0 hx hb hts i_X7 hown hK hP11 0 rfl k_4 (hf_8.u (by decide) fr_p0_0) dX7_opensBy_47 (qg_X0_3 hx hb hts i_X0 hown hK hP11 1 rfl k_5 fv_15 dX7_opensBy_50 ?_))
          refine lv_if_ne (tgt := 60) hx hb dX7_opensBy_53 (by decide) (fun c_17 => ?_) (fun c_17 => ?_)
          · have tc_17 := q_ne c_17
            refine lv_iconst (v := 0) hx hb dX7_opensBy_60 (by decide) ?_
            exact q_zret hx hb hr hlocks (by decide) hS11 dX7_opensBy_61 ⟨o_3, fz_p0_bow, bz_p0_bow_ends, bz_p0_bow_tight, bz_p1_laws_stack, (Or.inr ⟨rfl, by first | trivial | omega⟩), ho_7, (q_fr.rf.tr hf_8 (by decide)), ho_fz_p0_bow, hf_fz_p0_bow, hP11, za_t_opensBy⟩
          · have tc_17 := q_eqN c_17
            refine lv_iconst (v := 1) hx hb dX7_opensBy_56 (by decide) (lv_goto (tgt := 61) hx hb dX7_opensBy_57 (by decide) ?_)
            exact q_zret hx hb hr hlocks (by decide) hS11 dX7_opensBy_61 ⟨o_3, fz_p0_bow, bz_p0_bow_ends, bz_p0_bow_tight, bz_p1_laws_stack, (Or.inl ⟨rfl, by first | trivial | omega⟩), ho_7, (q_fr.rf.tr hf_8 (by decide)), ho_fz_p0_bow, hf_fz_p0_bow, hP11, za_t_opensBy⟩
        · have tc_16 := q_gtN c_16
          refine lv_aload_n hx hb dX7_opensBy_23 rfl (lv_at hl 1 rfl) (qg_X7_0 hx hb hts i_X7 hown hK hP11 0 rfl k_4 (hf_8.u (by decide) fr_p0_0) dX7_opensBy_24 (lv_aload_n hx hb dX7_opensBy_27 rfl (lv_at hl 2 rfl) (qg_X5_12 hx hb hts i_X5 hown hK hP11 4 rfl k_6 fr_p1_12 dX7_opensBy_28 (lv_iload_n hx hb dX7_opensBy_31 rfl (lv_at hl 3 rfl) ?_))))
          refine q_cVi (As := [.ref p1_laws, .int a2]) (rest := []) q_w0 trivial hK hP11 hDa za_t_opensBy hS11 hA [1, 2, 3, 5, 6, 7, 8] [0, 1, 2, 3, 4] (by decide +kernel) ⟨hx, hb, hml, hown, hts⟩ (t_pullByHand l dC dI H11.size p0_bow fz_p0_bow p0_bow_ends c_p0_bow_ends bz_p0_bow_ends p0_bow_tight c_p0_bow_tight bz_p0_bow_tight p1_laws f_p1_laws p1_laws_behind c_p1_laws_behind b_p1_laws_behind p1_laws_code c_p1_laws_code b_p1_laws_code p1_laws_stack c_p1_laws_stack bz_p1_laws_stack a2 ho_fz_p0_bow fr_fz_p0_bow_0 fr_fz_p0_bow_1 ho_p1_laws fr_p1_laws_0 fr_p1_laws_1 fr_p1_laws_2 hr_p1_laws_behind) rfl rfl (cwV 2 hts (p1_gV m_7 m_8 m_9 m_10 g_t_pullByHand gz_t_pullByHand) rfl rfl rfl (by decide +kernel) ⟨by decide, by decide⟩) (va_recv hK hP11 (ci := 0) (q0 := 1) rfl rfl) zm_t_pullByHand rfl hl.1 rfl (Nat.le_of_ble_eq_true rfl) dX7_opensBy_32 ⟨by decide, by decide⟩ (fun r_18 H19 lo19 hG19 hS19 => ?_)
          obtain ⟨o_20, o_21, o_22, o_23, ho_24, hf_25, hQ19⟩ := hG19
          have hP19 : va_P (dC, dI) vwCl (zW_t_opensBy p0 o_3 p0_bow o_20 p0_bow_ends c_p0_bow_ends o_21 p0_bow_tight c_p0_bow_tight o_22 p1 f_p1 p1_laws f_p1_laws p1_laws_behind c_p1_laws_behind b_p1_laws_behind p1_laws_code c_p1_laws_code b_p1_laws_code p1_laws_stack c_p1_laws_stack o_23 p1_once c_p1_once b_p1_once) H19 := hQ19
          clear hQ19 hP11 hS11
          refine lv_if_ne (tgt := 40) hx hb dX7_opensBy_35 (by decide) (fun c_26 => ?_) (fun c_26 => ?_)
          · have tc_26 := q_ne c_26
            obtain ⟨v_27, ev_27⟩ : ∃ y : Int32, y = n + 1 := ⟨_, rfl⟩
            have tv_27 := q_add ev_27 (by omega) (by omega)
            refine lv_iinc (v := v_27) (lv' := [(3, .int v_27), (0, .ref p0), (1, .ref p1), (2, .int a2)]) hx hb dX7_opensBy_40 hl (k := 0) rfl (by rw [ev_27]; rfl) (by decide) rfl (fun ls hl => ?_)
            refine lv_goto (tgt := 7) hx hb dX7_opensBy_43 (by decide) ?_
            exact ih7 (fu7 - 1) (by omega) v_27 o_20 o_21 o_22 o_23 _ _ _ (by omega) (by omega) ho_24 (hf_fz_p0_bow.tr hf_25 (by decide)) (hf_25.u (by decide) fr_fz_p0_bow_0) (hf_25.u (by decide) fr_fz_p0_bow_1) hP19 hS19 (lv_sub hl [0, 1, 2, 3] rfl)
          · have tc_26 := q_eqN c_26
            refine lv_iconst (v := 0) hx hb dX7_opensBy_38 (by decide) ?_
            exact q_zret hx hb hr hlocks (by decide) hS19 dX7_opensBy_39 ⟨o_3, o_20, o_21, o_22, o_23, (Or.inr ⟨rfl, by first | trivial | omega⟩), ho_7, (q_fr.rf.tr hf_8 (by decide)), ho_24, (hf_fz_p0_bow.tr hf_25 (by decide)), hP19, za_t_opensBy⟩
  exact key7 100 0 o_4 o_5 o_6 b_p1_laws_stack _ _ _ (by omega) (by omega) ho_9 (q_fr.rf.tr hf_10 (by decide)) (hf_10.u (by decide) fr_p0_bow_0) (hf_10.u (by decide) fr_p0_bow_1) hP2 hS2 (lv_sub hl [0, 1, 2, 3] rfl)
def zo_t_leastOpening : List Cond := [.code yX7_leastOpeningPull cX7_leastOpeningPull 3 (some .int), .methodLink RX7 76 yX7_opensBy, .instanceMethod yX7_opensBy, .selects RX7 yX7_opensBy yX7_opensBy, .initialized RX7]
def zw_t_leastOpening : List Cond := zo_t_leastOpening ++ (zw_t_opensBy ++ [])
theorem gz_t_leastOpening : zw_t_leastOpening.all goodWord = true := p1_ga (by decide +kernel) (p1_ga gz_t_opensBy p1_g0)
theorem iz_t_leastOpening : ∀ w ∈ zw_t_leastOpening, w ∈ lw_tbl := p1_ia (p1_all [873, 874, 876, 34, 113] (by decide +kernel)) (p1_ia iz_t_opensBy p1_i0)
def zW_t_leastOpening (p0 : Nat) (f_p0 : List Value) (p0_bow : Nat) (f_p0_bow : List Value) (p0_bow_ends : Nat) (c_p0_bow_ends : ClassId) (b_p0_bow_ends : Nat → Int32) (p0_bow_tight : Nat) (c_p0_bow_tight : ClassId) (b_p0_bow_tight : Nat → Int32) (p1 : Nat) (f_p1 : List Value) (p1_laws : Nat) (f_p1_laws : List Value) (p1_laws_behind : Nat) (c_p1_laws_behind : ClassId) (b_p1_laws_behind : Nat → Int32) (p1_laws_code : Nat) (c_p1_laws_code : ClassId) (b_p1_laws_code : Nat → Int32) (p1_laws_stack : Nat) (c_p1_laws_stack : ClassId) (b_p1_laws_stack : Nat → Int32) (p1_once : Nat) (c_p1_once : ClassId) (b_p1_once : Nat → Int32) : va_W := [(p0, .inr (6, f_p0)), (p0_bow, .inr (0, f_p0_bow)), (p0_bow_ends, .inl (c_p0_bow_ends, 2, .inl b_p0_bow_ends)), (p0_bow_tight, .inl (c_p0_bow_tight, 12, .inl b_p0_bow_tight)), (p1, .inr (5, f_p1)), (p1_laws, .inr (3, f_p1_laws)), (p1_laws_behind, .inl (c_p1_laws_behind, 6, .inl b_p1_laws_behind)), (p1_laws_code, .inl (c_p1_laws_code, 600, .inl b_p1_laws_code)), (p1_laws_stack, .inl (c_p1_laws_stack, 60, .inl b_p1_laws_stack)), (p1_once, .inl (c_p1_once, 2, .inl b_p1_once))]
def zT_t_leastOpening (c_p0_bow_ends : ClassId) (c_p0_bow_tight : ClassId) (c_p1_laws_behind : ClassId) (c_p1_laws_code : ClassId) (c_p1_laws_stack : ClassId) (c_p1_once : ClassId) : List (ClassId × FieldType) := [(c_p0_bow_ends, .int), (c_p0_bow_tight, .int), (c_p1_laws_behind, .int), (c_p1_laws_code, .int), (c_p1_laws_stack, .int), (c_p1_once, .int)]
def zA_t_leastOpening (p0 : Nat) (p0_bow : Nat) (p0_bow_ends : Nat) (p0_bow_tight : Nat) (p1 : Nat) (p1_laws : Nat) (p1_laws_behind : Nat) (p1_laws_code : Nat) (p1_laws_stack : Nat) (p1_once : Nat) : List Nat := [p0, p0_bow, p0_bow_ends, p0_bow_tight, p1, p1_laws, p1_laws_behind, p1_laws_code, p1_laws_stack, p1_once]
theorem za_t_leastOpening {p0 : Nat} {f_p0 : List Value} {p0_bow : Nat} {f_p0_bow : List Value} {p0_bow_ends : Nat} {c_p0_bow_ends : ClassId} {b_p0_bow_ends : Nat → Int32} {p0_bow_tight : Nat} {c_p0_bow_tight : ClassId} {b_p0_bow_tight : Nat → Int32} {p1 : Nat} {f_p1 : List Value} {p1_laws : Nat} {f_p1_laws : List Value} {p1_laws_behind : Nat} {c_p1_laws_behind : ClassId} {b_p1_laws_behind : Nat → Int32} {p1_laws_code : Nat} {c_p1_laws_code : ClassId} {b_p1_laws_code : Nat → Int32} {p1_laws_stack : Nat} {c_p1_laws_stack : ClassId} {b_p1_laws_stack : Nat → Int32} {p1_once : Nat} {c_p1_once : ClassId} {b_p1_once : Nat → Int32} : (zW_t_leastOpening p0 f_p0 p0_bow f_p0_bow p0_bow_ends c_p0_bow_ends b_p0_bow_ends p0_bow_tight c_p0_bow_tight b_p0_bow_tight p1 f_p1 p1_laws f_p1_laws p1_laws_behind c_p1_laws_behind b_p1_laws_behind p1_laws_code c_p1_laws_code b_p1_laws_code p1_laws_stack c_p1_laws_stack b_p1_laws_stack p1_once c_p1_once b_p1_once).map Prod.fst = (zA_t_leastOpening p0 p0_bow p0_bow_ends p0_bow_tight p1 p1_laws p1_laws_behind p1_laws_code p1_laws_stack p1_once) := rfl
def zG_t_leastOpening (p0 : Nat) (f_p0 : List Value) (p0_bow : Nat) (f_p0_bow : List Value) (p0_bow_ends : Nat) (c_p0_bow_ends : ClassId) (b_p0_bow_ends : Nat → Int32) (p0_bow_tight : Nat) (c_p0_bow_tight : ClassId) (b_p0_bow_tight : Nat → Int32) (p1 : Nat) (f_p1 : List Value) (p1_laws : Nat) (f_p1_laws : List Value) (p1_laws_behind : Nat) (c_p1_laws_behind : ClassId) (b_p1_laws_behind : Nat → Int32) (p1_laws_code : Nat) (c_p1_laws_code : ClassId) (b_p1_laws_code : Nat → Int32) (p1_laws_stack : Nat) (c_p1_laws_stack : ClassId) (b_p1_laws_stack : Nat → Int32) (p1_once : Nat) (c_p1_once : ClassId) (b_p1_once : Nat → Int32) (r : Int32) (X : va_W → Prop) : Prop := ∃ (y_p0 : List Value) (y_p0_bow : List Value) (y_p0_bow_ends : Nat → Int32) (y_p0_bow_tight : Nat → Int32) (y_p1_laws_stack : Nat → Int32), ((-1) ≤ r.toInt ∧ r.toInt ≤ 990) ∧ OKX7 y_p0 ∧ q_fr [5] f_p0 y_p0 ∧ OKX0 y_p0_bow ∧ q_fr [3, 4, 5, 6, 7, 13, 14] f_p0_bow y_p0_bow ∧ X (zW_t_leastOpening p0 y_p0 p0_bow y_p0_bow p0_bow_ends c_p0_bow_ends y_p0_bow_ends p0_bow_tight c_p0_bow_tight y_p0_bow_tight p1 f_p1 p1_laws f_p1_laws p1_laws_behind c_p1_laws_behind b_p1_laws_behind p1_laws_code c_p1_laws_code b_p1_laws_code p1_laws_stack c_p1_laws_stack y_p1_laws_stack p1_once c_p1_once b_p1_once)
theorem zm_t_leastOpening {p0 : Nat} {f_p0 : List Value} {p0_bow : Nat} {f_p0_bow : List Value} {p0_bow_ends : Nat} {c_p0_bow_ends : ClassId} {b_p0_bow_ends : Nat → Int32} {p0_bow_tight : Nat} {c_p0_bow_tight : ClassId} {b_p0_bow_tight : Nat → Int32} {p1 : Nat} {f_p1 : List Value} {p1_laws : Nat} {f_p1_laws : List Value} {p1_laws_behind : Nat} {c_p1_laws_behind : ClassId} {b_p1_laws_behind : Nat → Int32} {p1_laws_code : Nat} {c_p1_laws_code : ClassId} {b_p1_laws_code : Nat → Int32} {p1_laws_stack : Nat} {c_p1_laws_stack : ClassId} {b_p1_laws_stack : Nat → Int32} {p1_once : Nat} {c_p1_once : ClassId} {b_p1_once : Nat → Int32} : ∀ (r : Int32), ∀ X Y : va_W → Prop, (∀ w, X w → Y w) → zG_t_leastOpening p0 f_p0 p0_bow f_p0_bow p0_bow_ends c_p0_bow_ends b_p0_bow_ends p0_bow_tight c_p0_bow_tight b_p0_bow_tight p1 f_p1 p1_laws f_p1_laws p1_laws_behind c_p1_laws_behind b_p1_laws_behind p1_laws_code c_p1_laws_code b_p1_laws_code p1_laws_stack c_p1_laws_stack b_p1_laws_stack p1_once c_p1_once b_p1_once r X → zG_t_leastOpening p0 f_p0 p0_bow f_p0_bow p0_bow_ends c_p0_bow_ends b_p0_bow_ends p0_bow_tight c_p0_bow_tight b_p0_bow_tight p1 f_p1 p1_laws f_p1_laws p1_laws_behind c_p1_laws_behind b_p1_laws_behind p1_laws_code c_p1_laws_code b_p1_laws_code p1_laws_stack c_p1_laws_stack b_p1_laws_stack p1_once c_p1_once b_p1_once r Y := fun r X Y h h1 => by obtain ⟨x0, x1, x2, x3, x4, x5, x6, x7, x8, x9, hx⟩ := h1; exact ⟨x0, x1, x2, x3, x4, x5, x6, x7, x8, x9, h _ hx⟩
set_option maxHeartbeats 4000000 in
set_option maxRecDepth 100000 in
theorem t_leastOpening (l : Launch) (dC : Nat → ClassId) (dI : Nat → Nat → Nat) (sz : Nat) (p0 : Nat) (f_p0 : List Value) (p0_bow : Nat) (f_p0_bow : List Value) (p0_bow_ends : Nat) (c_p0_bow_ends : ClassId) (b_p0_bow_ends : Nat → Int32) (p0_bow_tight : Nat) (c_p0_bow_tight : ClassId) (b_p0_bow_tight : Nat → Int32) (p1 : Nat) (f_p1 : List Value) (p1_laws : Nat) (f_p1_laws : List Value) (p1_laws_behind : Nat) (c_p1_laws_behind : ClassId) (b_p1_laws_behind : Nat → Int32) (p1_laws_code : Nat) (c_p1_laws_code : ClassId) (b_p1_laws_code : Nat → Int32) (p1_laws_stack : Nat) (c_p1_laws_stack : ClassId) (b_p1_laws_stack : Nat → Int32) (p1_once : Nat) (c_p1_once : ClassId) (b_p1_once : Nat → Int32) (ho_p0 : OKX7 f_p0) (fr_p0_0 : q_rf f_p0 0 p0_bow) (ho_p0_bow : OKX0 f_p0_bow) (fr_p0_bow_0 : q_rf f_p0_bow 0 p0_bow_tight) (fr_p0_bow_1 : q_rf f_p0_bow 1 p0_bow_ends) (ho_p1 : OKX5 f_p1) (fr_p1_12 : q_rf f_p1 12 p1_laws) (fr_p1_13 : q_rf f_p1 13 p1_once) (ho_p1_laws : OKX3 f_p1_laws) (fr_p1_laws_0 : q_rf f_p1_laws 0 p1_laws_code) (fr_p1_laws_1 : q_rf f_p1_laws 1 p1_laws_behind) (fr_p1_laws_2 : q_rf f_p1_laws 2 p1_laws_stack) (hr_p1_laws_behind : q_rg 6 (0) 600 b_p1_laws_behind) (hr_p1_once : q_rg 2 (0) 999 b_p1_once) : Met l yX7_leastOpeningPull zw_t_leastOpening ({ frames := 5, cells := 0, slots := 0, locals := 121 }) (va_Pc [.ref p0, .ref p1] (q_pre (dC, dI) (zW_t_leastOpening p0 f_p0 p0_bow f_p0_bow p0_bow_ends c_p0_bow_ends b_p0_bow_ends p0_bow_tight c_p0_bow_tight b_p0_bow_tight p1 f_p1 p1_laws f_p1_laws p1_laws_behind c_p1_laws_behind b_p1_laws_behind p1_laws_code c_p1_laws_code b_p1_laws_code p1_laws_stack c_p1_laws_stack b_p1_laws_stack p1_once c_p1_once b_p1_once) (zT_t_leastOpening c_p0_bow_ends c_p0_bow_tight c_p1_laws_behind c_p1_laws_code c_p1_laws_stack c_p1_once) q_E0 sz)) (q_Qi (dC, dI) (zG_t_leastOpening p0 f_p0 p0_bow f_p0_bow p0_bow_ends c_p0_bow_ends b_p0_bow_ends p0_bow_tight c_p0_bow_tight b_p0_bow_tight p1 f_p1 p1_laws f_p1_laws p1_laws_behind c_p1_laws_behind b_p1_laws_behind p1_laws_code c_p1_laws_code b_p1_laws_code p1_laws_stack c_p1_laws_stack b_p1_laws_stack p1_once c_p1_once b_p1_once) (zA_t_leastOpening p0 p0_bow p0_bow_ends p0_bow_tight p1 p1_laws p1_laws_behind p1_laws_code p1_laws_stack p1_once) (va_A (zW_t_leastOpening p0 f_p0 p0_bow f_p0_bow p0_bow_ends c_p0_bow_ends b_p0_bow_ends p0_bow_tight c_p0_bow_tight b_p0_bow_tight p1 f_p1 p1_laws f_p1_laws p1_laws_behind c_p1_laws_behind b_p1_laws_behind p1_laws_code c_p1_laws_code b_p1_laws_code p1_laws_stack c_p1_laws_stack b_p1_laws_stack p1_once c_p1_once b_p1_once) sz)) 0 0 (va_A (zW_t_leastOpening p0 f_p0 p0_bow f_p0_bow p0_bow_ends c_p0_bow_ends b_p0_bow_ends p0_bow_tight c_p0_bow_tight b_p0_bow_tight p1 f_p1 p1_laws f_p1_laws p1_laws_behind c_p1_laws_behind b_p1_laws_behind p1_laws_code c_p1_laws_code b_p1_laws_code p1_laws_stack c_p1_laws_stack b_p1_laws_stack p1_once c_p1_once b_p1_once) sz) := by
  refine Met.ofW (cc := cX7_leastOpeningPull) (maxL := 3) (ret := (some .int)) (by decide) rfl ?_
  intro p e s m args below meth c s₁ B hml hv
  obtain ⟨rfl, hsz, hP, hK, hD0, hE⟩ := hv
  have hx := B.exec
  have hb := B.bytes
  have hr := B.returns
  have hts := atoms_spec (ws := zw_t_leastOpening) B.pre
  have hown : s.vm.findClass RX7 = some m.cls := findClass_of_methodNamed B.named
  have hlocks := B.notSynchronized
  subst hsz
  have hD := hD0.self (sz := s.heap.size)
  generalize hAe : va_A (zW_t_leastOpening p0 f_p0 p0_bow f_p0_bow p0_bow_ends c_p0_bow_ends b_p0_bow_ends p0_bow_tight c_p0_bow_tight b_p0_bow_tight p1 f_p1 p1_laws f_p1_laws p1_laws_behind c_p1_laws_behind b_p1_laws_behind p1_laws_code c_p1_laws_code b_p1_laws_code p1_laws_stack c_p1_laws_stack b_p1_laws_stack p1_once c_p1_once b_p1_once) s.heap.size = A at hD hE ⊢
  have hA : ∀ q : Nat, s.heap.size ≤ q → A q := fun q h => by rw [← hAe]; exact Or.inr h
  have hDa : q_DA A (zA_t_leastOpening p0 p0_bow p0_bow_ends p0_bow_tight p1 p1_laws p1_laws_behind p1_laws_code p1_laws_stack p1_once) := q_DA.mk hD za_t_leastOpening
  clear hAe hD0 hD
  have hS : va_S A s.heap s.heap [] := va_S.rf
  have m_0 : (.methodLink RX7 76 yX7_opensBy : Cond) ∈ zw_t_leastOpening := List.mem_append_left _ (List.mem_of_getElem? (i := 1) rfl)
  have k_0 := hts _ m_0
  have m_1 : (.instanceMethod yX7_opensBy : Cond) ∈ zw_t_leastOpening := List.mem_append_left _ (List.mem_of_getElem? (i := 2) rfl)
  have k_1 := hts _ m_1
  have m_2 : (.selects RX7 yX7_opensBy yX7_opensBy : Cond) ∈ zw_t_leastOpening := List.mem_append_left _ (List.mem_of_getElem? (i := 3) rfl)
  have k_2 := hts _ m_2
  have m_3 : (.initialized RX7 : Cond) ∈ zw_t_leastOpening := List.mem_append_left _ (List.mem_of_getElem? (i := 4) rfl)
  have k_3 := hts _ m_3
  have g_t_opensBy : ∀ w ∈ zw_t_opensBy, w ∈ zw_t_leastOpening := fun w h => List.mem_append_right _ (List.mem_append_left _ h)
  have lt_m1 : ((-1) : Int32).toInt = -1 := by decide
  have lt_0 : (0 : Int32).toInt = 0 := by decide
  have lt_1 : (1 : Int32).toInt = 1 := by decide
  have lt_10 : (10 : Int32).toInt = 10 := by decide
  have lt_990 : (990 : Int32).toInt = 990 := by decide
  have hl := lv_entry ([.ref p0, .ref p1]) (n := 3) (Nat.le_of_ble_eq_true rfl)
  rw [lg_entry_eq]
  generalize (lg_sl ([.ref p0, .ref p1]) ++ List.replicate (3 - (lg_sl ([.ref p0, .ref p1])).length) Slot.unset).toArray = ls at hl ⊢
  have hl : lv_has ls 3 [(0, .ref p0), (1, .ref p1)] := hl
  refine lv_iconst (v := 0) hx hb dX7_leastOpeningPull_0 (by decide) (lv_istore_n (lv' := [(2, .int 0), (0, .ref p0), (1, .ref p1)]) hx hb dX7_leastOpeningPull_1 rfl hl (by decide) rfl (fun ls hl => ?_))
  have key2 : ∀ (fu2 : Nat) (pp : Int32) (fz_p0 : List Value) (fz_p0_bow : List Value) (bz_p0_bow_ends : Nat → Int32) (bz_p0_bow_tight : Nat → Int32) (bz_p1_laws_stack : Nat → Int32) (H : Heap) (locs : List Loc) (ls : Array Slot) (hfu2 : 1000 - pp.toInt ≤ (fu2 : Int)) (tpp : (0) ≤ pp.toInt ∧ pp.toInt ≤ 1000) (ho_fz_p0 : OKX7 fz_p0) (hf_fz_p0 : q_fr [5] f_p0 fz_p0) (fr_fz_p0_0 : q_rf fz_p0 0 p0_bow) (ho_fz_p0_bow : OKX0 fz_p0_bow) (hf_fz_p0_bow : q_fr [3, 4, 5, 6, 7, 13, 14] f_p0_bow fz_p0_bow) (fr_fz_p0_bow_0 : q_rf fz_p0_bow 0 p0_bow_tight) (fr_fz_p0_bow_1 : q_rf fz_p0_bow 1 p0_bow_ends), va_P (dC, dI) vwCl (zW_t_leastOpening p0 fz_p0 p0_bow fz_p0_bow p0_bow_ends c_p0_bow_ends bz_p0_bow_ends p0_bow_tight c_p0_bow_tight bz_p0_bow_tight p1 f_p1 p1_laws f_p1_laws p1_laws_behind c_p1_laws_behind b_p1_laws_behind p1_laws_code c_p1_laws_code b_p1_laws_code p1_laws_stack c_p1_laws_stack bz_p1_laws_stack p1_once c_p1_once b_p1_once) H → va_S A s.heap H locs → lv_has ls 3 [(2, .int pp), (0, .ref p0), (1, .ref p1)] → W p l e (headSpec zw_t_leastOpening { frames := 5, cells := 0, slots := 0, locals := 121 }).room s m ([.ref p0, .ref p1] : List Value).toArray below meth c H locs 0 0 (MQ below (q_Qi (dC, dI) (zG_t_leastOpening p0 f_p0 p0_bow f_p0_bow p0_bow_ends c_p0_bow_ends b_p0_bow_ends p0_bow_tight c_p0_bow_tight b_p0_bow_tight p1 f_p1 p1_laws f_p1_laws p1_laws_behind c_p1_laws_behind b_p1_laws_behind p1_laws_code c_p1_laws_code b_p1_laws_code p1_laws_stack c_p1_laws_stack b_p1_laws_stack p1_once c_p1_once b_p1_once) (zA_t_leastOpening p0 p0_bow p0_bow_ends p0_bow_tight p1 p1_laws p1_laws_behind p1_laws_code p1_laws_stack p1_once) A) ([.ref p0, .ref p1] : List Value).toArray s 0 0 A) (F0 m 2 ls []) := by
    intro fu2
    induction fu2 using Nat.strongRecOn with
    | ind fu2 ih2 =>
      intro pp fz_p0 fz_p0_bow bz_p0_bow_ends bz_p0_bow_tight bz_p1_laws_stack H1 lo1 ls hfu2 tpp ho_fz_p0 hf_fz_p0 fr_fz_p0_0 ho_fz_p0_bow hf_fz_p0_bow fr_fz_p0_bow_0 fr_fz_p0_bow_1 hP1 hS1 hl
      refine lv_iload_n hx hb dX7_leastOpeningPull_2 rfl (lv_at hl 0 rfl) (lv_sipush (v := 990) hx hb dX7_leastOpeningPull_3 (by decide) ?_)
      refine lv_icmp_gt (tgt := 26) hx hb dX7_leastOpeningPull_6 (by decide) (fun c_2 => ?_) (fun c_2 => ?_)
      · have tc_2 := q_gt c_2
        refine lv_iconst (v := (-1)) hx hb dX7_leastOpeningPull_26 (by decide) ?_
        exact q_iret hx hb hr hlocks hS1 dX7_leastOpeningPull_27 ⟨fz_p0, fz_p0_bow, bz_p0_bow_ends, bz_p0_bow_tight, bz_p1_laws_stack, (by omega), ho_fz_p0, hf_fz_p0, ho_fz_p0_bow, hf_fz_p0_bow, hP1, za_t_leastOpening⟩
      · have tc_2 := q_leN c_2
        refine lv_aload_n hx hb dX7_leastOpeningPull_9 rfl (lv_at hl 1 rfl) (lv_aload_n hx hb dX7_leastOpeningPull_10 rfl (lv_at hl 2 rfl) (lv_iload_n hx hb dX7_leastOpeningPull_11 rfl (lv_at hl 0 rfl) ?_))
        refine q_cVi (As := [.ref p1, .int pp]) (rest := []) q_w0 trivial hK hP1 hDa za_t_leastOpening hS1 hA [0, 1, 2, 3, 4, 5, 6, 7, 8, 9] [0, 1, 2, 3, 4, 5] (by decide +kernel) ⟨hx, hb, hml, hown, hts⟩ (t_opensBy l dC dI H1.size p0 fz_p0 p0_bow fz_p0_bow p0_bow_ends c_p0_bow_ends bz_p0_bow_ends p0_bow_tight c_p0_bow_tight bz_p0_bow_tight p1 f_p1 p1_laws f_p1_laws p1_laws_behind c_p1_laws_behind b_p1_laws_behind p1_laws_code c_p1_laws_code b_p1_laws_code p1_laws_stack c_p1_laws_stack bz_p1_laws_stack p1_once c_p1_once b_p1_once pp ho_fz_p0 fr_fz_p0_0 ho_fz_p0_bow fr_fz_p0_bow_0 fr_fz_p0_bow_1 ho_p1 fr_p1_12 fr_p1_13 ho_p1_laws fr_p1_laws_0 fr_p1_laws_1 fr_p1_laws_2 hr_p1_laws_behind hr_p1_once) rfl rfl (cwV 2 hts (p1_gV m_0 m_1 m_2 m_3 g_t_opensBy gz_t_opensBy) rfl rfl rfl (by decide +kernel) ⟨by decide, by decide⟩) (va_recv hK hP1 (ci := 6) (q0 := 0) rfl rfl) zm_t_opensBy rfl hl.1 rfl (Nat.le_of_ble_eq_true rfl) dX7_leastOpeningPull_12 ⟨by decide, by decide⟩ (fun r_3 H4 lo4 hG4 hS4 => ?_)
        obtain ⟨o_5, o_6, o_7, o_8, o_9, z_10, ho_11, hf_12, ho_13, hf_14, hQ4⟩ := hG4
        have hP4 : va_P (dC, dI) vwCl (zW_t_leastOpening p0 o_5 p0_bow o_6 p0_bow_ends c_p0_bow_ends o_7 p0_bow_tight c_p0_bow_tight o_8 p1 f_p1 p1_laws f_p1_laws p1_laws_behind c_p1_laws_behind b_p1_laws_behind p1_laws_code c_p1_laws_code b_p1_laws_code p1_laws_stack c_p1_laws_stack o_9 p1_once c_p1_once b_p1_once) H4 := hQ4
        clear hQ4 hP1 hS1
        rcases z_10 with ⟨rfl, z_10⟩ | ⟨rfl, z_10⟩
        · refine lv_if_eq (tgt := 20) hx hb dX7_leastOpeningPull_15 (by decide) (fun c_15 => absurd c_15 (by decide)) (fun c_15 => ?_)
          refine lv_iload_n hx hb dX7_leastOpeningPull_18 rfl (lv_at hl 0 rfl) ?_
          exact q_iret hx hb hr hlocks hS4 dX7_leastOpeningPull_19 ⟨o_5, o_6, o_7, o_8, o_9, (by omega), ho_11, (hf_fz_p0.tr hf_12 (by decide)), ho_13, (hf_fz_p0_bow.tr hf_14 (by decide)), hP4, za_t_leastOpening⟩
        · refine lv_if_eq (tgt := 20) hx hb dX7_leastOpeningPull_15 (by decide) (fun c_16 => ?_) (fun c_16 => absurd c_16 (by decide))
          obtain ⟨v_17, ev_17⟩ : ∃ y : Int32, y = pp + 10 := ⟨_, rfl⟩
          have tv_17 := q_add ev_17 (by omega) (by omega)
          refine lv_iinc (v := v_17) (lv' := [(2, .int v_17), (0, .ref p0), (1, .ref p1)]) hx hb dX7_leastOpeningPull_20 hl (k := 0) rfl (by rw [ev_17]; rfl) (by decide) rfl (fun ls hl => ?_)
          refine lv_goto (tgt := 2) hx hb dX7_leastOpeningPull_23 (by decide) ?_
          exact ih2 (fu2 - 1) (by omega) v_17 o_5 o_6 o_7 o_8 o_9 _ _ _ (by omega) (by omega) ho_11 (hf_fz_p0.tr hf_12 (by decide)) (hf_12.u (by decide) fr_fz_p0_0) ho_13 (hf_fz_p0_bow.tr hf_14 (by decide)) (hf_14.u (by decide) fr_fz_p0_bow_0) (hf_14.u (by decide) fr_fz_p0_bow_1) hP4 hS4 (lv_sub hl [0, 1, 2] rfl)
  exact key2 1000 0 f_p0 f_p0_bow b_p0_bow_ends b_p0_bow_tight b_p1_laws_stack _ _ _ (by omega) (by omega) ho_p0 q_fr.rf fr_p0_0 ho_p0_bow q_fr.rf fr_p0_bow_0 fr_p0_bow_1 hP hS (lv_sub hl [0, 1, 2] rfl)
def zo_t_endsBehind : List Cond := [.code yX7_endsBehind cX7_endsBehind 4 (some .int), .methodLink RX7 66 yX7_begin, .instanceMethod yX7_begin, .selects RX7 yX7_begin yX7_begin, .initialized RX7, .fieldLink RX7 12 "BowWalk$Trial" "bow" "LBowWalk$Bow;", .fieldLink RX7 84 "BowWalk$Bow" "ends" "[I", .fieldLink RX7 73 "BowWalk$Bow" "left" "I", .methodLink RX7 69 yX7_advance, .instanceMethod yX7_advance, .selects RX7 yX7_advance yX7_advance]
def zw_t_endsBehind : List Cond := zo_t_endsBehind ++ (zw_t_tbegin ++ (zw_t_advance ++ (wsX70 ++ (wsX00 ++ []))))
theorem gz_t_endsBehind : zw_t_endsBehind.all goodWord = true := p1_ga (by decide +kernel) (p1_ga gz_t_tbegin (p1_ga gz_t_advance (p1_ga gk_X7 (p1_ga gk_X0 p1_g0))))
theorem iz_t_endsBehind : ∀ w ∈ zw_t_endsBehind, w ∈ lw_tbl := p1_ia (p1_all [964, 839, 841, 32, 113, 414, 353, 358, 844, 846, 33] (by decide +kernel)) (p1_ia iz_t_tbegin (p1_ia iz_t_advance (p1_ia ik_X7 (p1_ia ik_X0 p1_i0))))
def zW_t_endsBehind (p0 : Nat) (f_p0 : List Value) (p0_bow : Nat) (f_p0_bow : List Value) (p0_bow_ends : Nat) (c_p0_bow_ends : ClassId) (b_p0_bow_ends : Nat → Int32) (p0_bow_tight : Nat) (c_p0_bow_tight : ClassId) (b_p0_bow_tight : Nat → Int32) (p0_strikes : Nat) (c_p0_strikes : ClassId) (b_p0_strikes : Nat → Int32) (p0_swings : Nat) (c_p0_swings : ClassId) (b_p0_swings : Nat → Int32) (p1 : Nat) (f_p1 : List Value) (p1_laws : Nat) (f_p1_laws : List Value) (p1_laws_behind : Nat) (c_p1_laws_behind : ClassId) (b_p1_laws_behind : Nat → Int32) (p1_laws_code : Nat) (c_p1_laws_code : ClassId) (b_p1_laws_code : Nat → Int32) (p1_laws_stack : Nat) (c_p1_laws_stack : ClassId) (b_p1_laws_stack : Nat → Int32) (p1_once : Nat) (c_p1_once : ClassId) (b_p1_once : Nat → Int32) : va_W := [(p0, .inr (6, f_p0)), (p0_bow, .inr (0, f_p0_bow)), (p0_bow_ends, .inl (c_p0_bow_ends, 2, .inl b_p0_bow_ends)), (p0_bow_tight, .inl (c_p0_bow_tight, 12, .inl b_p0_bow_tight)), (p0_strikes, .inl (c_p0_strikes, 8, .inl b_p0_strikes)), (p0_swings, .inl (c_p0_swings, 8, .inl b_p0_swings)), (p1, .inr (5, f_p1)), (p1_laws, .inr (3, f_p1_laws)), (p1_laws_behind, .inl (c_p1_laws_behind, 6, .inl b_p1_laws_behind)), (p1_laws_code, .inl (c_p1_laws_code, 600, .inl b_p1_laws_code)), (p1_laws_stack, .inl (c_p1_laws_stack, 60, .inl b_p1_laws_stack)), (p1_once, .inl (c_p1_once, 2, .inl b_p1_once))]
def zT_t_endsBehind (c_p0_bow_ends : ClassId) (c_p0_bow_tight : ClassId) (c_p0_strikes : ClassId) (c_p0_swings : ClassId) (c_p1_laws_behind : ClassId) (c_p1_laws_code : ClassId) (c_p1_laws_stack : ClassId) (c_p1_once : ClassId) : List (ClassId × FieldType) := [(c_p0_bow_ends, .int), (c_p0_bow_tight, .int), (c_p0_strikes, .int), (c_p0_swings, .int), (c_p1_laws_behind, .int), (c_p1_laws_code, .int), (c_p1_laws_stack, .int), (c_p1_once, .int)]
def zA_t_endsBehind (p0 : Nat) (p0_bow : Nat) (p0_bow_ends : Nat) (p0_bow_tight : Nat) (p0_strikes : Nat) (p0_swings : Nat) (p1 : Nat) (p1_laws : Nat) (p1_laws_behind : Nat) (p1_laws_code : Nat) (p1_laws_stack : Nat) (p1_once : Nat) : List Nat := [p0, p0_bow, p0_bow_ends, p0_bow_tight, p0_strikes, p0_swings, p1, p1_laws, p1_laws_behind, p1_laws_code, p1_laws_stack, p1_once]
theorem za_t_endsBehind {p0 : Nat} {f_p0 : List Value} {p0_bow : Nat} {f_p0_bow : List Value} {p0_bow_ends : Nat} {c_p0_bow_ends : ClassId} {b_p0_bow_ends : Nat → Int32} {p0_bow_tight : Nat} {c_p0_bow_tight : ClassId} {b_p0_bow_tight : Nat → Int32} {p0_strikes : Nat} {c_p0_strikes : ClassId} {b_p0_strikes : Nat → Int32} {p0_swings : Nat} {c_p0_swings : ClassId} {b_p0_swings : Nat → Int32} {p1 : Nat} {f_p1 : List Value} {p1_laws : Nat} {f_p1_laws : List Value} {p1_laws_behind : Nat} {c_p1_laws_behind : ClassId} {b_p1_laws_behind : Nat → Int32} {p1_laws_code : Nat} {c_p1_laws_code : ClassId} {b_p1_laws_code : Nat → Int32} {p1_laws_stack : Nat} {c_p1_laws_stack : ClassId} {b_p1_laws_stack : Nat → Int32} {p1_once : Nat} {c_p1_once : ClassId} {b_p1_once : Nat → Int32} : (zW_t_endsBehind p0 f_p0 p0_bow f_p0_bow p0_bow_ends c_p0_bow_ends b_p0_bow_ends p0_bow_tight c_p0_bow_tight b_p0_bow_tight p0_strikes c_p0_strikes b_p0_strikes p0_swings c_p0_swings b_p0_swings p1 f_p1 p1_laws f_p1_laws p1_laws_behind c_p1_laws_behind b_p1_laws_behind p1_laws_code c_p1_laws_code b_p1_laws_code p1_laws_stack c_p1_laws_stack b_p1_laws_stack p1_once c_p1_once b_p1_once).map Prod.fst = (zA_t_endsBehind p0 p0_bow p0_bow_ends p0_bow_tight p0_strikes p0_swings p1 p1_laws p1_laws_behind p1_laws_code p1_laws_stack p1_once) := rfl
def zG_t_endsBehind (p0 : Nat) (f_p0 : List Value) (p0_bow : Nat) (f_p0_bow : List Value) (p0_bow_ends : Nat) (c_p0_bow_ends : ClassId) (b_p0_bow_ends : Nat → Int32) (p0_bow_tight : Nat) (c_p0_bow_tight : ClassId) (b_p0_bow_tight : Nat → Int32) (p0_strikes : Nat) (c_p0_strikes : ClassId) (b_p0_strikes : Nat → Int32) (p0_swings : Nat) (c_p0_swings : ClassId) (b_p0_swings : Nat → Int32) (p1 : Nat) (f_p1 : List Value) (p1_laws : Nat) (f_p1_laws : List Value) (p1_laws_behind : Nat) (c_p1_laws_behind : ClassId) (b_p1_laws_behind : Nat → Int32) (p1_laws_code : Nat) (c_p1_laws_code : ClassId) (b_p1_laws_code : Nat → Int32) (p1_laws_stack : Nat) (c_p1_laws_stack : ClassId) (b_p1_laws_stack : Nat → Int32) (p1_once : Nat) (c_p1_once : ClassId) (b_p1_once : Nat → Int32) (a2 : Int32) (r : Int32) (X : va_W → Prop) : Prop := ∃ (y_p0 : List Value) (y_p0_bow : List Value) (y_p0_bow_ends : Nat → Int32) (y_p0_bow_tight : Nat → Int32) (y_p1_laws_stack : Nat → Int32), OKX7 y_p0 ∧ q_fr [5] f_p0 y_p0 ∧ OKX0 y_p0_bow ∧ q_fr [3, 4, 5, 6, 7, 13, 14] f_p0_bow y_p0_bow ∧ X (zW_t_endsBehind p0 y_p0 p0_bow y_p0_bow p0_bow_ends c_p0_bow_ends y_p0_bow_ends p0_bow_tight c_p0_bow_tight y_p0_bow_tight p0_strikes c_p0_strikes b_p0_strikes p0_swings c_p0_swings b_p0_swings p1 f_p1 p1_laws f_p1_laws p1_laws_behind c_p1_laws_behind b_p1_laws_behind p1_laws_code c_p1_laws_code b_p1_laws_code p1_laws_stack c_p1_laws_stack y_p1_laws_stack p1_once c_p1_once b_p1_once)
theorem zm_t_endsBehind {p0 : Nat} {f_p0 : List Value} {p0_bow : Nat} {f_p0_bow : List Value} {p0_bow_ends : Nat} {c_p0_bow_ends : ClassId} {b_p0_bow_ends : Nat → Int32} {p0_bow_tight : Nat} {c_p0_bow_tight : ClassId} {b_p0_bow_tight : Nat → Int32} {p0_strikes : Nat} {c_p0_strikes : ClassId} {b_p0_strikes : Nat → Int32} {p0_swings : Nat} {c_p0_swings : ClassId} {b_p0_swings : Nat → Int32} {p1 : Nat} {f_p1 : List Value} {p1_laws : Nat} {f_p1_laws : List Value} {p1_laws_behind : Nat} {c_p1_laws_behind : ClassId} {b_p1_laws_behind : Nat → Int32} {p1_laws_code : Nat} {c_p1_laws_code : ClassId} {b_p1_laws_code : Nat → Int32} {p1_laws_stack : Nat} {c_p1_laws_stack : ClassId} {b_p1_laws_stack : Nat → Int32} {p1_once : Nat} {c_p1_once : ClassId} {b_p1_once : Nat → Int32} {a2 : Int32} : ∀ (r : Int32), ∀ X Y : va_W → Prop, (∀ w, X w → Y w) → zG_t_endsBehind p0 f_p0 p0_bow f_p0_bow p0_bow_ends c_p0_bow_ends b_p0_bow_ends p0_bow_tight c_p0_bow_tight b_p0_bow_tight p0_strikes c_p0_strikes b_p0_strikes p0_swings c_p0_swings b_p0_swings p1 f_p1 p1_laws f_p1_laws p1_laws_behind c_p1_laws_behind b_p1_laws_behind p1_laws_code c_p1_laws_code b_p1_laws_code p1_laws_stack c_p1_laws_stack b_p1_laws_stack p1_once c_p1_once b_p1_once a2 r X → zG_t_endsBehind p0 f_p0 p0_bow f_p0_bow p0_bow_ends c_p0_bow_ends b_p0_bow_ends p0_bow_tight c_p0_bow_tight b_p0_bow_tight p0_strikes c_p0_strikes b_p0_strikes p0_swings c_p0_swings b_p0_swings p1 f_p1 p1_laws f_p1_laws p1_laws_behind c_p1_laws_behind b_p1_laws_behind p1_laws_code c_p1_laws_code b_p1_laws_code p1_laws_stack c_p1_laws_stack b_p1_laws_stack p1_once c_p1_once b_p1_once a2 r Y := fun r X Y h h1 => by obtain ⟨x0, x1, x2, x3, x4, x5, x6, x7, x8, hx⟩ := h1; exact ⟨x0, x1, x2, x3, x4, x5, x6, x7, x8, h _ hx⟩
set_option maxHeartbeats 4000000 in
set_option maxRecDepth 100000 in
theorem t_endsBehind (l : Launch) (dC : Nat → ClassId) (dI : Nat → Nat → Nat) (sz : Nat) (p0 : Nat) (f_p0 : List Value) (p0_bow : Nat) (f_p0_bow : List Value) (p0_bow_ends : Nat) (c_p0_bow_ends : ClassId) (b_p0_bow_ends : Nat → Int32) (p0_bow_tight : Nat) (c_p0_bow_tight : ClassId) (b_p0_bow_tight : Nat → Int32) (p0_strikes : Nat) (c_p0_strikes : ClassId) (b_p0_strikes : Nat → Int32) (p0_swings : Nat) (c_p0_swings : ClassId) (b_p0_swings : Nat → Int32) (p1 : Nat) (f_p1 : List Value) (p1_laws : Nat) (f_p1_laws : List Value) (p1_laws_behind : Nat) (c_p1_laws_behind : ClassId) (b_p1_laws_behind : Nat → Int32) (p1_laws_code : Nat) (c_p1_laws_code : ClassId) (b_p1_laws_code : Nat → Int32) (p1_laws_stack : Nat) (c_p1_laws_stack : ClassId) (b_p1_laws_stack : Nat → Int32) (p1_once : Nat) (c_p1_once : ClassId) (b_p1_once : Nat → Int32) (a2 : Int32) (ho_p0 : OKX7 f_p0) (fr_p0_0 : q_rf f_p0 0 p0_bow) (fr_p0_1 : q_rf f_p0 1 p0_strikes) (fr_p0_2 : q_rf f_p0 2 p0_swings) (ho_p0_bow : OKX0 f_p0_bow) (fr_p0_bow_0 : q_rf f_p0_bow 0 p0_bow_tight) (fr_p0_bow_1 : q_rf f_p0_bow 1 p0_bow_ends) (hr_p0_strikes : q_rg 8 (0) 99 b_p0_strikes) (hr_p0_swings : q_rg 8 (0) 99 b_p0_swings) (ho_p1 : OKX5 f_p1) (fr_p1_12 : q_rf f_p1 12 p1_laws) (fr_p1_13 : q_rf f_p1 13 p1_once) (ho_p1_laws : OKX3 f_p1_laws) (fr_p1_laws_0 : q_rf f_p1_laws 0 p1_laws_code) (fr_p1_laws_1 : q_rf f_p1_laws 1 p1_laws_behind) (fr_p1_laws_2 : q_rf f_p1_laws 2 p1_laws_stack) (hr_p1_laws_behind : q_rg 6 (0) 600 b_p1_laws_behind) (hr_p1_once : q_rg 2 (0) 999 b_p1_once) (ta2 : (0) ≤ a2.toInt ∧ a2.toInt ≤ 500) : Met l yX7_endsBehind zw_t_endsBehind ({ frames := 5, cells := 0, slots := 0, locals := 122 }) (va_Pc [.ref p0, .ref p1, .int a2] (q_pre (dC, dI) (zW_t_endsBehind p0 f_p0 p0_bow f_p0_bow p0_bow_ends c_p0_bow_ends b_p0_bow_ends p0_bow_tight c_p0_bow_tight b_p0_bow_tight p0_strikes c_p0_strikes b_p0_strikes p0_swings c_p0_swings b_p0_swings p1 f_p1 p1_laws f_p1_laws p1_laws_behind c_p1_laws_behind b_p1_laws_behind p1_laws_code c_p1_laws_code b_p1_laws_code p1_laws_stack c_p1_laws_stack b_p1_laws_stack p1_once c_p1_once b_p1_once) (zT_t_endsBehind c_p0_bow_ends c_p0_bow_tight c_p0_strikes c_p0_swings c_p1_laws_behind c_p1_laws_code c_p1_laws_stack c_p1_once) q_E0 sz)) (q_Qi (dC, dI) (zG_t_endsBehind p0 f_p0 p0_bow f_p0_bow p0_bow_ends c_p0_bow_ends b_p0_bow_ends p0_bow_tight c_p0_bow_tight b_p0_bow_tight p0_strikes c_p0_strikes b_p0_strikes p0_swings c_p0_swings b_p0_swings p1 f_p1 p1_laws f_p1_laws p1_laws_behind c_p1_laws_behind b_p1_laws_behind p1_laws_code c_p1_laws_code b_p1_laws_code p1_laws_stack c_p1_laws_stack b_p1_laws_stack p1_once c_p1_once b_p1_once a2) (zA_t_endsBehind p0 p0_bow p0_bow_ends p0_bow_tight p0_strikes p0_swings p1 p1_laws p1_laws_behind p1_laws_code p1_laws_stack p1_once) (va_A (zW_t_endsBehind p0 f_p0 p0_bow f_p0_bow p0_bow_ends c_p0_bow_ends b_p0_bow_ends p0_bow_tight c_p0_bow_tight b_p0_bow_tight p0_strikes c_p0_strikes b_p0_strikes p0_swings c_p0_swings b_p0_swings p1 f_p1 p1_laws f_p1_laws p1_laws_behind c_p1_laws_behind b_p1_laws_behind p1_laws_code c_p1_laws_code b_p1_laws_code p1_laws_stack c_p1_laws_stack b_p1_laws_stack p1_once c_p1_once b_p1_once) sz)) 0 0 (va_A (zW_t_endsBehind p0 f_p0 p0_bow f_p0_bow p0_bow_ends c_p0_bow_ends b_p0_bow_ends p0_bow_tight c_p0_bow_tight b_p0_bow_tight p0_strikes c_p0_strikes b_p0_strikes p0_swings c_p0_swings b_p0_swings p1 f_p1 p1_laws f_p1_laws p1_laws_behind c_p1_laws_behind b_p1_laws_behind p1_laws_code c_p1_laws_code b_p1_laws_code p1_laws_stack c_p1_laws_stack b_p1_laws_stack p1_once c_p1_once b_p1_once) sz) := by
  refine Met.ofW (cc := cX7_endsBehind) (maxL := 4) (ret := (some .int)) (by decide) rfl ?_
  intro p e s m args below meth c s₁ B hml hv
  obtain ⟨rfl, hsz, hP, hK, hD0, hE⟩ := hv
  have hx := B.exec
  have hb := B.bytes
  have hr := B.returns
  have hts := atoms_spec (ws := zw_t_endsBehind) B.pre
  have hown : s.vm.findClass RX7 = some m.cls := findClass_of_methodNamed B.named
  have hlocks := B.notSynchronized
  subst hsz
  have hD := hD0.self (sz := s.heap.size)
  generalize hAe : va_A (zW_t_endsBehind p0 f_p0 p0_bow f_p0_bow p0_bow_ends c_p0_bow_ends b_p0_bow_ends p0_bow_tight c_p0_bow_tight b_p0_bow_tight p0_strikes c_p0_strikes b_p0_strikes p0_swings c_p0_swings b_p0_swings p1 f_p1 p1_laws f_p1_laws p1_laws_behind c_p1_laws_behind b_p1_laws_behind p1_laws_code c_p1_laws_code b_p1_laws_code p1_laws_stack c_p1_laws_stack b_p1_laws_stack p1_once c_p1_once b_p1_once) s.heap.size = A at hD hE ⊢
  have hA : ∀ q : Nat, s.heap.size ≤ q → A q := fun q h => by rw [← hAe]; exact Or.inr h
  have hDa : q_DA A (zA_t_endsBehind p0 p0_bow p0_bow_ends p0_bow_tight p0_strikes p0_swings p1 p1_laws p1_laws_behind p1_laws_code p1_laws_stack p1_once) := q_DA.mk hD za_t_endsBehind
  clear hAe hD0 hD
  have hS : va_S A s.heap s.heap [] := va_S.rf
  have m_0 : (.methodLink RX7 66 yX7_begin : Cond) ∈ zw_t_endsBehind := List.mem_append_left _ (List.mem_of_getElem? (i := 1) rfl)
  have k_0 := hts _ m_0
  have m_1 : (.instanceMethod yX7_begin : Cond) ∈ zw_t_endsBehind := List.mem_append_left _ (List.mem_of_getElem? (i := 2) rfl)
  have k_1 := hts _ m_1
  have m_2 : (.selects RX7 yX7_begin yX7_begin : Cond) ∈ zw_t_endsBehind := List.mem_append_left _ (List.mem_of_getElem? (i := 3) rfl)
  have k_2 := hts _ m_2
  have m_3 : (.initialized RX7 : Cond) ∈ zw_t_endsBehind := List.mem_append_left _ (List.mem_of_getElem? (i := 4) rfl)
  have k_3 := hts _ m_3
  have m_4 : (.fieldLink RX7 12 "BowWalk$Trial" "bow" "LBowWalk$Bow;" : Cond) ∈ zw_t_endsBehind := List.mem_append_left _ (List.mem_of_getElem? (i := 5) rfl)
  have k_4 := hts _ m_4
  have m_5 : (.fieldLink RX7 84 "BowWalk$Bow" "ends" "[I" : Cond) ∈ zw_t_endsBehind := List.mem_append_left _ (List.mem_of_getElem? (i := 6) rfl)
  have k_5 := hts _ m_5
  have m_6 : (.fieldLink RX7 73 "BowWalk$Bow" "left" "I" : Cond) ∈ zw_t_endsBehind := List.mem_append_left _ (List.mem_of_getElem? (i := 7) rfl)
  have k_6 := hts _ m_6
  have m_7 : (.methodLink RX7 69 yX7_advance : Cond) ∈ zw_t_endsBehind := List.mem_append_left _ (List.mem_of_getElem? (i := 8) rfl)
  have k_7 := hts _ m_7
  have m_8 : (.instanceMethod yX7_advance : Cond) ∈ zw_t_endsBehind := List.mem_append_left _ (List.mem_of_getElem? (i := 9) rfl)
  have k_8 := hts _ m_8
  have m_9 : (.selects RX7 yX7_advance yX7_advance : Cond) ∈ zw_t_endsBehind := List.mem_append_left _ (List.mem_of_getElem? (i := 10) rfl)
  have k_9 := hts _ m_9
  have g_t_tbegin : ∀ w ∈ zw_t_tbegin, w ∈ zw_t_endsBehind := fun w h => List.mem_append_right _ (List.mem_append_left _ h)
  have g_t_advance : ∀ w ∈ zw_t_advance, w ∈ zw_t_endsBehind := fun w h => List.mem_append_right _ (List.mem_append_right _ (List.mem_append_left _ h))
  have i_X7 : ∀ w ∈ u_ws RX7 TX7 6, w ∈ zw_t_endsBehind := fun w h => List.mem_append_right _ (List.mem_append_right _ (List.mem_append_right _ (List.mem_append_left _ h)))
  have i_X0 : ∀ w ∈ u_ws RX0 TX0 15, w ∈ zw_t_endsBehind := fun w h => List.mem_append_right _ (List.mem_append_right _ (List.mem_append_right _ (List.mem_append_right _ (List.mem_append_left _ h))))
  have lt_0 : (0 : Int32).toInt = 0 := by decide
  have lt_1 : (1 : Int32).toInt = 1 := by decide
  have hl := lv_entry ([.ref p0, .ref p1, .int a2]) (n := 4) (Nat.le_of_ble_eq_true rfl)
  rw [lg_entry_eq]
  generalize (lg_sl ([.ref p0, .ref p1, .int a2]) ++ List.replicate (4 - (lg_sl ([.ref p0, .ref p1, .int a2])).length) Slot.unset).toArray = ls at hl ⊢
  have hl : lv_has ls 4 [(0, .ref p0), (1, .ref p1), (2, .int a2)] := hl
  refine lv_aload_n hx hb dX7_endsBehind_0 rfl (lv_at hl 0 rfl) (lv_aload_n hx hb dX7_endsBehind_1 rfl (lv_at hl 1 rfl) ?_)
  refine q_cVv (As := [.ref p1]) (rest := []) q_w0 trivial hK hP hDa za_t_endsBehind hS hA [0, 1, 2, 3, 6, 11] [0, 1, 7] (by decide +kernel) ⟨hx, hb, hml, hown, hts⟩ (t_tbegin l dC dI s.heap.size p0 f_p0 p0_bow f_p0_bow p0_bow_ends c_p0_bow_ends b_p0_bow_ends p0_bow_tight c_p0_bow_tight b_p0_bow_tight p1 f_p1 p1_once c_p1_once b_p1_once ho_p0 fr_p0_0 ho_p0_bow fr_p0_bow_0 fr_p0_bow_1 ho_p1 fr_p1_13 hr_p1_once) rfl rfl (cwV 1 hts (p1_gV m_0 m_1 m_2 m_3 g_t_tbegin gz_t_tbegin) rfl rfl rfl (by decide +kernel) ⟨by decide, by decide⟩) (va_recv hK hP (ci := 6) (q0 := 0) rfl rfl) zm_t_tbegin rfl hl.1 rfl (Nat.le_of_ble_eq_true rfl) dX7_endsBehind_2 ⟨by decide, by decide⟩ (fun H2 lo2 hG2 hS2 => ?_)
  obtain ⟨o_3, o_4, o_5, o_6, ho_7, hf_8, ho_9, hf_10, hQ2⟩ := hG2
  have hP2 : va_P (dC, dI) vwCl (zW_t_endsBehind p0 o_3 p0_bow o_4 p0_bow_ends c_p0_bow_ends o_5 p0_bow_tight c_p0_bow_tight o_6 p0_strikes c_p0_strikes b_p0_strikes p0_swings c_p0_swings b_p0_swings p1 f_p1 p1_laws f_p1_laws p1_laws_behind c_p1_laws_behind b_p1_laws_behind p1_laws_code c_p1_laws_code b_p1_laws_code p1_laws_stack c_p1_laws_stack b_p1_laws_stack p1_once c_p1_once b_p1_once) H2 := hQ2
  clear hQ2 hP hS
  refine lv_iconst (v := 0) hx hb dX7_endsBehind_5 (by decide) (lv_istore_n (lv' := [(3, .int 0), (0, .ref p0), (1, .ref p1), (2, .int a2)]) hx hb dX7_endsBehind_6 rfl hl (by decide) rfl (fun ls hl => ?_))
  have key7 : ∀ (fu7 : Nat) (n : Int32) (fz_p0 : List Value) (fz_p0_bow : List Value) (bz_p0_bow_ends : Nat → Int32) (bz_p0_bow_tight : Nat → Int32) (bz_p1_laws_stack : Nat → Int32) (H : Heap) (locs : List Loc) (ls : Array Slot) (hfu7 : 500 - n.toInt ≤ (fu7 : Int)) (tn : (0) ≤ n.toInt ∧ n.toInt ≤ 500) (ho_fz_p0 : OKX7 fz_p0) (hf_fz_p0 : q_fr [5] f_p0 fz_p0) (fr_fz_p0_0 : q_rf fz_p0 0 p0_bow) (fr_fz_p0_1 : q_rf fz_p0 1 p0_strikes) (fr_fz_p0_2 : q_rf fz_p0 2 p0_swings) (ho_fz_p0_bow : OKX0 fz_p0_bow) (hf_fz_p0_bow : q_fr [3, 4, 5, 6, 7, 13, 14] f_p0_bow fz_p0_bow) (fr_fz_p0_bow_0 : q_rf fz_p0_bow 0 p0_bow_tight) (fr_fz_p0_bow_1 : q_rf fz_p0_bow 1 p0_bow_ends), va_P (dC, dI) vwCl (zW_t_endsBehind p0 fz_p0 p0_bow fz_p0_bow p0_bow_ends c_p0_bow_ends bz_p0_bow_ends p0_bow_tight c_p0_bow_tight bz_p0_bow_tight p0_strikes c_p0_strikes b_p0_strikes p0_swings c_p0_swings b_p0_swings p1 f_p1 p1_laws f_p1_laws p1_laws_behind c_p1_laws_behind b_p1_laws_behind p1_laws_code c_p1_laws_code b_p1_laws_code p1_laws_stack c_p1_laws_stack bz_p1_laws_stack p1_once c_p1_once b_p1_once) H → va_S A s.heap H locs → lv_has ls 4 [(3, .int n), (0, .ref p0), (1, .ref p1), (2, .int a2)] → W p l e (headSpec zw_t_endsBehind { frames := 5, cells := 0, slots := 0, locals := 122 }).room s m ([.ref p0, .ref p1, .int a2] : List Value).toArray below meth c H locs 0 0 (MQ below (q_Qi (dC, dI) (zG_t_endsBehind p0 f_p0 p0_bow f_p0_bow p0_bow_ends c_p0_bow_ends b_p0_bow_ends p0_bow_tight c_p0_bow_tight b_p0_bow_tight p0_strikes c_p0_strikes b_p0_strikes p0_swings c_p0_swings b_p0_swings p1 f_p1 p1_laws f_p1_laws p1_laws_behind c_p1_laws_behind b_p1_laws_behind p1_laws_code c_p1_laws_code b_p1_laws_code p1_laws_stack c_p1_laws_stack b_p1_laws_stack p1_once c_p1_once b_p1_once a2) (zA_t_endsBehind p0 p0_bow p0_bow_ends p0_bow_tight p0_strikes p0_swings p1 p1_laws p1_laws_behind p1_laws_code p1_laws_stack p1_once) A) ([.ref p0, .ref p1, .int a2] : List Value).toArray s 0 0 A) (F0 m 7 ls []) := by
    intro fu7
    induction fu7 using Nat.strongRecOn with
    | ind fu7 ih7 =>
      intro n fz_p0 fz_p0_bow bz_p0_bow_ends bz_p0_bow_tight bz_p1_laws_stack H11 lo11 ls hfu7 tn ho_fz_p0 hf_fz_p0 fr_fz_p0_0 fr_fz_p0_1 fr_fz_p0_2 ho_fz_p0_bow hf_fz_p0_bow fr_fz_p0_bow_0 fr_fz_p0_bow_1 hP11 hS11 hl
      refine lv_iload_n hx hb dX7_endsBehind_7 rfl (lv_at hl 0 rfl) (lv_iload_n hx hb dX7_endsBehind_8 rfl (lv_at hl 3 rfl) ?_)
      refine lv_icmp_ge (tgt := 34) hx hb dX7_endsBehind_9 (by decide) (fun c_12 => ?_) (fun c_12 => ?_)
      · have tc_12 := q_ge c_12
        refine lv_aload_n hx hb dX7_endsBehind_34 rfl (lv_at hl 1 rfl) (qg_X7_0 hx hb hts i_X7 hown hK hP11 0 rfl k_4 fr_fz_p0_0 dX7_endsBehind_35 (qg_X0_1 hx hb hts i_X0 hown hK hP11 1 rfl k_5 fr_fz_p0_bow_1 dX7_endsBehind_38 (lv_iconst (v := 0) hx hb dX7_endsBehind_41 (by decide) (q_ild hx hb hK hP11 2 0 rfl rfl (p1_in (i := 0) (n := 2) (by decide)) dX7_endsBehind_42 (fun v_13 ev_13 => ?_)))))
        refine lv_aload_n hx hb dX7_endsBehind_43 rfl (lv_at hl 1 rfl) (qg_X7_0 hx hb hts i_X7 hown hK hP11 0 rfl k_4 fr_fz_p0_0 dX7_endsBehind_44 (qg_X0_1 hx hb hts i_X0 hown hK hP11 1 rfl k_5 fr_fz_p0_bow_1 dX7_endsBehind_47 (lv_iconst (v := 1) hx hb dX7_endsBehind_50 (by decide) (q_ild hx hb hK hP11 2 0 rfl rfl (p1_in (i := 1) (n := 2) (by decide)) dX7_endsBehind_51 (fun v_14 ev_14 => ?_)))))
        refine lv_iadd hx hb dX7_endsBehind_52 (lv_topi fun v_15 ev_15 => ?_)
        exact q_iret hx hb hr hlocks hS11 dX7_endsBehind_53 ⟨fz_p0, fz_p0_bow, bz_p0_bow_ends, bz_p0_bow_tight, bz_p1_laws_stack, ho_fz_p0, hf_fz_p0, ho_fz_p0_bow, hf_fz_p0_bow, hP11, za_t_endsBehind⟩
      · have tc_12 := q_ltN c_12
        refine lv_aload_n hx hb dX7_endsBehind_12 rfl (lv_at hl 1 rfl) (qg_X7_0 hx hb hts i_X7 hown hK hP11 0 rfl k_4 fr_fz_p0_0 dX7_endsBehind_13 ?_)
        obtain ⟨v_16, fv_16, tv_16⟩ := OKX0_g3 ho_fz_p0_bow
        refine qg_X0_3 hx hb hts i_X0 hown hK hP11 1 rfl k_6 fv_16 dX7_endsBehind_16 ?_
        refine lv_if_le (tgt := 34) hx hb dX7_endsBehind_19 (by decide) (fun c_17 => ?_) (fun c_17 => ?_)
        · have tc_17 := q_le c_17
          refine lv_aload_n hx hb dX7_endsBehind_34 rfl (lv_at hl 1 rfl) (qg_X7_0 hx hb hts i_X7 hown hK hP11 0 rfl k_4 fr_fz_p0_0 dX7_endsBehind_35 (qg_X0_1 hx hb hts i_X0 hown hK hP11 1 rfl k_5 fr_fz_p0_bow_1 dX7_endsBehind_38 (lv_iconst (v := 0) hx hb dX7_endsBehind_41 (by decide) (q_ild hx hb hK hP11 2 0 rfl rfl (p1_in (i := 0) (n := 2) (by decide)) dX7_endsBehind_42 (fun v_18 ev_18 => ?_)))))
          refine lv_aload_n hx hb dX7_endsBehind_43 rfl (lv_at hl 1 rfl) (qg_X7_0 hx hb hts i_X7 hown hK hP11 0 rfl k_4 fr_fz_p0_0 dX7_endsBehind_44 (qg_X0_1 hx hb hts i_X0 hown hK hP11 1 rfl k_5 fr_fz_p0_bow_1 dX7_endsBehind_47 (lv_iconst (v := 1) hx hb dX7_endsBehind_50 (by decide) (q_ild hx hb hK hP11 2 0 rfl rfl (p1_in (i := 1) (n := 2) (by decide)) dX7_endsBehind_51 (fun v_19 ev_19 => ?_)))))
          refine lv_iadd hx hb dX7_endsBehind_52 (lv_topi fun v_20 ev_20 => ?_)
          exact q_iret hx hb hr hlocks hS11 dX7_endsBehind_53 ⟨fz_p0, fz_p0_bow, bz_p0_bow_ends, bz_p0_bow_tight, bz_p1_laws_stack, ho_fz_p0, hf_fz_p0, ho_fz_p0_bow, hf_fz_p0_bow, hP11, za_t_endsBehind⟩
        · have tc_17 := q_gtN c_17
          refine lv_aload_n hx hb dX7_endsBehind_22 rfl (lv_at hl 1 rfl) (lv_aload_n hx hb dX7_endsBehind_23 rfl (lv_at hl 2 rfl) ?_)
          refine q_cVi (As := [.ref p1]) (rest := []) q_w0 trivial hK hP11 hDa za_t_endsBehind hS11 hA [0, 1, 2, 3, 4, 5, 6, 7, 8, 9, 10] [0, 1, 2, 3, 4, 5, 6] (by decide +kernel) ⟨hx, hb, hml, hown, hts⟩ (t_advance l dC dI H11.size p0 fz_p0 p0_bow fz_p0_bow p0_bow_ends c_p0_bow_ends bz_p0_bow_ends p0_bow_tight c_p0_bow_tight bz_p0_bow_tight p0_strikes c_p0_strikes b_p0_strikes p0_swings c_p0_swings b_p0_swings p1 f_p1 p1_laws f_p1_laws p1_laws_behind c_p1_laws_behind b_p1_laws_behind p1_laws_code c_p1_laws_code b_p1_laws_code p1_laws_stack c_p1_laws_stack bz_p1_laws_stack ho_fz_p0 fr_fz_p0_0 fr_fz_p0_1 fr_fz_p0_2 ho_fz_p0_bow fr_fz_p0_bow_0 fr_fz_p0_bow_1 hr_p0_strikes hr_p0_swings ho_p1 fr_p1_12 ho_p1_laws fr_p1_laws_0 fr_p1_laws_1 fr_p1_laws_2 hr_p1_laws_behind) rfl rfl (cwV 1 hts (p1_gV m_7 m_8 m_9 m_3 g_t_advance gz_t_advance) rfl rfl rfl (by decide +kernel) ⟨by decide, by decide⟩) (va_recv hK hP11 (ci := 6) (q0 := 0) rfl rfl) zm_t_advance rfl hl.1 rfl (Nat.le_of_ble_eq_true rfl) dX7_endsBehind_24 ⟨by decide, by decide⟩ (fun r_21 H22 lo22 hG22 hS22 => ?_)
          obtain ⟨o_23, o_24, o_25, o_26, o_27, ho_28, hf_29, ho_30, hf_31, hQ22⟩ := hG22
          have hP22 : va_P (dC, dI) vwCl (zW_t_endsBehind p0 o_23 p0_bow o_24 p0_bow_ends c_p0_bow_ends o_25 p0_bow_tight c_p0_bow_tight o_26 p0_strikes c_p0_strikes b_p0_strikes p0_swings c_p0_swings b_p0_swings p1 f_p1 p1_laws f_p1_laws p1_laws_behind c_p1_laws_behind b_p1_laws_behind p1_laws_code c_p1_laws_code b_p1_laws_code p1_laws_stack c_p1_laws_stack o_27 p1_once c_p1_once b_p1_once) H22 := hQ22
          clear hQ22 hP11 hS11
          refine lv_pop hx hb dX7_endsBehind_27 rfl ?_
          obtain ⟨v_32, ev_32⟩ : ∃ y : Int32, y = n + 1 := ⟨_, rfl⟩
          have tv_32 := q_add ev_32 (by omega) (by omega)
          refine lv_iinc (v := v_32) (lv' := [(3, .int v_32), (0, .ref p0), (1, .ref p1), (2, .int a2)]) hx hb dX7_endsBehind_28 hl (k := 0) rfl (by rw [ev_32]; rfl) (by decide) rfl (fun ls hl => ?_)
          refine lv_goto (tgt := 7) hx hb dX7_endsBehind_31 (by decide) ?_
          exact ih7 (fu7 - 1) (by omega) v_32 o_23 o_24 o_25 o_26 o_27 _ _ _ (by omega) (by omega) ho_28 (hf_fz_p0.tr hf_29 (by decide)) (hf_29.u (by decide) fr_fz_p0_0) (hf_29.u (by decide) fr_fz_p0_1) (hf_29.u (by decide) fr_fz_p0_2) ho_30 (hf_fz_p0_bow.tr hf_31 (by decide)) (hf_31.u (by decide) fr_fz_p0_bow_0) (hf_31.u (by decide) fr_fz_p0_bow_1) hP22 hS22 (lv_sub hl [0, 1, 2, 3] rfl)
  exact key7 500 0 o_3 o_4 o_5 o_6 b_p1_laws_stack _ _ _ (by omega) (by omega) ho_7 (q_fr.rf.tr hf_8 (by decide)) (hf_8.u (by decide) fr_p0_0) (hf_8.u (by decide) fr_p0_1) (hf_8.u (by decide) fr_p0_2) ho_9 (q_fr.rf.tr hf_10 (by decide)) (hf_10.u (by decide) fr_p0_bow_0) (hf_10.u (by decide) fr_p0_bow_1) hP2 hS2 (lv_sub hl [0, 1, 2, 3] rfl)
def zo_t_firstSlipping : List Cond := [.code yX7_firstSlippingStep cX7_firstSlippingStep 4 (some .int), .methodLink RX7 66 yX7_begin, .instanceMethod yX7_begin, .selects RX7 yX7_begin yX7_begin, .initialized RX7, .methodLink RX7 69 yX7_advance, .instanceMethod yX7_advance, .selects RX7 yX7_advance yX7_advance]
def zw_t_firstSlipping : List Cond := zo_t_firstSlipping ++ (zw_t_tbegin ++ (zw_t_advance ++ []))
theorem gz_t_firstSlipping : zw_t_firstSlipping.all goodWord = true := p1_ga (by decide +kernel) (p1_ga gz_t_tbegin (p1_ga gz_t_advance p1_g0))
theorem iz_t_firstSlipping : ∀ w ∈ zw_t_firstSlipping, w ∈ lw_tbl := p1_ia (p1_all [1004, 839, 841, 32, 113, 844, 846, 33] (by decide +kernel)) (p1_ia iz_t_tbegin (p1_ia iz_t_advance p1_i0))
def zW_t_firstSlipping (p0 : Nat) (f_p0 : List Value) (p0_bow : Nat) (f_p0_bow : List Value) (p0_bow_ends : Nat) (c_p0_bow_ends : ClassId) (b_p0_bow_ends : Nat → Int32) (p0_bow_tight : Nat) (c_p0_bow_tight : ClassId) (b_p0_bow_tight : Nat → Int32) (p0_strikes : Nat) (c_p0_strikes : ClassId) (b_p0_strikes : Nat → Int32) (p0_swings : Nat) (c_p0_swings : ClassId) (b_p0_swings : Nat → Int32) (p1 : Nat) (f_p1 : List Value) (p1_laws : Nat) (f_p1_laws : List Value) (p1_laws_behind : Nat) (c_p1_laws_behind : ClassId) (b_p1_laws_behind : Nat → Int32) (p1_laws_code : Nat) (c_p1_laws_code : ClassId) (b_p1_laws_code : Nat → Int32) (p1_laws_stack : Nat) (c_p1_laws_stack : ClassId) (b_p1_laws_stack : Nat → Int32) (p1_once : Nat) (c_p1_once : ClassId) (b_p1_once : Nat → Int32) : va_W := [(p0, .inr (6, f_p0)), (p0_bow, .inr (0, f_p0_bow)), (p0_bow_ends, .inl (c_p0_bow_ends, 2, .inl b_p0_bow_ends)), (p0_bow_tight, .inl (c_p0_bow_tight, 12, .inl b_p0_bow_tight)), (p0_strikes, .inl (c_p0_strikes, 8, .inl b_p0_strikes)), (p0_swings, .inl (c_p0_swings, 8, .inl b_p0_swings)), (p1, .inr (5, f_p1)), (p1_laws, .inr (3, f_p1_laws)), (p1_laws_behind, .inl (c_p1_laws_behind, 6, .inl b_p1_laws_behind)), (p1_laws_code, .inl (c_p1_laws_code, 600, .inl b_p1_laws_code)), (p1_laws_stack, .inl (c_p1_laws_stack, 60, .inl b_p1_laws_stack)), (p1_once, .inl (c_p1_once, 2, .inl b_p1_once))]
def zT_t_firstSlipping (c_p0_bow_ends : ClassId) (c_p0_bow_tight : ClassId) (c_p0_strikes : ClassId) (c_p0_swings : ClassId) (c_p1_laws_behind : ClassId) (c_p1_laws_code : ClassId) (c_p1_laws_stack : ClassId) (c_p1_once : ClassId) : List (ClassId × FieldType) := [(c_p0_bow_ends, .int), (c_p0_bow_tight, .int), (c_p0_strikes, .int), (c_p0_swings, .int), (c_p1_laws_behind, .int), (c_p1_laws_code, .int), (c_p1_laws_stack, .int), (c_p1_once, .int)]
def zA_t_firstSlipping (p0 : Nat) (p0_bow : Nat) (p0_bow_ends : Nat) (p0_bow_tight : Nat) (p0_strikes : Nat) (p0_swings : Nat) (p1 : Nat) (p1_laws : Nat) (p1_laws_behind : Nat) (p1_laws_code : Nat) (p1_laws_stack : Nat) (p1_once : Nat) : List Nat := [p0, p0_bow, p0_bow_ends, p0_bow_tight, p0_strikes, p0_swings, p1, p1_laws, p1_laws_behind, p1_laws_code, p1_laws_stack, p1_once]
theorem za_t_firstSlipping {p0 : Nat} {f_p0 : List Value} {p0_bow : Nat} {f_p0_bow : List Value} {p0_bow_ends : Nat} {c_p0_bow_ends : ClassId} {b_p0_bow_ends : Nat → Int32} {p0_bow_tight : Nat} {c_p0_bow_tight : ClassId} {b_p0_bow_tight : Nat → Int32} {p0_strikes : Nat} {c_p0_strikes : ClassId} {b_p0_strikes : Nat → Int32} {p0_swings : Nat} {c_p0_swings : ClassId} {b_p0_swings : Nat → Int32} {p1 : Nat} {f_p1 : List Value} {p1_laws : Nat} {f_p1_laws : List Value} {p1_laws_behind : Nat} {c_p1_laws_behind : ClassId} {b_p1_laws_behind : Nat → Int32} {p1_laws_code : Nat} {c_p1_laws_code : ClassId} {b_p1_laws_code : Nat → Int32} {p1_laws_stack : Nat} {c_p1_laws_stack : ClassId} {b_p1_laws_stack : Nat → Int32} {p1_once : Nat} {c_p1_once : ClassId} {b_p1_once : Nat → Int32} : (zW_t_firstSlipping p0 f_p0 p0_bow f_p0_bow p0_bow_ends c_p0_bow_ends b_p0_bow_ends p0_bow_tight c_p0_bow_tight b_p0_bow_tight p0_strikes c_p0_strikes b_p0_strikes p0_swings c_p0_swings b_p0_swings p1 f_p1 p1_laws f_p1_laws p1_laws_behind c_p1_laws_behind b_p1_laws_behind p1_laws_code c_p1_laws_code b_p1_laws_code p1_laws_stack c_p1_laws_stack b_p1_laws_stack p1_once c_p1_once b_p1_once).map Prod.fst = (zA_t_firstSlipping p0 p0_bow p0_bow_ends p0_bow_tight p0_strikes p0_swings p1 p1_laws p1_laws_behind p1_laws_code p1_laws_stack p1_once) := rfl
def zG_t_firstSlipping (p0 : Nat) (f_p0 : List Value) (p0_bow : Nat) (f_p0_bow : List Value) (p0_bow_ends : Nat) (c_p0_bow_ends : ClassId) (b_p0_bow_ends : Nat → Int32) (p0_bow_tight : Nat) (c_p0_bow_tight : ClassId) (b_p0_bow_tight : Nat → Int32) (p0_strikes : Nat) (c_p0_strikes : ClassId) (b_p0_strikes : Nat → Int32) (p0_swings : Nat) (c_p0_swings : ClassId) (b_p0_swings : Nat → Int32) (p1 : Nat) (f_p1 : List Value) (p1_laws : Nat) (f_p1_laws : List Value) (p1_laws_behind : Nat) (c_p1_laws_behind : ClassId) (b_p1_laws_behind : Nat → Int32) (p1_laws_code : Nat) (c_p1_laws_code : ClassId) (b_p1_laws_code : Nat → Int32) (p1_laws_stack : Nat) (c_p1_laws_stack : ClassId) (b_p1_laws_stack : Nat → Int32) (p1_once : Nat) (c_p1_once : ClassId) (b_p1_once : Nat → Int32) (a2 : Int32) (r : Int32) (X : va_W → Prop) : Prop := ∃ (y_p0 : List Value) (y_p0_bow : List Value) (y_p0_bow_ends : Nat → Int32) (y_p0_bow_tight : Nat → Int32) (y_p1_laws_stack : Nat → Int32), OKX7 y_p0 ∧ q_fr [5] f_p0 y_p0 ∧ OKX0 y_p0_bow ∧ q_fr [3, 4, 5, 6, 7, 13, 14] f_p0_bow y_p0_bow ∧ X (zW_t_firstSlipping p0 y_p0 p0_bow y_p0_bow p0_bow_ends c_p0_bow_ends y_p0_bow_ends p0_bow_tight c_p0_bow_tight y_p0_bow_tight p0_strikes c_p0_strikes b_p0_strikes p0_swings c_p0_swings b_p0_swings p1 f_p1 p1_laws f_p1_laws p1_laws_behind c_p1_laws_behind b_p1_laws_behind p1_laws_code c_p1_laws_code b_p1_laws_code p1_laws_stack c_p1_laws_stack y_p1_laws_stack p1_once c_p1_once b_p1_once)
theorem zm_t_firstSlipping {p0 : Nat} {f_p0 : List Value} {p0_bow : Nat} {f_p0_bow : List Value} {p0_bow_ends : Nat} {c_p0_bow_ends : ClassId} {b_p0_bow_ends : Nat → Int32} {p0_bow_tight : Nat} {c_p0_bow_tight : ClassId} {b_p0_bow_tight : Nat → Int32} {p0_strikes : Nat} {c_p0_strikes : ClassId} {b_p0_strikes : Nat → Int32} {p0_swings : Nat} {c_p0_swings : ClassId} {b_p0_swings : Nat → Int32} {p1 : Nat} {f_p1 : List Value} {p1_laws : Nat} {f_p1_laws : List Value} {p1_laws_behind : Nat} {c_p1_laws_behind : ClassId} {b_p1_laws_behind : Nat → Int32} {p1_laws_code : Nat} {c_p1_laws_code : ClassId} {b_p1_laws_code : Nat → Int32} {p1_laws_stack : Nat} {c_p1_laws_stack : ClassId} {b_p1_laws_stack : Nat → Int32} {p1_once : Nat} {c_p1_once : ClassId} {b_p1_once : Nat → Int32} {a2 : Int32} : ∀ (r : Int32), ∀ X Y : va_W → Prop, (∀ w, X w → Y w) → zG_t_firstSlipping p0 f_p0 p0_bow f_p0_bow p0_bow_ends c_p0_bow_ends b_p0_bow_ends p0_bow_tight c_p0_bow_tight b_p0_bow_tight p0_strikes c_p0_strikes b_p0_strikes p0_swings c_p0_swings b_p0_swings p1 f_p1 p1_laws f_p1_laws p1_laws_behind c_p1_laws_behind b_p1_laws_behind p1_laws_code c_p1_laws_code b_p1_laws_code p1_laws_stack c_p1_laws_stack b_p1_laws_stack p1_once c_p1_once b_p1_once a2 r X → zG_t_firstSlipping p0 f_p0 p0_bow f_p0_bow p0_bow_ends c_p0_bow_ends b_p0_bow_ends p0_bow_tight c_p0_bow_tight b_p0_bow_tight p0_strikes c_p0_strikes b_p0_strikes p0_swings c_p0_swings b_p0_swings p1 f_p1 p1_laws f_p1_laws p1_laws_behind c_p1_laws_behind b_p1_laws_behind p1_laws_code c_p1_laws_code b_p1_laws_code p1_laws_stack c_p1_laws_stack b_p1_laws_stack p1_once c_p1_once b_p1_once a2 r Y := fun r X Y h h1 => by obtain ⟨x0, x1, x2, x3, x4, x5, x6, x7, x8, hx⟩ := h1; exact ⟨x0, x1, x2, x3, x4, x5, x6, x7, x8, h _ hx⟩
set_option maxHeartbeats 4000000 in
set_option maxRecDepth 100000 in
theorem t_firstSlipping (l : Launch) (dC : Nat → ClassId) (dI : Nat → Nat → Nat) (sz : Nat) (p0 : Nat) (f_p0 : List Value) (p0_bow : Nat) (f_p0_bow : List Value) (p0_bow_ends : Nat) (c_p0_bow_ends : ClassId) (b_p0_bow_ends : Nat → Int32) (p0_bow_tight : Nat) (c_p0_bow_tight : ClassId) (b_p0_bow_tight : Nat → Int32) (p0_strikes : Nat) (c_p0_strikes : ClassId) (b_p0_strikes : Nat → Int32) (p0_swings : Nat) (c_p0_swings : ClassId) (b_p0_swings : Nat → Int32) (p1 : Nat) (f_p1 : List Value) (p1_laws : Nat) (f_p1_laws : List Value) (p1_laws_behind : Nat) (c_p1_laws_behind : ClassId) (b_p1_laws_behind : Nat → Int32) (p1_laws_code : Nat) (c_p1_laws_code : ClassId) (b_p1_laws_code : Nat → Int32) (p1_laws_stack : Nat) (c_p1_laws_stack : ClassId) (b_p1_laws_stack : Nat → Int32) (p1_once : Nat) (c_p1_once : ClassId) (b_p1_once : Nat → Int32) (a2 : Int32) (ho_p0 : OKX7 f_p0) (fr_p0_0 : q_rf f_p0 0 p0_bow) (fr_p0_1 : q_rf f_p0 1 p0_strikes) (fr_p0_2 : q_rf f_p0 2 p0_swings) (ho_p0_bow : OKX0 f_p0_bow) (fr_p0_bow_0 : q_rf f_p0_bow 0 p0_bow_tight) (fr_p0_bow_1 : q_rf f_p0_bow 1 p0_bow_ends) (hr_p0_strikes : q_rg 8 (0) 99 b_p0_strikes) (hr_p0_swings : q_rg 8 (0) 99 b_p0_swings) (ho_p1 : OKX5 f_p1) (fr_p1_12 : q_rf f_p1 12 p1_laws) (fr_p1_13 : q_rf f_p1 13 p1_once) (ho_p1_laws : OKX3 f_p1_laws) (fr_p1_laws_0 : q_rf f_p1_laws 0 p1_laws_code) (fr_p1_laws_1 : q_rf f_p1_laws 1 p1_laws_behind) (fr_p1_laws_2 : q_rf f_p1_laws 2 p1_laws_stack) (hr_p1_laws_behind : q_rg 6 (0) 600 b_p1_laws_behind) (hr_p1_once : q_rg 2 (0) 999 b_p1_once) (ta2 : (0) ≤ a2.toInt ∧ a2.toInt ≤ 500) : Met l yX7_firstSlippingStep zw_t_firstSlipping ({ frames := 5, cells := 0, slots := 0, locals := 122 }) (va_Pc [.ref p0, .ref p1, .int a2] (q_pre (dC, dI) (zW_t_firstSlipping p0 f_p0 p0_bow f_p0_bow p0_bow_ends c_p0_bow_ends b_p0_bow_ends p0_bow_tight c_p0_bow_tight b_p0_bow_tight p0_strikes c_p0_strikes b_p0_strikes p0_swings c_p0_swings b_p0_swings p1 f_p1 p1_laws f_p1_laws p1_laws_behind c_p1_laws_behind b_p1_laws_behind p1_laws_code c_p1_laws_code b_p1_laws_code p1_laws_stack c_p1_laws_stack b_p1_laws_stack p1_once c_p1_once b_p1_once) (zT_t_firstSlipping c_p0_bow_ends c_p0_bow_tight c_p0_strikes c_p0_swings c_p1_laws_behind c_p1_laws_code c_p1_laws_stack c_p1_once) q_E0 sz)) (q_Qi (dC, dI) (zG_t_firstSlipping p0 f_p0 p0_bow f_p0_bow p0_bow_ends c_p0_bow_ends b_p0_bow_ends p0_bow_tight c_p0_bow_tight b_p0_bow_tight p0_strikes c_p0_strikes b_p0_strikes p0_swings c_p0_swings b_p0_swings p1 f_p1 p1_laws f_p1_laws p1_laws_behind c_p1_laws_behind b_p1_laws_behind p1_laws_code c_p1_laws_code b_p1_laws_code p1_laws_stack c_p1_laws_stack b_p1_laws_stack p1_once c_p1_once b_p1_once a2) (zA_t_firstSlipping p0 p0_bow p0_bow_ends p0_bow_tight p0_strikes p0_swings p1 p1_laws p1_laws_behind p1_laws_code p1_laws_stack p1_once) (va_A (zW_t_firstSlipping p0 f_p0 p0_bow f_p0_bow p0_bow_ends c_p0_bow_ends b_p0_bow_ends p0_bow_tight c_p0_bow_tight b_p0_bow_tight p0_strikes c_p0_strikes b_p0_strikes p0_swings c_p0_swings b_p0_swings p1 f_p1 p1_laws f_p1_laws p1_laws_behind c_p1_laws_behind b_p1_laws_behind p1_laws_code c_p1_laws_code b_p1_laws_code p1_laws_stack c_p1_laws_stack b_p1_laws_stack p1_once c_p1_once b_p1_once) sz)) 0 0 (va_A (zW_t_firstSlipping p0 f_p0 p0_bow f_p0_bow p0_bow_ends c_p0_bow_ends b_p0_bow_ends p0_bow_tight c_p0_bow_tight b_p0_bow_tight p0_strikes c_p0_strikes b_p0_strikes p0_swings c_p0_swings b_p0_swings p1 f_p1 p1_laws f_p1_laws p1_laws_behind c_p1_laws_behind b_p1_laws_behind p1_laws_code c_p1_laws_code b_p1_laws_code p1_laws_stack c_p1_laws_stack b_p1_laws_stack p1_once c_p1_once b_p1_once) sz) := by
  refine Met.ofW (cc := cX7_firstSlippingStep) (maxL := 4) (ret := (some .int)) (by decide) rfl ?_
  intro p e s m args below meth c s₁ B hml hv
  obtain ⟨rfl, hsz, hP, hK, hD0, hE⟩ := hv
  have hx := B.exec
  have hb := B.bytes
  have hr := B.returns
  have hts := atoms_spec (ws := zw_t_firstSlipping) B.pre
  have hown : s.vm.findClass RX7 = some m.cls := findClass_of_methodNamed B.named
  have hlocks := B.notSynchronized
  subst hsz
  have hD := hD0.self (sz := s.heap.size)
  generalize hAe : va_A (zW_t_firstSlipping p0 f_p0 p0_bow f_p0_bow p0_bow_ends c_p0_bow_ends b_p0_bow_ends p0_bow_tight c_p0_bow_tight b_p0_bow_tight p0_strikes c_p0_strikes b_p0_strikes p0_swings c_p0_swings b_p0_swings p1 f_p1 p1_laws f_p1_laws p1_laws_behind c_p1_laws_behind b_p1_laws_behind p1_laws_code c_p1_laws_code b_p1_laws_code p1_laws_stack c_p1_laws_stack b_p1_laws_stack p1_once c_p1_once b_p1_once) s.heap.size = A at hD hE ⊢
  have hA : ∀ q : Nat, s.heap.size ≤ q → A q := fun q h => by rw [← hAe]; exact Or.inr h
  have hDa : q_DA A (zA_t_firstSlipping p0 p0_bow p0_bow_ends p0_bow_tight p0_strikes p0_swings p1 p1_laws p1_laws_behind p1_laws_code p1_laws_stack p1_once) := q_DA.mk hD za_t_firstSlipping
  clear hAe hD0 hD
  have hS : va_S A s.heap s.heap [] := va_S.rf
  have m_0 : (.methodLink RX7 66 yX7_begin : Cond) ∈ zw_t_firstSlipping := List.mem_append_left _ (List.mem_of_getElem? (i := 1) rfl)
  have k_0 := hts _ m_0
  have m_1 : (.instanceMethod yX7_begin : Cond) ∈ zw_t_firstSlipping := List.mem_append_left _ (List.mem_of_getElem? (i := 2) rfl)
  have k_1 := hts _ m_1
  have m_2 : (.selects RX7 yX7_begin yX7_begin : Cond) ∈ zw_t_firstSlipping := List.mem_append_left _ (List.mem_of_getElem? (i := 3) rfl)
  have k_2 := hts _ m_2
  have m_3 : (.initialized RX7 : Cond) ∈ zw_t_firstSlipping := List.mem_append_left _ (List.mem_of_getElem? (i := 4) rfl)
  have k_3 := hts _ m_3
  have m_4 : (.methodLink RX7 69 yX7_advance : Cond) ∈ zw_t_firstSlipping := List.mem_append_left _ (List.mem_of_getElem? (i := 5) rfl)
  have k_4 := hts _ m_4
  have m_5 : (.instanceMethod yX7_advance : Cond) ∈ zw_t_firstSlipping := List.mem_append_left _ (List.mem_of_getElem? (i := 6) rfl)
  have k_5 := hts _ m_5
  have m_6 : (.selects RX7 yX7_advance yX7_advance : Cond) ∈ zw_t_firstSlipping := List.mem_append_left _ (List.mem_of_getElem? (i := 7) rfl)
  have k_6 := hts _ m_6
  have g_t_tbegin : ∀ w ∈ zw_t_tbegin, w ∈ zw_t_firstSlipping := fun w h => List.mem_append_right _ (List.mem_append_left _ h)
  have g_t_advance : ∀ w ∈ zw_t_advance, w ∈ zw_t_firstSlipping := fun w h => List.mem_append_right _ (List.mem_append_right _ (List.mem_append_left _ h))
  have lt_m1 : ((-1) : Int32).toInt = -1 := by decide
  have lt_0 : (0 : Int32).toInt = 0 := by decide
  have lt_1 : (1 : Int32).toInt = 1 := by decide
  have hl := lv_entry ([.ref p0, .ref p1, .int a2]) (n := 4) (Nat.le_of_ble_eq_true rfl)
  rw [lg_entry_eq]
  generalize (lg_sl ([.ref p0, .ref p1, .int a2]) ++ List.replicate (4 - (lg_sl ([.ref p0, .ref p1, .int a2])).length) Slot.unset).toArray = ls at hl ⊢
  have hl : lv_has ls 4 [(0, .ref p0), (1, .ref p1), (2, .int a2)] := hl
  refine lv_aload_n hx hb dX7_firstSlippingStep_0 rfl (lv_at hl 0 rfl) (lv_aload_n hx hb dX7_firstSlippingStep_1 rfl (lv_at hl 1 rfl) ?_)
  refine q_cVv (As := [.ref p1]) (rest := []) q_w0 trivial hK hP hDa za_t_firstSlipping hS hA [0, 1, 2, 3, 6, 11] [0, 1, 7] (by decide +kernel) ⟨hx, hb, hml, hown, hts⟩ (t_tbegin l dC dI s.heap.size p0 f_p0 p0_bow f_p0_bow p0_bow_ends c_p0_bow_ends b_p0_bow_ends p0_bow_tight c_p0_bow_tight b_p0_bow_tight p1 f_p1 p1_once c_p1_once b_p1_once ho_p0 fr_p0_0 ho_p0_bow fr_p0_bow_0 fr_p0_bow_1 ho_p1 fr_p1_13 hr_p1_once) rfl rfl (cwV 1 hts (p1_gV m_0 m_1 m_2 m_3 g_t_tbegin gz_t_tbegin) rfl rfl rfl (by decide +kernel) ⟨by decide, by decide⟩) (va_recv hK hP (ci := 6) (q0 := 0) rfl rfl) zm_t_tbegin rfl hl.1 rfl (Nat.le_of_ble_eq_true rfl) dX7_firstSlippingStep_2 ⟨by decide, by decide⟩ (fun H2 lo2 hG2 hS2 => ?_)
  obtain ⟨o_3, o_4, o_5, o_6, ho_7, hf_8, ho_9, hf_10, hQ2⟩ := hG2
  have hP2 : va_P (dC, dI) vwCl (zW_t_firstSlipping p0 o_3 p0_bow o_4 p0_bow_ends c_p0_bow_ends o_5 p0_bow_tight c_p0_bow_tight o_6 p0_strikes c_p0_strikes b_p0_strikes p0_swings c_p0_swings b_p0_swings p1 f_p1 p1_laws f_p1_laws p1_laws_behind c_p1_laws_behind b_p1_laws_behind p1_laws_code c_p1_laws_code b_p1_laws_code p1_laws_stack c_p1_laws_stack b_p1_laws_stack p1_once c_p1_once b_p1_once) H2 := hQ2
  clear hQ2 hP hS
  refine lv_iconst (v := 1) hx hb dX7_firstSlippingStep_5 (by decide) (lv_istore_n (lv' := [(3, .int 1), (0, .ref p0), (1, .ref p1), (2, .int a2)]) hx hb dX7_firstSlippingStep_6 rfl hl (by decide) rfl (fun ls hl => ?_))
  have key7 : ∀ (fu7 : Nat) (st : Int32) (fz_p0 : List Value) (fz_p0_bow : List Value) (bz_p0_bow_ends : Nat → Int32) (bz_p0_bow_tight : Nat → Int32) (bz_p1_laws_stack : Nat → Int32) (H : Heap) (locs : List Loc) (ls : Array Slot) (hfu7 : 501 - st.toInt ≤ (fu7 : Int)) (tst : (1) ≤ st.toInt ∧ st.toInt ≤ 501) (ho_fz_p0 : OKX7 fz_p0) (hf_fz_p0 : q_fr [5] f_p0 fz_p0) (fr_fz_p0_0 : q_rf fz_p0 0 p0_bow) (fr_fz_p0_1 : q_rf fz_p0 1 p0_strikes) (fr_fz_p0_2 : q_rf fz_p0 2 p0_swings) (ho_fz_p0_bow : OKX0 fz_p0_bow) (hf_fz_p0_bow : q_fr [3, 4, 5, 6, 7, 13, 14] f_p0_bow fz_p0_bow) (fr_fz_p0_bow_0 : q_rf fz_p0_bow 0 p0_bow_tight) (fr_fz_p0_bow_1 : q_rf fz_p0_bow 1 p0_bow_ends), va_P (dC, dI) vwCl (zW_t_firstSlipping p0 fz_p0 p0_bow fz_p0_bow p0_bow_ends c_p0_bow_ends bz_p0_bow_ends p0_bow_tight c_p0_bow_tight bz_p0_bow_tight p0_strikes c_p0_strikes b_p0_strikes p0_swings c_p0_swings b_p0_swings p1 f_p1 p1_laws f_p1_laws p1_laws_behind c_p1_laws_behind b_p1_laws_behind p1_laws_code c_p1_laws_code b_p1_laws_code p1_laws_stack c_p1_laws_stack bz_p1_laws_stack p1_once c_p1_once b_p1_once) H → va_S A s.heap H locs → lv_has ls 4 [(3, .int st), (0, .ref p0), (1, .ref p1), (2, .int a2)] → W p l e (headSpec zw_t_firstSlipping { frames := 5, cells := 0, slots := 0, locals := 122 }).room s m ([.ref p0, .ref p1, .int a2] : List Value).toArray below meth c H locs 0 0 (MQ below (q_Qi (dC, dI) (zG_t_firstSlipping p0 f_p0 p0_bow f_p0_bow p0_bow_ends c_p0_bow_ends b_p0_bow_ends p0_bow_tight c_p0_bow_tight b_p0_bow_tight p0_strikes c_p0_strikes b_p0_strikes p0_swings c_p0_swings b_p0_swings p1 f_p1 p1_laws f_p1_laws p1_laws_behind c_p1_laws_behind b_p1_laws_behind p1_laws_code c_p1_laws_code b_p1_laws_code p1_laws_stack c_p1_laws_stack b_p1_laws_stack p1_once c_p1_once b_p1_once a2) (zA_t_firstSlipping p0 p0_bow p0_bow_ends p0_bow_tight p0_strikes p0_swings p1 p1_laws p1_laws_behind p1_laws_code p1_laws_stack p1_once) A) ([.ref p0, .ref p1, .int a2] : List Value).toArray s 0 0 A) (F0 m 7 ls []) := by
    intro fu7
    induction fu7 using Nat.strongRecOn with
    | ind fu7 ih7 =>
      intro st fz_p0 fz_p0_bow bz_p0_bow_ends bz_p0_bow_tight bz_p1_laws_stack H11 lo11 ls hfu7 tst ho_fz_p0 hf_fz_p0 fr_fz_p0_0 fr_fz_p0_1 fr_fz_p0_2 ho_fz_p0_bow hf_fz_p0_bow fr_fz_p0_bow_0 fr_fz_p0_bow_1 hP11 hS11 hl
      refine lv_iload_n hx hb dX7_firstSlippingStep_7 rfl (lv_at hl 0 rfl) (lv_iload_n hx hb dX7_firstSlippingStep_8 rfl (lv_at hl 3 rfl) ?_)
      refine lv_icmp_gt (tgt := 28) hx hb dX7_firstSlippingStep_9 (by decide) (fun c_12 => ?_) (fun c_12 => ?_)
      · have tc_12 := q_gt c_12
        refine lv_iconst (v := (-1)) hx hb dX7_firstSlippingStep_28 (by decide) ?_
        exact q_iret hx hb hr hlocks hS11 dX7_firstSlippingStep_29 ⟨fz_p0, fz_p0_bow, bz_p0_bow_ends, bz_p0_bow_tight, bz_p1_laws_stack, ho_fz_p0, hf_fz_p0, ho_fz_p0_bow, hf_fz_p0_bow, hP11, za_t_firstSlipping⟩
      · have tc_12 := q_leN c_12
        refine lv_aload_n hx hb dX7_firstSlippingStep_12 rfl (lv_at hl 1 rfl) (lv_aload_n hx hb dX7_firstSlippingStep_13 rfl (lv_at hl 2 rfl) ?_)
        refine q_cVi (As := [.ref p1]) (rest := []) q_w0 trivial hK hP11 hDa za_t_firstSlipping hS11 hA [0, 1, 2, 3, 4, 5, 6, 7, 8, 9, 10] [0, 1, 2, 3, 4, 5, 6] (by decide +kernel) ⟨hx, hb, hml, hown, hts⟩ (t_advance l dC dI H11.size p0 fz_p0 p0_bow fz_p0_bow p0_bow_ends c_p0_bow_ends bz_p0_bow_ends p0_bow_tight c_p0_bow_tight bz_p0_bow_tight p0_strikes c_p0_strikes b_p0_strikes p0_swings c_p0_swings b_p0_swings p1 f_p1 p1_laws f_p1_laws p1_laws_behind c_p1_laws_behind b_p1_laws_behind p1_laws_code c_p1_laws_code b_p1_laws_code p1_laws_stack c_p1_laws_stack bz_p1_laws_stack ho_fz_p0 fr_fz_p0_0 fr_fz_p0_1 fr_fz_p0_2 ho_fz_p0_bow fr_fz_p0_bow_0 fr_fz_p0_bow_1 hr_p0_strikes hr_p0_swings ho_p1 fr_p1_12 ho_p1_laws fr_p1_laws_0 fr_p1_laws_1 fr_p1_laws_2 hr_p1_laws_behind) rfl rfl (cwV 1 hts (p1_gV m_4 m_5 m_6 m_3 g_t_advance gz_t_advance) rfl rfl rfl (by decide +kernel) ⟨by decide, by decide⟩) (va_recv hK hP11 (ci := 6) (q0 := 0) rfl rfl) zm_t_advance rfl hl.1 rfl (Nat.le_of_ble_eq_true rfl) dX7_firstSlippingStep_14 ⟨by decide, by decide⟩ (fun r_13 H14 lo14 hG14 hS14 => ?_)
        obtain ⟨o_15, o_16, o_17, o_18, o_19, ho_20, hf_21, ho_22, hf_23, hQ14⟩ := hG14
        have hP14 : va_P (dC, dI) vwCl (zW_t_firstSlipping p0 o_15 p0_bow o_16 p0_bow_ends c_p0_bow_ends o_17 p0_bow_tight c_p0_bow_tight o_18 p0_strikes c_p0_strikes b_p0_strikes p0_swings c_p0_swings b_p0_swings p1 f_p1 p1_laws f_p1_laws p1_laws_behind c_p1_laws_behind b_p1_laws_behind p1_laws_code c_p1_laws_code b_p1_laws_code p1_laws_stack c_p1_laws_stack o_19 p1_once c_p1_once b_p1_once) H14 := hQ14
        clear hQ14 hP11 hS11
        refine lv_if_le (tgt := 22) hx hb dX7_firstSlippingStep_17 (by decide) (fun c_24 => ?_) (fun c_24 => ?_)
        · have tc_24 := q_le c_24
          obtain ⟨v_25, ev_25⟩ : ∃ y : Int32, y = st + 1 := ⟨_, rfl⟩
          have tv_25 := q_add ev_25 (by omega) (by omega)
          refine lv_iinc (v := v_25) (lv' := [(3, .int v_25), (0, .ref p0), (1, .ref p1), (2, .int a2)]) hx hb dX7_firstSlippingStep_22 hl (k := 0) rfl (by rw [ev_25]; rfl) (by decide) rfl (fun ls hl => ?_)
          refine lv_goto (tgt := 7) hx hb dX7_firstSlippingStep_25 (by decide) ?_
          exact ih7 (fu7 - 1) (by omega) v_25 o_15 o_16 o_17 o_18 o_19 _ _ _ (by omega) (by omega) ho_20 (hf_fz_p0.tr hf_21 (by decide)) (hf_21.u (by decide) fr_fz_p0_0) (hf_21.u (by decide) fr_fz_p0_1) (hf_21.u (by decide) fr_fz_p0_2) ho_22 (hf_fz_p0_bow.tr hf_23 (by decide)) (hf_23.u (by decide) fr_fz_p0_bow_0) (hf_23.u (by decide) fr_fz_p0_bow_1) hP14 hS14 (lv_sub hl [0, 1, 2, 3] rfl)
        · have tc_24 := q_gtN c_24
          refine lv_iload_n hx hb dX7_firstSlippingStep_20 rfl (lv_at hl 0 rfl) ?_
          exact q_iret hx hb hr hlocks hS14 dX7_firstSlippingStep_21 ⟨o_15, o_16, o_17, o_18, o_19, ho_20, (hf_fz_p0.tr hf_21 (by decide)), ho_22, (hf_fz_p0_bow.tr hf_23 (by decide)), hP14, za_t_firstSlipping⟩
  exact key7 500 1 o_3 o_4 o_5 o_6 b_p1_laws_stack _ _ _ (by omega) (by omega) ho_7 (q_fr.rf.tr hf_8 (by decide)) (hf_8.u (by decide) fr_p0_0) (hf_8.u (by decide) fr_p0_1) (hf_8.u (by decide) fr_p0_2) ho_9 (q_fr.rf.tr hf_10 (by decide)) (hf_10.u (by decide) fr_p0_bow_0) (hf_10.u (by decide) fr_p0_bow_1) hP2 hS2 (lv_sub hl [0, 1, 2, 3] rfl)
