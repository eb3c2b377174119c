def zo_t_most0 : List Cond := [.code yX5_most cX5_most 1 (some .int)]
def zw_t_most0 : List Cond := zo_t_most0 ++ []
theorem gz_t_most0 : zw_t_most0.all goodWord = true := p1_ga (by decide +kernel) p1_g0
theorem iz_t_most0 : ∀ w ∈ zw_t_most0, w ∈ lw_tbl := p1_ia (p1_all [612] (by decide +kernel)) p1_i0
def zW_t_most0 : va_W := []
def zT_t_most0 : List (ClassId × FieldType) := []
def zA_t_most0 : List Nat := []
theorem za_t_most0 : (zW_t_most0).map Prod.fst = zA_t_most0 := rfl
def zG_t_most0 (r : Int32) (X : va_W → Prop) : Prop := ((6) ≤ r.toInt ∧ r.toInt ≤ 6) ∧ X (zW_t_most0)
theorem zm_t_most0 : ∀ (r : Int32), ∀ X Y : va_W → Prop, (∀ w, X w → Y w) → zG_t_most0 r X → zG_t_most0 r Y := fun r X Y h h1 => by obtain ⟨x0, hx⟩ := h1; exact ⟨x0, h _ hx⟩
set_option maxHeartbeats 4000000 in
set_option maxRecDepth 100000 in
theorem t_most0 (l : Launch) (dC : Nat → ClassId) (dI : Nat → Nat → Nat) (sz : Nat) : Met l yX5_most zw_t_most0 ({ frames := 0, cells := 0, slots := 0, locals := 0 }) (va_Pc [.int 0] (q_pre (dC, dI) (zW_t_most0) (zT_t_most0) q_E0 sz)) (q_Qi (dC, dI) (zG_t_most0) zA_t_most0 (va_A (zW_t_most0) sz)) 0 0 (va_A (zW_t_most0) sz) := by
  refine Met.ofW (cc := cX5_most) (maxL := 1) (ret := (some .int)) (by decide) rfl ?_
  intro p e s m args below meth c s₁ B hml hv
  obtain ⟨rfl, hsz, hP, hK, hD0, hE⟩ := hv
  have hx := B.exec
  have hb := B.bytes
  have hr := B.returns
  have hts := atoms_spec (ws := zw_t_most0) B.pre
  have hown : s.vm.findClass RX5 = some m.cls := findClass_of_methodNamed B.named
  have hlocks := B.notSynchronized
  subst hsz
  have hD := hD0.self (sz := s.heap.size)
  generalize hAe : va_A (zW_t_most0) s.heap.size = A at hD hE ⊢
  have hA : ∀ q : Nat, s.heap.size ≤ q → A q := fun q h => by rw [← hAe]; exact Or.inr h
  have hDa : q_DA A zA_t_most0 := q_DA.mk hD za_t_most0
  clear hAe hD0 hD
  have hS : va_S A s.heap s.heap [] := va_S.rf
  have lt_6 : (6 : Int32).toInt = 6 := by decide
  have hl := lv_entry ([.int 0]) (n := 1) (Nat.le_of_ble_eq_true rfl)
  rw [lg_entry_eq]
  generalize (lg_sl ([.int 0]) ++ List.replicate (1 - (lg_sl ([.int 0])).length) Slot.unset).toArray = ls at hl ⊢
  have hl : lv_has ls 1 [(0, .int 0)] := hl
  refine lv_iload_n hx hb dX5_most_0 rfl (lv_at hl 0 rfl) ?_
  refine lv_tableIn (tgt := 32) (off := 31) hx hb dX5_most_1 (by decide) (by decide) (by decide) (by decide) ?_
  refine lv_bipush (v := 6) hx hb dX5_most_32 (by decide) ?_
  exact q_iret hx hb hr hlocks hS dX5_most_34 ⟨(by omega), hP, za_t_most0⟩
def zo_t_most1 : List Cond := [.code yX5_most cX5_most 1 (some .int)]
def zw_t_most1 : List Cond := zo_t_most1 ++ []
theorem gz_t_most1 : zw_t_most1.all goodWord = true := p1_ga (by decide +kernel) p1_g0
theorem iz_t_most1 : ∀ w ∈ zw_t_most1, w ∈ lw_tbl := p1_ia (p1_all [612] (by decide +kernel)) p1_i0
def zW_t_most1 : va_W := []
def zT_t_most1 : List (ClassId × FieldType) := []
def zA_t_most1 : List Nat := []
theorem za_t_most1 : (zW_t_most1).map Prod.fst = zA_t_most1 := rfl
def zG_t_most1 (r : Int32) (X : va_W → Prop) : Prop := ((4) ≤ r.toInt ∧ r.toInt ≤ 4) ∧ X (zW_t_most1)
theorem zm_t_most1 : ∀ (r : Int32), ∀ X Y : va_W → Prop, (∀ w, X w → Y w) → zG_t_most1 r X → zG_t_most1 r Y := fun r X Y h h1 => by obtain ⟨x0, hx⟩ := h1; exact ⟨x0, h _ hx⟩
set_option maxHeartbeats 4000000 in
set_option maxRecDepth 100000 in
theorem t_most1 (l : Launch) (dC : Nat → ClassId) (dI : Nat → Nat → Nat) (sz : Nat) : Met l yX5_most zw_t_most1 ({ frames := 0, cells := 0, slots := 0, locals := 0 }) (va_Pc [.int 1] (q_pre (dC, dI) (zW_t_most1) (zT_t_most1) q_E0 sz)) (q_Qi (dC, dI) (zG_t_most1) zA_t_most1 (va_A (zW_t_most1) sz)) 0 0 (va_A (zW_t_most1) sz) := by
  refine Met.ofW (cc := cX5_most) (maxL := 1) (ret := (some .int)) (by decide) rfl ?_
  intro p e s m args below meth c s₁ B hml hv
  obtain ⟨rfl, hsz, hP, hK, hD0, hE⟩ := hv
  have hx := B.exec
  have hb := B.bytes
  have hr := B.returns
  have hts := atoms_spec (ws := zw_t_most1) B.pre
  have hown : s.vm.findClass RX5 = some m.cls := findClass_of_methodNamed B.named
  have hlocks := B.notSynchronized
  subst hsz
  have hD := hD0.self (sz := s.heap.size)
  generalize hAe : va_A (zW_t_most1) s.heap.size = A at hD hE ⊢
  have hA : ∀ q : Nat, s.heap.size ≤ q → A q := fun q h => by rw [← hAe]; exact Or.inr h
  have hDa : q_DA A zA_t_most1 := q_DA.mk hD za_t_most1
  clear hAe hD0 hD
  have hS : va_S A s.heap s.heap [] := va_S.rf
  have lt_4 : (4 : Int32).toInt = 4 := by decide
  have hl := lv_entry ([.int 1]) (n := 1) (Nat.le_of_ble_eq_true rfl)
  rw [lg_entry_eq]
  generalize (lg_sl ([.int 1]) ++ List.replicate (1 - (lg_sl ([.int 1])).length) Slot.unset).toArray = ls at hl ⊢
  have hl : lv_has ls 1 [(0, .int 1)] := hl
  refine lv_iload_n hx hb dX5_most_0 rfl (lv_at hl 0 rfl) ?_
  refine lv_tableIn (tgt := 35) (off := 34) hx hb dX5_most_1 (by decide) (by decide) (by decide) (by decide) ?_
  refine lv_iconst (v := 4) hx hb dX5_most_35 (by decide) ?_
  exact q_iret hx hb hr hlocks hS dX5_most_36 ⟨(by omega), hP, za_t_most1⟩
def zo_t_most2 : List Cond := [.code yX5_most cX5_most 1 (some .int)]
def zw_t_most2 : List Cond := zo_t_most2 ++ []
theorem gz_t_most2 : zw_t_most2.all goodWord = true := p1_ga (by decide +kernel) p1_g0
theorem iz_t_most2 : ∀ w ∈ zw_t_most2, w ∈ lw_tbl := p1_ia (p1_all [612] (by decide +kernel)) p1_i0
def zW_t_most2 : va_W := []
def zT_t_most2 : List (ClassId × FieldType) := []
def zA_t_most2 : List Nat := []
theorem za_t_most2 : (zW_t_most2).map Prod.fst = zA_t_most2 := rfl
def zG_t_most2 (r : Int32) (X : va_W → Prop) : Prop := ((4) ≤ r.toInt ∧ r.toInt ≤ 4) ∧ X (zW_t_most2)
theorem zm_t_most2 : ∀ (r : Int32), ∀ X Y : va_W → Prop, (∀ w, X w → Y w) → zG_t_most2 r X → zG_t_most2 r Y := fun r X Y h h1 => by obtain ⟨x0, hx⟩ := h1; exact ⟨x0, h _ hx⟩
set_option maxHeartbeats 4000000 in
set_option maxRecDepth 100000 in
theorem t_most2 (l : Launch) (dC : Nat → ClassId) (dI : Nat → Nat → Nat) (sz : Nat) : Met l yX5_most zw_t_most2 ({ frames := 0, cells := 0, slots := 0, locals := 0 }) (va_Pc [.int 2] (q_pre (dC, dI) (zW_t_most2) (zT_t_most2) q_E0 sz)) (q_Qi (dC, dI) (zG_t_most2) zA_t_most2 (va_A (zW_t_most2) sz)) 0 0 (va_A (zW_t_most2) sz) := by
  refine Met.ofW (cc := cX5_most) (maxL := 1) (ret := (some .int)) (by decide) rfl ?_
  intro p e s m args below meth c s₁ B hml hv
  obtain ⟨rfl, hsz, hP, hK, hD0, hE⟩ := hv
  have hx := B.exec
  have hb := B.bytes
  have hr := B.returns
  have hts := atoms_spec (ws := zw_t_most2) B.pre
  have hown : s.vm.findClass RX5 = some m.cls := findClass_of_methodNamed B.named
  have hlocks := B.notSynchronized
  subst hsz
  have hD := hD0.self (sz := s.heap.size)
  generalize hAe : va_A (zW_t_most2) s.heap.size = A at hD hE ⊢
  have hA : ∀ q : Nat, s.heap.size ≤ q → A q := fun q h => by rw [← hAe]; exact Or.inr h
  have hDa : q_DA A zA_t_most2 := q_DA.mk hD za_t_most2
  clear hAe hD0 hD
  have hS : va_S A s.heap s.heap [] := va_S.rf
  have lt_4 : (4 : Int32).toInt = 4 := by decide
  have hl := lv_entry ([.int 2]) (n := 1) (Nat.le_of_ble_eq_true rfl)
  rw [lg_entry_eq]
  generalize (lg_sl ([.int 2]) ++ List.replicate (1 - (lg_sl ([.int 2])).length) Slot.unset).toArray = ls at hl ⊢
  have hl : lv_has ls 1 [(0, .int 2)] := hl
  refine lv_iload_n hx hb dX5_most_0 rfl (lv_at hl 0 rfl) ?_
  refine lv_tableIn (tgt := 37) (off := 36) hx hb dX5_most_1 (by decide) (by decide) (by decide) (by decide) ?_
  refine lv_iconst (v := 4) hx hb dX5_most_37 (by decide) ?_
  exact q_iret hx hb hr hlocks hS dX5_most_38 ⟨(by omega), hP, za_t_most2⟩
def zo_t_most3 : List Cond := [.code yX5_most cX5_most 1 (some .int)]
def zw_t_most3 : List Cond := zo_t_most3 ++ []
theorem gz_t_most3 : zw_t_most3.all goodWord = true := p1_ga (by decide +kernel) p1_g0
theorem iz_t_most3 : ∀ w ∈ zw_t_most3, w ∈ lw_tbl := p1_ia (p1_all [612] (by decide +kernel)) p1_i0
def zW_t_most3 : va_W := []
def zT_t_most3 : List (ClassId × FieldType) := []
def zA_t_most3 : List Nat := []
theorem za_t_most3 : (zW_t_most3).map Prod.fst = zA_t_most3 := rfl
def zG_t_most3 (r : Int32) (X : va_W → Prop) : Prop := ((3) ≤ r.toInt ∧ r.toInt ≤ 3) ∧ X (zW_t_most3)
theorem zm_t_most3 : ∀ (r : Int32), ∀ X Y : va_W → Prop, (∀ w, X w → Y w) → zG_t_most3 r X → zG_t_most3 r Y := fun r X Y h h1 => by obtain ⟨x0, hx⟩ := h1; exact ⟨x0, h _ hx⟩
set_option maxHeartbeats 4000000 in
set_option maxRecDepth 100000 in
theorem t_most3 (l : Launch) (dC : Nat → ClassId) (dI : Nat → Nat → Nat) (sz : Nat) : Met l yX5_most zw_t_most3 ({ frames := 0, cells := 0, slots := 0, locals := 0 }) (va_Pc [.int 3] (q_pre (dC, dI) (zW_t_most3) (zT_t_most3) q_E0 sz)) (q_Qi (dC, dI) (zG_t_most3) zA_t_most3 (va_A (zW_t_most3) sz)) 0 0 (va_A (zW_t_most3) sz) := by
  refine Met.ofW (cc := cX5_most) (maxL := 1) (ret := (some .int)) (by decide) rfl ?_
  intro p e s m args below meth c s₁ B hml hv
  obtain ⟨rfl, hsz, hP, hK, hD0, hE⟩ := hv
  have hx := B.exec
  have hb := B.bytes
  have hr := B.returns
  have hts := atoms_spec (ws := zw_t_most3) B.pre
  have hown : s.vm.findClass RX5 = some m.cls := findClass_of_methodNamed B.named
  have hlocks := B.notSynchronized
  subst hsz
  have hD := hD0.self (sz := s.heap.size)
  generalize hAe : va_A (zW_t_most3) s.heap.size = A at hD hE ⊢
  have hA : ∀ q : Nat, s.heap.size ≤ q → A q := fun q h => by rw [← hAe]; exact Or.inr h
  have hDa : q_DA A zA_t_most3 := q_DA.mk hD za_t_most3
  clear hAe hD0 hD
  have hS : va_S A s.heap s.heap [] := va_S.rf
  have lt_3 : (3 : Int32).toInt = 3 := by decide
  have hl := lv_entry ([.int 3]) (n := 1) (Nat.le_of_ble_eq_true rfl)
  rw [lg_entry_eq]
  generalize (lg_sl ([.int 3]) ++ List.replicate (1 - (lg_sl ([.int 3])).length) Slot.unset).toArray = ls at hl ⊢
  have hl : lv_has ls 1 [(0, .int 3)] := hl
  refine lv_iload_n hx hb dX5_most_0 rfl (lv_at hl 0 rfl) ?_
  refine lv_tableIn (tgt := 39) (off := 38) hx hb dX5_most_1 (by decide) (by decide) (by decide) (by decide) ?_
  refine lv_iconst (v := 3) hx hb dX5_most_39 (by decide) ?_
  exact q_iret hx hb hr hlocks hS dX5_most_40 ⟨(by omega), hP, za_t_most3⟩
def zo_t_most4 : List Cond := [.code yX5_most cX5_most 1 (some .int)]
def zw_t_most4 : List Cond := zo_t_most4 ++ []
theorem gz_t_most4 : zw_t_most4.all goodWord = true := p1_ga (by decide +kernel) p1_g0
theorem iz_t_most4 : ∀ w ∈ zw_t_most4, w ∈ lw_tbl := p1_ia (p1_all [612] (by decide +kernel)) p1_i0
def zW_t_most4 : va_W := []
def zT_t_most4 : List (ClassId × FieldType) := []
def zA_t_most4 : List Nat := []
theorem za_t_most4 : (zW_t_most4).map Prod.fst = zA_t_most4 := rfl
def zG_t_most4 (r : Int32) (X : va_W → Prop) : Prop := ((4) ≤ r.toInt ∧ r.toInt ≤ 4) ∧ X (zW_t_most4)
theorem zm_t_most4 : ∀ (r : Int32), ∀ X Y : va_W → Prop, (∀ w, X w → Y w) → zG_t_most4 r X → zG_t_most4 r Y := fun r X Y h h1 => by obtain ⟨x0, hx⟩ := h1; exact ⟨x0, h _ hx⟩
set_option maxHeartbeats 4000000 in
set_option maxRecDepth 100000 in
theorem t_most4 (l : Launch) (dC : Nat → ClassId) (dI : Nat → Nat → Nat) (sz : Nat) : Met l yX5_most zw_t_most4 ({ frames := 0, cells := 0, slots := 0, locals := 0 }) (va_Pc [.int 4] (q_pre (dC, dI) (zW_t_most4) (zT_t_most4) q_E0 sz)) (q_Qi (dC, dI) (zG_t_most4) zA_t_most4 (va_A (zW_t_most4) sz)) 0 0 (va_A (zW_t_most4) sz) := by
  refine Met.ofW (cc := cX5_most) (maxL := 1) (ret := (some .int)) (by decide) rfl ?_
  intro p e s m args below meth c s₁ B hml hv
  obtain ⟨rfl, hsz, hP, hK, hD0, hE⟩ := hv
  have hx := B.exec
  have hb := B.bytes
  have hr := B.returns
  have hts := atoms_spec (ws := zw_t_most4) B.pre
  have hown : s.vm.findClass RX5 = some m.cls := findClass_of_methodNamed B.named
  have hlocks := B.notSynchronized
  subst hsz
  have hD := hD0.self (sz := s.heap.size)
  generalize hAe : va_A (zW_t_most4) s.heap.size = A at hD hE ⊢
  have hA : ∀ q : Nat, s.heap.size ≤ q → A q := fun q h => by rw [← hAe]; exact Or.inr h
  have hDa : q_DA A zA_t_most4 := q_DA.mk hD za_t_most4
  clear hAe hD0 hD
  have hS : va_S A s.heap s.heap [] := va_S.rf
  have lt_4 : (4 : Int32).toInt = 4 := by decide
  have hl := lv_entry ([.int 4]) (n := 1) (Nat.le_of_ble_eq_true rfl)
  rw [lg_entry_eq]
  generalize (lg_sl ([.int 4]) ++ List.replicate (1 - (lg_sl ([.int 4])).length) Slot.unset).toArray = ls at hl ⊢
  have hl : lv_has ls 1 [(0, .int 4)] := hl
  refine lv_iload_n hx hb dX5_most_0 rfl (lv_at hl 0 rfl) ?_
  refine lv_tableOut (tgt := 41) hx hb dX5_most_1 (by decide) (by decide) ?_
  refine lv_iconst (v := 4) hx hb dX5_most_41 (by decide) ?_
  exact q_iret hx hb hr hlocks hS dX5_most_42 ⟨(by omega), hP, za_t_most4⟩
def zo_t_beginNamed0 : List Cond := [.code yX4_beginNamed cX4_beginNamed 3 (some .boolean), .fieldLink RX4 44 "BowWalk$Reader" "draft" "LBowWalk$Shop;", .fieldLink RX4 85 "BowWalk$Shop" "count" "[I", .methodLink RX4 158 yX5_most, .static yX5_most, .initialized RX5, .methodLink RX4 78 yX4_step, .instanceMethod yX4_step, .selects RX4 yX4_step yX4_step, .initialized RX4, .fieldLink RX4 28 "BowWalk$Reader" "token" "I", .fieldLink RX4 37 "BowWalk$Reader" "word" "J", .methodLink RX4 162 yX5_isNamed, .instanceMethod yX5_isNamed, .selects RX5 yX5_isNamed yX5_isNamed, .methodLink RX4 124 yX4_refuse, .instanceMethod yX4_refuse, .selects RX4 yX4_refuse yX4_refuse, .fieldLink RX4 166 "BowWalk$Shop" "names" "[[J"]
def zw_t_beginNamed0 : List Cond := zo_t_beginNamed0 ++ (zw_t_most0 ++ (zw_t_step ++ (zw_t_isNamed0 ++ (zw_t_refuse ++ (wsX40 ++ (wsX50 ++ []))))))
theorem gz_t_beginNamed0 : zw_t_beginNamed0.all goodWord = true := p1_ga (by decide +kernel) (p1_ga gz_t_most0 (p1_ga gz_t_step (p1_ga gz_t_isNamed0 (p1_ga gz_t_refuse (p1_ga gk_X4 (p1_ga gk_X5 p1_g0))))))
theorem iz_t_beginNamed0 : ∀ w ∈ zw_t_beginNamed0, w ∈ lw_tbl := p1_ia (p1_all [609, 315, 175, 610, 611, 106, 573, 575, 1, 105, 311, 314, 617, 618, 619, 613, 615, 7, 178] (by decide +kernel)) (p1_ia iz_t_most0 (p1_ia iz_t_step (p1_ia iz_t_isNamed0 (p1_ia iz_t_refuse (p1_ia ik_X4 (p1_ia ik_X5 p1_i0))))))
def zW_t_beginNamed0 (p0 : Nat) (f_p0 : List Value) (p0_draft : Nat) (f_p0_draft : List Value) (p0_draft_count : Nat) (c_p0_draft_count : ClassId) (b_p0_draft_count : Nat → Int32) (p0_draft_names : Nat) (c_p0_draft_names : ClassId) (b_p0_draft_names : Nat → Option Nat) (p0_draft_names_0 : Nat) (c_p0_draft_names_0 : ClassId) (b_p0_draft_names_0 : Nat → Int64) (p0_draft_names_1 : Nat) (c_p0_draft_names_1 : ClassId) (b_p0_draft_names_1 : Nat → Int64) (p0_draft_names_2 : Nat) (c_p0_draft_names_2 : ClassId) (b_p0_draft_names_2 : Nat → Int64) (p0_draft_names_3 : Nat) (c_p0_draft_names_3 : ClassId) (b_p0_draft_names_3 : Nat → Int64) (p0_draft_names_4 : Nat) (c_p0_draft_names_4 : ClassId) (b_p0_draft_names_4 : Nat → Int64) (p0_text : Nat) (c_p0_text : ClassId) (b_p0_text : Nat → Int32) (p0_words : Nat) (c_p0_words : ClassId) (b_p0_words : Nat → Int64) : va_W := [(p0, .inr (4, f_p0)), (p0_draft, .inr (5, f_p0_draft)), (p0_draft_count, .inl (c_p0_draft_count, 5, .inl b_p0_draft_count)), (p0_draft_names, .inl (c_p0_draft_names, 5, .inr (.inr (.inr (.inr b_p0_draft_names))))), (p0_draft_names_0, .inl (c_p0_draft_names_0, 6, .inr (.inl b_p0_draft_names_0))), (p0_draft_names_1, .inl (c_p0_draft_names_1, 6, .inr (.inl b_p0_draft_names_1))), (p0_draft_names_2, .inl (c_p0_draft_names_2, 6, .inr (.inl b_p0_draft_names_2))), (p0_draft_names_3, .inl (c_p0_draft_names_3, 6, .inr (.inl b_p0_draft_names_3))), (p0_draft_names_4, .inl (c_p0_draft_names_4, 6, .inr (.inl b_p0_draft_names_4))), (p0_text, .inl (c_p0_text, 1600, .inl b_p0_text)), (p0_words, .inl (c_p0_words, 22, .inr (.inl b_p0_words)))]
def zT_t_beginNamed0 (c_p0_draft_count : ClassId) (c_p0_draft_names : ClassId) (c_p0_draft_names_0 : ClassId) (c_p0_draft_names_1 : ClassId) (c_p0_draft_names_2 : ClassId) (c_p0_draft_names_3 : ClassId) (c_p0_draft_names_4 : ClassId) (c_p0_text : ClassId) (c_p0_words : ClassId) : List (ClassId × FieldType) := [(c_p0_draft_count, .int), (c_p0_draft_names, .array .long), (c_p0_draft_names_0, .long), (c_p0_draft_names_1, .long), (c_p0_draft_names_2, .long), (c_p0_draft_names_3, .long), (c_p0_draft_names_4, .long), (c_p0_text, .byte), (c_p0_words, .long)]
def zA_t_beginNamed0 (p0 : Nat) (p0_draft : Nat) (p0_draft_count : Nat) (p0_draft_names : Nat) (p0_draft_names_0 : Nat) (p0_draft_names_1 : Nat) (p0_draft_names_2 : Nat) (p0_draft_names_3 : Nat) (p0_draft_names_4 : Nat) (p0_text : Nat) (p0_words : Nat) : List Nat := [p0, p0_draft, p0_draft_count, p0_draft_names, p0_draft_names_0, p0_draft_names_1, p0_draft_names_2, p0_draft_names_3, p0_draft_names_4, p0_text, p0_words]
theorem za_t_beginNamed0 {p0 : Nat} {f_p0 : List Value} {p0_draft : Nat} {f_p0_draft : List Value} {p0_draft_count : Nat} {c_p0_draft_count : ClassId} {b_p0_draft_count : Nat → Int32} {p0_draft_names : Nat} {c_p0_draft_names : ClassId} {b_p0_draft_names : Nat → Option Nat} {p0_draft_names_0 : Nat} {c_p0_draft_names_0 : ClassId} {b_p0_draft_names_0 : Nat → Int64} {p0_draft_names_1 : Nat} {c_p0_draft_names_1 : ClassId} {b_p0_draft_names_1 : Nat → Int64} {p0_draft_names_2 : Nat} {c_p0_draft_names_2 : ClassId} {b_p0_draft_names_2 : Nat → Int64} {p0_draft_names_3 : Nat} {c_p0_draft_names_3 : ClassId} {b_p0_draft_names_3 : Nat → Int64} {p0_draft_names_4 : Nat} {c_p0_draft_names_4 : ClassId} {b_p0_draft_names_4 : Nat → Int64} {p0_text : Nat} {c_p0_text : ClassId} {b_p0_text : Nat → Int32} {p0_words : Nat} {c_p0_words : ClassId} {b_p0_words : Nat → Int64} : (zW_t_beginNamed0 p0 f_p0 p0_draft f_p0_draft p0_draft_count c_p0_draft_count b_p0_draft_count p0_draft_names c_p0_draft_names b_p0_draft_names p0_draft_names_0 c_p0_draft_names_0 b_p0_draft_names_0 p0_draft_names_1 c_p0_draft_names_1 b_p0_draft_names_1 p0_draft_names_2 c_p0_draft_names_2 b_p0_draft_names_2 p0_draft_names_3 c_p0_draft_names_3 b_p0_draft_names_3 p0_draft_names_4 c_p0_draft_names_4 b_p0_draft_names_4 p0_text c_p0_text b_p0_text p0_words c_p0_words b_p0_words).map Prod.fst = (zA_t_beginNamed0 p0 p0_draft p0_draft_count p0_draft_names p0_draft_names_0 p0_draft_names_1 p0_draft_names_2 p0_draft_names_3 p0_draft_names_4 p0_text p0_words) := rfl
def zG_t_beginNamed0 (p0 : Nat) (f_p0 : List Value) (p0_draft : Nat) (f_p0_draft : List Value) (p0_draft_count : Nat) (c_p0_draft_count : ClassId) (b_p0_draft_count : Nat → Int32) (p0_draft_names : Nat) (c_p0_draft_names : ClassId) (b_p0_draft_names : Nat → Option Nat) (p0_draft_names_0 : Nat) (c_p0_draft_names_0 : ClassId) (b_p0_draft_names_0 : Nat → Int64) (p0_draft_names_1 : Nat) (c_p0_draft_names_1 : ClassId) (b_p0_draft_names_1 : Nat → Int64) (p0_draft_names_2 : Nat) (c_p0_draft_names_2 : ClassId) (b_p0_draft_names_2 : Nat → Int64) (p0_draft_names_3 : Nat) (c_p0_draft_names_3 : ClassId) (b_p0_draft_names_3 : Nat → Int64) (p0_draft_names_4 : Nat) (c_p0_draft_names_4 : ClassId) (b_p0_draft_names_4 : Nat → Int64) (p0_text : Nat) (c_p0_text : ClassId) (b_p0_text : Nat → Int32) (p0_words : Nat) (c_p0_words : ClassId) (b_p0_words : Nat → Int64) (r : Int32) (X : va_W → Prop) : Prop := ∃ (y_p0 : List Value) (y_p0_draft_names_0 : Nat → Int64) (y_p0_draft_names_1 : Nat → Int64) (y_p0_draft_names_2 : Nat → Int64) (y_p0_draft_names_3 : Nat → Int64) (y_p0_draft_names_4 : Nat → Int64), ((r = 1 ∧ ((b_p0_draft_count (0 : Int32).toNatClampNeg).toInt ≤ 5)) ∨ (r = 0 ∧ (True))) ∧ OKX4 y_p0 ∧ q_fr [3, 4, 5, 6, 7, 9, 10] f_p0 y_p0 ∧ X (zW_t_beginNamed0 p0 y_p0 p0_draft f_p0_draft p0_draft_count c_p0_draft_count b_p0_draft_count p0_draft_names c_p0_draft_names b_p0_draft_names p0_draft_names_0 c_p0_draft_names_0 y_p0_draft_names_0 p0_draft_names_1 c_p0_draft_names_1 y_p0_draft_names_1 p0_draft_names_2 c_p0_draft_names_2 y_p0_draft_names_2 p0_draft_names_3 c_p0_draft_names_3 y_p0_draft_names_3 p0_draft_names_4 c_p0_draft_names_4 y_p0_draft_names_4 p0_text c_p0_text b_p0_text p0_words c_p0_words b_p0_words)
theorem zm_t_beginNamed0 {p0 : Nat} {f_p0 : List Value} {p0_draft : Nat} {f_p0_draft : List Value} {p0_draft_count : Nat} {c_p0_draft_count : ClassId} {b_p0_draft_count : Nat → Int32} {p0_draft_names : Nat} {c_p0_draft_names : ClassId} {b_p0_draft_names : Nat → Option Nat} {p0_draft_names_0 : Nat} {c_p0_draft_names_0 : ClassId} {b_p0_draft_names_0 : Nat → Int64} {p0_draft_names_1 : Nat} {c_p0_draft_names_1 : ClassId} {b_p0_draft_names_1 : Nat → Int64} {p0_draft_names_2 : Nat} {c_p0_draft_names_2 : ClassId} {b_p0_draft_names_2 : Nat → Int64} {p0_draft_names_3 : Nat} {c_p0_draft_names_3 : ClassId} {b_p0_draft_names_3 : Nat → Int64} {p0_draft_names_4 : Nat} {c_p0_draft_names_4 : ClassId} {b_p0_draft_names_4 : Nat → Int64} {p0_text : Nat} {c_p0_text : ClassId} {b_p0_text : Nat → Int32} {p0_words : Nat} {c_p0_words : ClassId} {b_p0_words : Nat → Int64} : ∀ (r : Int32), ∀ X Y : va_W → Prop, (∀ w, X w → Y w) → zG_t_beginNamed0 p0 f_p0 p0_draft f_p0_draft p0_draft_count c_p0_draft_count b_p0_draft_count p0_draft_names c_p0_draft_names b_p0_draft_names p0_draft_names_0 c_p0_draft_names_0 b_p0_draft_names_0 p0_draft_names_1 c_p0_draft_names_1 b_p0_draft_names_1 p0_draft_names_2 c_p0_draft_names_2 b_p0_draft_names_2 p0_draft_names_3 c_p0_draft_names_3 b_p0_draft_names_3 p0_draft_names_4 c_p0_draft_names_4 b_p0_draft_names_4 p0_text c_p0_text b_p0_text p0_words c_p0_words b_p0_words r X → zG_t_beginNamed0 p0 f_p0 p0_draft f_p0_draft p0_draft_count c_p0_draft_count b_p0_draft_count p0_draft_names c_p0_draft_names b_p0_draft_names p0_draft_names_0 c_p0_draft_names_0 b_p0_draft_names_0 p0_draft_names_1 c_p0_draft_names_1 b_p0_draft_names_1 p0_draft_names_2 c_p0_draft_names_2 b_p0_draft_names_2 p0_draft_names_3 c_p0_draft_names_3 b_p0_draft_names_3 p0_draft_names_4 c_p0_draft_names_4 b_p0_draft_names_4 p0_text c_p0_text b_p0_text p0_words c_p0_words b_p0_words r Y := fun r X Y h h1 => by obtain ⟨x0, x1, x2, x3, x4, x5, x6, x7, x8, hx⟩ := h1; exact ⟨x0, x1, x2, x3, x4, x5, x6, x7, x8, h _ hx⟩
set_option maxHeartbeats 4000000 in
set_option maxRecDepth 100000 in
theorem t_beginNamed0 (l : Launch) (dC : Nat → ClassId) (dI : Nat → Nat → Nat) (sz : Nat) (p0 : Nat) (f_p0 : List Value) (p0_draft : Nat) (f_p0_draft : List Value) (p0_draft_count : Nat) (c_p0_draft_count : ClassId) (b_p0_draft_count : Nat → Int32) (p0_draft_names : Nat) (c_p0_draft_names : ClassId) (b_p0_draft_names : Nat → Option Nat) (p0_draft_names_0 : Nat) (c_p0_draft_names_0 : ClassId) (b_p0_draft_names_0 : Nat → Int64) (p0_draft_names_1 : Nat) (c_p0_draft_names_1 : ClassId) (b_p0_draft_names_1 : Nat → Int64) (p0_draft_names_2 : Nat) (c_p0_draft_names_2 : ClassId) (b_p0_draft_names_2 : Nat → Int64) (p0_draft_names_3 : Nat) (c_p0_draft_names_3 : ClassId) (b_p0_draft_names_3 : Nat → Int64) (p0_draft_names_4 : Nat) (c_p0_draft_names_4 : ClassId) (b_p0_draft_names_4 : Nat → Int64) (p0_text : Nat) (c_p0_text : ClassId) (b_p0_text : Nat → Int32) (p0_words : Nat) (c_p0_words : ClassId) (b_p0_words : Nat → Int64) (ho_p0 : OKX4 f_p0) (fr_p0_0 : q_rf f_p0 0 p0_words) (fr_p0_1 : q_rf f_p0 1 p0_text) (fr_p0_8 : q_rf f_p0 8 p0_draft) (ho_p0_draft : OKX5 f_p0_draft) (fr_p0_draft_0 : q_rf f_p0_draft 0 p0_draft_count) (fr_p0_draft_1 : q_rf f_p0_draft 1 p0_draft_names) (hr_p0_draft_count : q_cnt b_p0_draft_count) (hn_p0_draft_names_0 : b_p0_draft_names 0 = some p0_draft_names_0) (hn_p0_draft_names_1 : b_p0_draft_names 1 = some p0_draft_names_1) (hn_p0_draft_names_2 : b_p0_draft_names 2 = some p0_draft_names_2) (hn_p0_draft_names_3 : b_p0_draft_names 3 = some p0_draft_names_3) (hn_p0_draft_names_4 : b_p0_draft_names 4 = some p0_draft_names_4) : Met l yX4_beginNamed zw_t_beginNamed0 ({ frames := 6, cells := 0, slots := 0, locals := 126 }) (va_Pc [.ref p0, .int 0] (q_pre (dC, dI) (zW_t_beginNamed0 p0 f_p0 p0_draft f_p0_draft p0_draft_count c_p0_draft_count b_p0_draft_count p0_draft_names c_p0_draft_names b_p0_draft_names p0_draft_names_0 c_p0_draft_names_0 b_p0_draft_names_0 p0_draft_names_1 c_p0_draft_names_1 b_p0_draft_names_1 p0_draft_names_2 c_p0_draft_names_2 b_p0_draft_names_2 p0_draft_names_3 c_p0_draft_names_3 b_p0_draft_names_3 p0_draft_names_4 c_p0_draft_names_4 b_p0_draft_names_4 p0_text c_p0_text b_p0_text p0_words c_p0_words b_p0_words) (zT_t_beginNamed0 c_p0_draft_count c_p0_draft_names c_p0_draft_names_0 c_p0_draft_names_1 c_p0_draft_names_2 c_p0_draft_names_3 c_p0_draft_names_4 c_p0_text c_p0_words) q_ex sz)) (q_Qi (dC, dI) (zG_t_beginNamed0 p0 f_p0 p0_draft f_p0_draft p0_draft_count c_p0_draft_count b_p0_draft_count p0_draft_names c_p0_draft_names b_p0_draft_names p0_draft_names_0 c_p0_draft_names_0 b_p0_draft_names_0 p0_draft_names_1 c_p0_draft_names_1 b_p0_draft_names_1 p0_draft_names_2 c_p0_draft_names_2 b_p0_draft_names_2 p0_draft_names_3 c_p0_draft_names_3 b_p0_draft_names_3 p0_draft_names_4 c_p0_draft_names_4 b_p0_draft_names_4 p0_text c_p0_text b_p0_text p0_words c_p0_words b_p0_words) (zA_t_beginNamed0 p0 p0_draft p0_draft_count p0_draft_names p0_draft_names_0 p0_draft_names_1 p0_draft_names_2 p0_draft_names_3 p0_draft_names_4 p0_text p0_words) (va_A (zW_t_beginNamed0 p0 f_p0 p0_draft f_p0_draft p0_draft_count c_p0_draft_count b_p0_draft_count p0_draft_names c_p0_draft_names b_p0_draft_names p0_draft_names_0 c_p0_draft_names_0 b_p0_draft_names_0 p0_draft_names_1 c_p0_draft_names_1 b_p0_draft_names_1 p0_draft_names_2 c_p0_draft_names_2 b_p0_draft_names_2 p0_draft_names_3 c_p0_draft_names_3 b_p0_draft_names_3 p0_draft_names_4 c_p0_draft_names_4 b_p0_draft_names_4 p0_text c_p0_text b_p0_text p0_words c_p0_words b_p0_words) sz)) 0 0 (va_A (zW_t_beginNamed0 p0 f_p0 p0_draft f_p0_draft p0_draft_count c_p0_draft_count b_p0_draft_count p0_draft_names c_p0_draft_names b_p0_draft_names p0_draft_names_0 c_p0_draft_names_0 b_p0_draft_names_0 p0_draft_names_1 c_p0_draft_names_1 b_p0_draft_names_1 p0_draft_names_2 c_p0_draft_names_2 b_p0_draft_names_2 p0_draft_names_3 c_p0_draft_names_3 b_p0_draft_names_3 p0_draft_names_4 c_p0_draft_names_4 b_p0_draft_names_4 p0_text c_p0_text b_p0_text p0_words c_p0_words b_p0_words) sz) := by
  refine Met.ofW (cc := cX4_beginNamed) (maxL := 3) (ret := (some .boolean)) (by decide) rfl ?_
  intro p e s m args below meth c s₁ B hml hv
  obtain ⟨rfl, hsz, hP, hK, hD0, hE⟩ := hv
  have hx := B.exec
  have hb := B.bytes
  have hr := B.returns
  have hts := atoms_spec (ws := zw_t_beginNamed0) B.pre
  have hown : s.vm.findClass RX4 = some m.cls := findClass_of_methodNamed B.named
  have hlocks := B.notSynchronized
  subst hsz
  have hD := hD0.self (sz := s.heap.size)
  generalize hAe : va_A (zW_t_beginNamed0 p0 f_p0 p0_draft f_p0_draft p0_draft_count c_p0_draft_count b_p0_draft_count p0_draft_names c_p0_draft_names b_p0_draft_names p0_draft_names_0 c_p0_draft_names_0 b_p0_draft_names_0 p0_draft_names_1 c_p0_draft_names_1 b_p0_draft_names_1 p0_draft_names_2 c_p0_draft_names_2 b_p0_draft_names_2 p0_draft_names_3 c_p0_draft_names_3 b_p0_draft_names_3 p0_draft_names_4 c_p0_draft_names_4 b_p0_draft_names_4 p0_text c_p0_text b_p0_text p0_words c_p0_words b_p0_words) s.heap.size = A at hD hE ⊢
  have hA : ∀ q : Nat, s.heap.size ≤ q → A q := fun q h => by rw [← hAe]; exact Or.inr h
  have hDa : q_DA A (zA_t_beginNamed0 p0 p0_draft p0_draft_count p0_draft_names p0_draft_names_0 p0_draft_names_1 p0_draft_names_2 p0_draft_names_3 p0_draft_names_4 p0_text p0_words) := q_DA.mk hD za_t_beginNamed0
  clear hAe hD0 hD
  have hS : va_S A s.heap s.heap [] := va_S.rf
  have m_0 : (.fieldLink RX4 44 "BowWalk$Reader" "draft" "LBowWalk$Shop;" : Cond) ∈ zw_t_beginNamed0 := List.mem_append_left _ (List.mem_of_getElem? (i := 1) rfl)
  have k_0 := hts _ m_0
  have m_1 : (.fieldLink RX4 85 "BowWalk$Shop" "count" "[I" : Cond) ∈ zw_t_beginNamed0 := List.mem_append_left _ (List.mem_of_getElem? (i := 2) rfl)
  have k_1 := hts _ m_1
  have m_2 : (.methodLink RX4 158 yX5_most : Cond) ∈ zw_t_beginNamed0 := List.mem_append_left _ (List.mem_of_getElem? (i := 3) rfl)
  have k_2 := hts _ m_2
  have m_3 : (.static yX5_most : Cond) ∈ zw_t_beginNamed0 := List.mem_append_left _ (List.mem_of_getElem? (i := 4) rfl)
  have k_3 := hts _ m_3
  have m_4 : (.initialized RX5 : Cond) ∈ zw_t_beginNamed0 := List.mem_append_left _ (List.mem_of_getElem? (i := 5) rfl)
  have k_4 := hts _ m_4
  have m_5 : (.methodLink RX4 78 yX4_step : Cond) ∈ zw_t_beginNamed0 := List.mem_append_left _ (List.mem_of_getElem? (i := 6) rfl)
  have k_5 := hts _ m_5
  have m_6 : (.instanceMethod yX4_step : Cond) ∈ zw_t_beginNamed0 := List.mem_append_left _ (List.mem_of_getElem? (i := 7) rfl)
  have k_6 := hts _ m_6
  have m_7 : (.selects RX4 yX4_step yX4_step : Cond) ∈ zw_t_beginNamed0 := List.mem_append_left _ (List.mem_of_getElem? (i := 8) rfl)
  have k_7 := hts _ m_7
  have m_8 : (.initialized RX4 : Cond) ∈ zw_t_beginNamed0 := List.mem_append_left _ (List.mem_of_getElem? (i := 9) rfl)
  have k_8 := hts _ m_8
  have m_9 : (.fieldLink RX4 28 "BowWalk$Reader" "token" "I" : Cond) ∈ zw_t_beginNamed0 := List.mem_append_left _ (List.mem_of_getElem? (i := 10) rfl)
  have k_9 := hts _ m_9
  have m_10 : (.fieldLink RX4 37 "BowWalk$Reader" "word" "J" : Cond) ∈ zw_t_beginNamed0 := List.mem_append_left _ (List.mem_of_getElem? (i := 11) rfl)
  have k_10 := hts _ m_10
  have m_11 : (.methodLink RX4 162 yX5_isNamed : Cond) ∈ zw_t_beginNamed0 := List.mem_append_left _ (List.mem_of_getElem? (i := 12) rfl)
  have k_11 := hts _ m_11
  have m_12 : (.instanceMethod yX5_isNamed : Cond) ∈ zw_t_beginNamed0 := List.mem_append_left _ (List.mem_of_getElem? (i := 13) rfl)
  have k_12 := hts _ m_12
  have m_13 : (.selects RX5 yX5_isNamed yX5_isNamed : Cond) ∈ zw_t_beginNamed0 := List.mem_append_left _ (List.mem_of_getElem? (i := 14) rfl)
  have k_13 := hts _ m_13
  have m_14 : (.methodLink RX4 124 yX4_refuse : Cond) ∈ zw_t_beginNamed0 := List.mem_append_left _ (List.mem_of_getElem? (i := 15) rfl)
  have k_14 := hts _ m_14
  have m_15 : (.instanceMethod yX4_refuse : Cond) ∈ zw_t_beginNamed0 := List.mem_append_left _ (List.mem_of_getElem? (i := 16) rfl)
  have k_15 := hts _ m_15
  have m_16 : (.selects RX4 yX4_refuse yX4_refuse : Cond) ∈ zw_t_beginNamed0 := List.mem_append_left _ (List.mem_of_getElem? (i := 17) rfl)
  have k_16 := hts _ m_16
  have m_17 : (.fieldLink RX4 166 "BowWalk$Shop" "names" "[[J" : Cond) ∈ zw_t_beginNamed0 := List.mem_append_left _ (List.mem_of_getElem? (i := 18) rfl)
  have k_17 := hts _ m_17
  have g_t_most0 : ∀ w ∈ zw_t_most0, w ∈ zw_t_beginNamed0 := fun w h => List.mem_append_right _ (List.mem_append_left _ h)
  have g_t_step : ∀ w ∈ zw_t_step, w ∈ zw_t_beginNamed0 := fun w h => List.mem_append_right _ (List.mem_append_right _ (List.mem_append_left _ h))
  have g_t_isNamed0 : ∀ w ∈ zw_t_isNamed0, w ∈ zw_t_beginNamed0 := fun w h => List.mem_append_right _ (List.mem_append_right _ (List.mem_append_right _ (List.mem_append_left _ h)))
  have g_t_refuse : ∀ w ∈ zw_t_refuse, w ∈ zw_t_beginNamed0 := fun w h => List.mem_append_right _ (List.mem_append_right _ (List.mem_append_right _ (List.mem_append_right _ (List.mem_append_left _ h))))
  have i_X4 : ∀ w ∈ u_ws RX4 TX4 11, w ∈ zw_t_beginNamed0 := fun w h => List.mem_append_right _ (List.mem_append_right _ (List.mem_append_right _ (List.mem_append_right _ (List.mem_append_right _ (List.mem_append_left _ h)))))
  have i_X5 : ∀ w ∈ u_ws RX5 TX5 15, w ∈ zw_t_beginNamed0 := fun w h => List.mem_append_right _ (List.mem_append_right _ (List.mem_append_right _ (List.mem_append_right _ (List.mem_append_right _ (List.mem_append_right _ (List.mem_append_left _ h))))))
  have lt_0 : (0 : Int32).toInt = 0 := by decide
  have lt_1 : (1 : Int32).toInt = 1 := by decide
  have lt_2 : (2 : Int32).toInt = 2 := by decide
  have lt_3 : (3 : Int32).toInt = 3 := by decide
  have hl := lv_entry ([.ref p0, .int 0]) (n := 3) (Nat.le_of_ble_eq_true rfl)
  rw [lg_entry_eq]
  generalize (lg_sl ([.ref p0, .int 0]) ++ List.replicate (3 - (lg_sl ([.ref p0, .int 0])).length) Slot.unset).toArray = ls at hl ⊢
  have hl : lv_has ls 3 [(0, .ref p0), (1, .int 0)] := hl
  refine lv_aload_n hx hb dX4_beginNamed_0 rfl (lv_at hl 0 rfl) (qg_X4_8 hx hb hts i_X4 hown hK hP 0 rfl k_0 fr_p0_8 dX4_beginNamed_1 (qg_X5_0 hx hb hts i_X5 hown hK hP 1 rfl k_1 fr_p0_draft_0 dX4_beginNamed_4 (lv_iload_n hx hb dX4_beginNamed_7 rfl (lv_at hl 1 rfl) (q_ild hx hb hK hP 2 0 rfl rfl (p1_in (i := 0) (n := 5) (by decide)) dX4_beginNamed_8 (fun v_1 ev_1 => ?_)))))
  have uv_1 : v_1.toInt = (b_p0_draft_count (0 : Int32).toNatClampNeg).toInt := by rw [ev_1]
  have tv_1 : 0 ≤ v_1.toInt ∧ v_1.toInt ≤ 6 := by rw [ev_1]; exact q_cnt_0 hr_p0_draft_count
  refine lv_istore_n (lv' := [(2, .int v_1), (0, .ref p0), (1, .int 0)]) hx hb dX4_beginNamed_9 rfl hl (by decide) rfl (fun ls hl => ?_)
  refine lv_iload_n hx hb dX4_beginNamed_10 rfl (lv_at hl 0 rfl) (lv_iload_n hx hb dX4_beginNamed_11 rfl (lv_at hl 2 rfl) ?_)
  refine q_cSi (As := [.int 0]) (rest := [.int v_1]) q_w0 trivial hK hP hDa za_t_beginNamed0 hS hA [] [] (by decide +kernel) ⟨hx, hb, hml, hown, hts⟩ (t_most0 l dC dI s.heap.size) rfl rfl (va_cwS 1 hts (p1_gS m_2 m_3 m_4 g_t_most0 gz_t_most0) rfl rfl rfl (by decide +kernel) ⟨by decide, by decide⟩) zm_t_most0 rfl hl.1 rfl (Nat.le_of_ble_eq_true rfl) dX4_beginNamed_12 ⟨by decide, by decide⟩ (fun r_2 H3 lo3 hG3 hS3 => ?_)
  obtain ⟨z_4, hQ3⟩ := hG3
  have hP3 : va_P (dC, dI) vwCl (zW_t_beginNamed0 p0 f_p0 p0_draft f_p0_draft p0_draft_count c_p0_draft_count b_p0_draft_count p0_draft_names c_p0_draft_names b_p0_draft_names p0_draft_names_0 c_p0_draft_names_0 b_p0_draft_names_0 p0_draft_names_1 c_p0_draft_names_1 b_p0_draft_names_1 p0_draft_names_2 c_p0_draft_names_2 b_p0_draft_names_2 p0_draft_names_3 c_p0_draft_names_3 b_p0_draft_names_3 p0_draft_names_4 c_p0_draft_names_4 b_p0_draft_names_4 p0_text c_p0_text b_p0_text p0_words c_p0_words b_p0_words) H3 := hQ3
  clear hQ3 hP hS
  refine lv_icmp_lt (tgt := 24) hx hb dX4_beginNamed_15 (by decide) (fun c_5 => ?_) (fun c_5 => ?_)
  · have tc_5 := q_lt c_5
    refine lv_aload_n hx hb dX4_beginNamed_24 rfl (lv_at hl 1 rfl) ?_
    refine q_cVv (As := []) (rest := []) q_exw hE hK hP3 hDa za_t_beginNamed0 hS3 hA [0, 9, 10] [7, 8] (by decide +kernel) ⟨hx, hb, hml, hown, hts⟩ (t_step l dC dI H3.size p0 f_p0 p0_text c_p0_text b_p0_text p0_words c_p0_words b_p0_words ho_p0 fr_p0_0 fr_p0_1) rfl rfl (cwV 0 hts (p1_gV m_5 m_6 m_7 m_8 g_t_step gz_t_step) rfl rfl rfl (by decide +kernel) ⟨by decide, by decide⟩) (va_recv hK hP3 (ci := 4) (q0 := 0) rfl rfl) zm_t_step rfl hl.1 rfl (Nat.le_of_ble_eq_true rfl) dX4_beginNamed_25 ⟨by decide, by decide⟩ (fun H7 lo7 hG7 hS7 => ?_)
    obtain ⟨o_8, ho_9, hf_10, hQ7⟩ := hG7
    have hP7 : va_P (dC, dI) vwCl (zW_t_beginNamed0 p0 o_8 p0_draft f_p0_draft p0_draft_count c_p0_draft_count b_p0_draft_count p0_draft_names c_p0_draft_names b_p0_draft_names p0_draft_names_0 c_p0_draft_names_0 b_p0_draft_names_0 p0_draft_names_1 c_p0_draft_names_1 b_p0_draft_names_1 p0_draft_names_2 c_p0_draft_names_2 b_p0_draft_names_2 p0_draft_names_3 c_p0_draft_names_3 b_p0_draft_names_3 p0_draft_names_4 c_p0_draft_names_4 b_p0_draft_names_4 p0_text c_p0_text b_p0_text p0_words c_p0_words b_p0_words) H7 := hQ7
    clear hQ7 hP3 hS3
    refine lv_aload_n hx hb dX4_beginNamed_28 rfl (lv_at hl 1 rfl) ?_
    obtain ⟨v_11, fv_11⟩ := OKX4_g4 ho_9
    refine qg_X4_4 hx hb hts i_X4 hown hK hP7 0 rfl k_9 fv_11 dX4_beginNamed_29 (lv_iconst (v := 2) hx hb dX4_beginNamed_32 (by decide) ?_)
    refine lv_icmp_eq (tgt := 42) hx hb dX4_beginNamed_33 (by decide) (fun c_12 => ?_) (fun c_12 => ?_)
    · have tc_12 := q_eq c_12
      refine lv_aload_n hx hb dX4_beginNamed_42 rfl (lv_at hl 1 rfl) (qg_X4_8 hx hb hts i_X4 hown hK hP7 0 rfl k_0 (hf_10.u (by decide) fr_p0_8) dX4_beginNamed_43 (lv_iload_n hx hb dX4_beginNamed_46 rfl (lv_at hl 2 rfl) (lv_aload_n hx hb dX4_beginNamed_47 rfl (lv_at hl 1 rfl) ?_)))
      obtain ⟨v_13, fv_13⟩ := OKX4_g7 ho_9
      refine qg_X4_7 hx hb hts i_X4 hown hK hP7 0 rfl k_10 fv_13 dX4_beginNamed_48 ?_
      refine q_cVi (As := [.int 0, .long v_13]) (rest := []) q_w0 trivial hK hP7 hDa za_t_beginNamed0 hS7 hA [1, 2, 3, 4, 5, 6, 7, 8] [0, 1, 2, 3, 4, 5, 6] (by decide +kernel) ⟨hx, hb, hml, hown, hts⟩ (t_isNamed0 l dC dI H7.size p0_draft f_p0_draft p0_draft_count c_p0_draft_count b_p0_draft_count p0_draft_names c_p0_draft_names b_p0_draft_names p0_draft_names_0 c_p0_draft_names_0 b_p0_draft_names_0 p0_draft_names_1 c_p0_draft_names_1 b_p0_draft_names_1 p0_draft_names_2 c_p0_draft_names_2 b_p0_draft_names_2 p0_draft_names_3 c_p0_draft_names_3 b_p0_draft_names_3 p0_draft_names_4 c_p0_draft_names_4 b_p0_draft_names_4 v_13 ho_p0_draft fr_p0_draft_0 fr_p0_draft_1 hr_p0_draft_count hn_p0_draft_names_0 hn_p0_draft_names_1 hn_p0_draft_names_2 hn_p0_draft_names_3 hn_p0_draft_names_4) rfl rfl (cwV 2 hts (p1_gV m_11 m_12 m_13 m_4 g_t_isNamed0 gz_t_isNamed0) rfl rfl rfl (by decide +kernel) ⟨by decide, by decide⟩) (va_recv hK hP7 (ci := 5) (q0 := 1) rfl rfl) zm_t_isNamed0 rfl hl.1 rfl (Nat.le_of_ble_eq_true rfl) dX4_beginNamed_51 ⟨by decide, by decide⟩ (fun r_14 H15 lo15 hG15 hS15 => ?_)
      obtain ⟨z_16, hQ15⟩ := hG15
      have hP15 : va_P (dC, dI) vwCl (zW_t_beginNamed0 p0 o_8 p0_draft f_p0_draft p0_draft_count c_p0_draft_count b_p0_draft_count p0_draft_names c_p0_draft_names b_p0_draft_names p0_draft_names_0 c_p0_draft_names_0 b_p0_draft_names_0 p0_draft_names_1 c_p0_draft_names_1 b_p0_draft_names_1 p0_draft_names_2 c_p0_draft_names_2 b_p0_draft_names_2 p0_draft_names_3 c_p0_draft_names_3 b_p0_draft_names_3 p0_draft_names_4 c_p0_draft_names_4 b_p0_draft_names_4 p0_text c_p0_text b_p0_text p0_words c_p0_words b_p0_words) H15 := hQ15
      clear hQ15 hP7 hS7
      rcases z_16 with ⟨rfl, z_16⟩ | ⟨rfl, z_16⟩
      · refine lv_if_eq (tgt := 63) hx hb dX4_beginNamed_54 (by decide) (fun c_17 => absurd c_17 (by decide)) (fun c_17 => ?_)
        refine lv_aload_n hx hb dX4_beginNamed_57 rfl (lv_at hl 1 rfl) (lv_iconst (v := 3) hx hb dX4_beginNamed_58 (by decide) ?_)
        refine q_cVi (As := [.int 3]) (rest := []) q_w0 trivial hK hP15 hDa za_t_beginNamed0 hS15 hA [0] [] (by decide +kernel) ⟨hx, hb, hml, hown, hts⟩ (t_refuse l dC dI H15.size p0 o_8 3 ho_9) rfl rfl (cwV 1 hts (p1_gV m_14 m_15 m_16 m_8 g_t_refuse gz_t_refuse) rfl rfl rfl (by decide +kernel) ⟨by decide, by decide⟩) (va_recv hK hP15 (ci := 4) (q0 := 0) rfl rfl) zm_t_refuse rfl hl.1 rfl (Nat.le_of_ble_eq_true rfl) dX4_beginNamed_59 ⟨by decide, by decide⟩ (fun r_18 H19 lo19 hG19 hS19 => ?_)
        obtain ⟨o_20, z_21, ho_22, hf_23, hQ19⟩ := hG19
        have hP19 : va_P (dC, dI) vwCl (zW_t_beginNamed0 p0 o_20 p0_draft f_p0_draft p0_draft_count c_p0_draft_count b_p0_draft_count p0_draft_names c_p0_draft_names b_p0_draft_names p0_draft_names_0 c_p0_draft_names_0 b_p0_draft_names_0 p0_draft_names_1 c_p0_draft_names_1 b_p0_draft_names_1 p0_draft_names_2 c_p0_draft_names_2 b_p0_draft_names_2 p0_draft_names_3 c_p0_draft_names_3 b_p0_draft_names_3 p0_draft_names_4 c_p0_draft_names_4 b_p0_draft_names_4 p0_text c_p0_text b_p0_text p0_words c_p0_words b_p0_words) H19 := hQ19
        clear hQ19 hP15 hS15
        rcases z_21 with ⟨rfl, z_21⟩ | ⟨rfl, z_21⟩
        · exact z_21.elim
        · exact q_zret hx hb hr hlocks (by decide) hS19 dX4_beginNamed_62 ⟨o_20, b_p0_draft_names_0, b_p0_draft_names_1, b_p0_draft_names_2, b_p0_draft_names_3, b_p0_draft_names_4, (Or.inr ⟨rfl, by first | trivial | omega⟩), ho_22, ((q_fr.rf.tr hf_10 (by decide)).tr hf_23 (by decide)), hP19, za_t_beginNamed0⟩
      · refine lv_if_eq (tgt := 63) hx hb dX4_beginNamed_54 (by decide) (fun c_24 => ?_) (fun c_24 => absurd c_24 (by decide))
        refine lv_aload_n hx hb dX4_beginNamed_63 rfl (lv_at hl 1 rfl) (qg_X4_8 hx hb hts i_X4 hown hK hP15 0 rfl k_0 (hf_10.u (by decide) fr_p0_8) dX4_beginNamed_64 (qg_X5_1 hx hb hts i_X5 hown hK hP15 1 rfl k_17 fr_p0_draft_1 dX4_beginNamed_67 (lv_iload_n hx hb dX4_beginNamed_70 rfl (lv_at hl 2 rfl) ?_)))
        refine q_aldr hx hb hK hP15 3 1 rfl rfl (p1_in (i := 0) (n := 5) (by decide)) dX4_beginNamed_71 ?_
        refine W.eq (g2 := F0 m 72 ls [.ref p0_draft_names_0]) (by rw [show b_p0_draft_names (0 : Int32).toNatClampNeg = some p0_draft_names_0 from hn_p0_draft_names_0]; rfl) ?_
        refine lv_iload_n hx hb dX4_beginNamed_72 rfl (lv_at hl 0 rfl) (lv_aload_n hx hb dX4_beginNamed_73 rfl (lv_at hl 1 rfl) (qg_X4_7 hx hb hts i_X4 hown hK hP15 0 rfl k_10 fv_13 dX4_beginNamed_74 (q_lst hx hb hK hP15 hDa za_t_beginNamed0 hS15 4 2 rfl rfl (q_in (by omega) (by omega)) dX4_beginNamed_77 (fun H25 lo25 g25 eg25 (hP25 : va_P (dC, dI) vwCl (zW_t_beginNamed0 p0 o_8 p0_draft f_p0_draft p0_draft_count c_p0_draft_count b_p0_draft_count p0_draft_names c_p0_draft_names b_p0_draft_names p0_draft_names_0 c_p0_draft_names_0 g25 p0_draft_names_1 c_p0_draft_names_1 b_p0_draft_names_1 p0_draft_names_2 c_p0_draft_names_2 b_p0_draft_names_2 p0_draft_names_3 c_p0_draft_names_3 b_p0_draft_names_3 p0_draft_names_4 c_p0_draft_names_4 b_p0_draft_names_4 p0_text c_p0_text b_p0_text p0_words c_p0_words b_p0_words) H25) hS25 => ?_))))
        clear hP15 hS15
        refine lv_aload_n hx hb dX4_beginNamed_78 rfl (lv_at hl 1 rfl) ?_
        refine q_cVv (As := []) (rest := []) q_exw hE hK hP25 hDa za_t_beginNamed0 hS25 hA [0, 9, 10] [7, 8] (by decide +kernel) ⟨hx, hb, hml, hown, hts⟩ (t_step l dC dI H25.size p0 o_8 p0_text c_p0_text b_p0_text p0_words c_p0_words b_p0_words ho_9 ((hf_10.u (by decide) fr_p0_0)) ((hf_10.u (by decide) fr_p0_1))) rfl rfl (cwV 0 hts (p1_gV m_5 m_6 m_7 m_8 g_t_step gz_t_step) rfl rfl rfl (by decide +kernel) ⟨by decide, by decide⟩) (va_recv hK hP25 (ci := 4) (q0 := 0) rfl rfl) zm_t_step rfl hl.1 rfl (Nat.le_of_ble_eq_true rfl) dX4_beginNamed_79 ⟨by decide, by decide⟩ (fun H27 lo27 hG27 hS27 => ?_)
        obtain ⟨o_28, ho_29, hf_30, hQ27⟩ := hG27
        have hP27 : va_P (dC, dI) vwCl (zW_t_beginNamed0 p0 o_28 p0_draft f_p0_draft p0_draft_count c_p0_draft_count b_p0_draft_count p0_draft_names c_p0_draft_names b_p0_draft_names p0_draft_names_0 c_p0_draft_names_0 g25 p0_draft_names_1 c_p0_draft_names_1 b_p0_draft_names_1 p0_draft_names_2 c_p0_draft_names_2 b_p0_draft_names_2 p0_draft_names_3 c_p0_draft_names_3 b_p0_draft_names_3 p0_draft_names_4 c_p0_draft_names_4 b_p0_draft_names_4 p0_text c_p0_text b_p0_text p0_words c_p0_words b_p0_words) H27 := hQ27
        clear hQ27 hP25 hS25
        refine lv_iconst (v := 1) hx hb dX4_beginNamed_82 (by decide) ?_
        exact q_zret hx hb hr hlocks (by decide) hS27 dX4_beginNamed_83 ⟨o_28, g25, b_p0_draft_names_1, b_p0_draft_names_2, b_p0_draft_names_3, b_p0_draft_names_4, (Or.inl ⟨rfl, by first | trivial | omega⟩), ho_29, ((q_fr.rf.tr hf_10 (by decide)).tr hf_30 (by decide)), hP27, za_t_beginNamed0⟩
    · have tc_12 := q_neN c_12
      refine lv_aload_n hx hb dX4_beginNamed_36 rfl (lv_at hl 1 rfl) (lv_iconst (v := 2) hx hb dX4_beginNamed_37 (by decide) ?_)
      refine q_cVi (As := [.int 2]) (rest := []) q_w0 trivial hK hP7 hDa za_t_beginNamed0 hS7 hA [0] [] (by decide +kernel) ⟨hx, hb, hml, hown, hts⟩ (t_refuse l dC dI H7.size p0 o_8 2 ho_9) rfl rfl (cwV 1 hts (p1_gV m_14 m_15 m_16 m_8 g_t_refuse gz_t_refuse) rfl rfl rfl (by decide +kernel) ⟨by decide, by decide⟩) (va_recv hK hP7 (ci := 4) (q0 := 0) rfl rfl) zm_t_refuse rfl hl.1 rfl (Nat.le_of_ble_eq_true rfl) dX4_beginNamed_38 ⟨by decide, by decide⟩ (fun r_31 H32 lo32 hG32 hS32 => ?_)
      obtain ⟨o_33, z_34, ho_35, hf_36, hQ32⟩ := hG32
      have hP32 : va_P (dC, dI) vwCl (zW_t_beginNamed0 p0 o_33 p0_draft f_p0_draft p0_draft_count c_p0_draft_count b_p0_draft_count p0_draft_names c_p0_draft_names b_p0_draft_names p0_draft_names_0 c_p0_draft_names_0 b_p0_draft_names_0 p0_draft_names_1 c_p0_draft_names_1 b_p0_draft_names_1 p0_draft_names_2 c_p0_draft_names_2 b_p0_draft_names_2 p0_draft_names_3 c_p0_draft_names_3 b_p0_draft_names_3 p0_draft_names_4 c_p0_draft_names_4 b_p0_draft_names_4 p0_text c_p0_text b_p0_text p0_words c_p0_words b_p0_words) H32 := hQ32
      clear hQ32 hP7 hS7
      rcases z_34 with ⟨rfl, z_34⟩ | ⟨rfl, z_34⟩
      · exact z_34.elim
      · exact q_zret hx hb hr hlocks (by decide) hS32 dX4_beginNamed_41 ⟨o_33, b_p0_draft_names_0, b_p0_draft_names_1, b_p0_draft_names_2, b_p0_draft_names_3, b_p0_draft_names_4, (Or.inr ⟨rfl, by first | trivial | omega⟩), ho_35, ((q_fr.rf.tr hf_10 (by decide)).tr hf_36 (by decide)), hP32, za_t_beginNamed0⟩
  · have tc_5 := q_geN c_5
    refine lv_aload_n hx hb dX4_beginNamed_18 rfl (lv_at hl 1 rfl) (lv_iconst (v := 2) hx hb dX4_beginNamed_19 (by decide) ?_)
    refine q_cVi (As := [.int 2]) (rest := []) q_w0 trivial hK hP3 hDa za_t_beginNamed0 hS3 hA [0] [] (by decide +kernel) ⟨hx, hb, hml, hown, hts⟩ (t_refuse l dC dI H3.size p0 f_p0 2 ho_p0) rfl rfl (cwV 1 hts (p1_gV m_14 m_15 m_16 m_8 g_t_refuse gz_t_refuse) rfl rfl rfl (by decide +kernel) ⟨by decide, by decide⟩) (va_recv hK hP3 (ci := 4) (q0 := 0) rfl rfl) zm_t_refuse rfl hl.1 rfl (Nat.le_of_ble_eq_true rfl) dX4_beginNamed_20 ⟨by decide, by decide⟩ (fun r_37 H38 lo38 hG38 hS38 => ?_)
    obtain ⟨o_39, z_40, ho_41, hf_42, hQ38⟩ := hG38
    have hP38 : va_P (dC, dI) vwCl (zW_t_beginNamed0 p0 o_39 p0_draft f_p0_draft p0_draft_count c_p0_draft_count b_p0_draft_count p0_draft_names c_p0_draft_names b_p0_draft_names p0_draft_names_0 c_p0_draft_names_0 b_p0_draft_names_0 p0_draft_names_1 c_p0_draft_names_1 b_p0_draft_names_1 p0_draft_names_2 c_p0_draft_names_2 b_p0_draft_names_2 p0_draft_names_3 c_p0_draft_names_3 b_p0_draft_names_3 p0_draft_names_4 c_p0_draft_names_4 b_p0_draft_names_4 p0_text c_p0_text b_p0_text p0_words c_p0_words b_p0_words) H38 := hQ38
    clear hQ38 hP3 hS3
    rcases z_40 with ⟨rfl, z_40⟩ | ⟨rfl, z_40⟩
    · exact z_40.elim
    · exact q_zret hx hb hr hlocks (by decide) hS38 dX4_beginNamed_23 ⟨o_39, b_p0_draft_names_0, b_p0_draft_names_1, b_p0_draft_names_2, b_p0_draft_names_3, b_p0_draft_names_4, (Or.inr ⟨rfl, by first | trivial | omega⟩), ho_41, (q_fr.rf.tr hf_42 (by decide)), hP38, za_t_beginNamed0⟩
