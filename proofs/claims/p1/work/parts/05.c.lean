def zo_c_within : List Cond := [.code yX8_within cX8_within 3 (some .boolean)]
def zw_c_within : List Cond := zo_c_within ++ []
theorem gz_c_within : zw_c_within.all goodWord = true := p1_ga (by decide +kernel) p1_g0
theorem iz_c_within : ∀ w ∈ zw_c_within, w ∈ lw_tbl := p1_ia (p1_all [751] (by decide +kernel)) p1_i0
set_option maxHeartbeats 4000000 in
set_option maxRecDepth 100000 in
/-- X8_within: is n among a .. b -/
theorem c_within (l : Launch) (dC : Nat → ClassId) (dI : Nat → Nat → Nat) (sz : Nat) (n : Int32) (a : Int32) (b : Int32) : Met l yX8_within zw_c_within ({ frames := 0, cells := 0, slots := 0, locals := 0 }) (va_Pc [.int n, .int a, .int b] (fun U => U.heap.size = sz ∧ va_P (dC, dI) vwCl [] U.heap ∧ va_K (dC, dI) vwCl [] U ∧ va_D (fun _ => True) [])) (va_Qi (fun (r : Int32) (_ : Unit) => (r = 1 ∧ a ≤ n ∧ n ≤ b) ∨ (r = 0 ∧ ¬ (a ≤ n ∧ n ≤ b))) (fun _ t => va_P (dC, dI) vwCl [] t.heap ∧ va_K (dC, dI) vwCl [] t ∧ va_D (va_A [] sz) []) (va_A [] sz)) 0 0 (va_A [] sz) := by
  refine Met.ofW (cc := cX8_within) (maxL := 3) (ret := (some .boolean)) (by decide) rfl ?_
  intro p e s m args below meth c s₁ B hml hv
  obtain ⟨rfl, hsz, hP, hK, hD0⟩ := hv
  have hx := B.exec
  have hb := B.bytes
  have hr := B.returns
  have hts := atoms_spec (ws := zw_c_within) B.pre
  have hown : s.vm.findClass RX8 = some m.cls := findClass_of_methodNamed B.named
  have hlocks := B.notSynchronized
  subst hsz
  have hD := hD0.self (sz := s.heap.size)
  generalize hAe : va_A [] s.heap.size = A at hD ⊢
  have hA : ∀ q : Nat, s.heap.size ≤ q → A q := fun q h => by rw [← hAe]; exact Or.inr h
  have hS : va_S A s.heap s.heap [] := va_S.rf
  have hP : va_P (dC, dI) vwCl [] s.heap := hP
  have hl := lv_entry ([.int n, .int a, .int b]) (n := 3) (Nat.le_of_ble_eq_true rfl)
  rw [lg_entry_eq]
  generalize (lg_sl ([.int n, .int a, .int b]) ++ List.replicate (3 - (lg_sl ([.int n, .int a, .int b])).length) Slot.unset).toArray = ls at hl ⊢
  have hl : lv_has ls 3 [(0, .int n), (1, .int a), (2, .int b)] := hl
  refine lv_iload_n hx hb dX8_within_0 rfl (lv_at hl 0 rfl) ?_
  refine lv_iload_n hx hb dX8_within_1 rfl (lv_at hl 1 rfl) ?_
  refine lv_icmp_lt (tgt := 14) hx hb dX8_within_2 (by decide) (fun c2 => ?_) (fun c2 => ?_)
  · refine lv_iconst (v := 0) hx hb dX8_within_14 (by decide) ?_
    have hP9 := hP.sub (ws' := []) [] rfl
    have hD9 := hD.sub (ws' := []) [] (by decide) rfl
    have hK9 := hK.sub (tys' := []) [] rfl
    exact W.zret (v := 0) hx hb hr (by decide) (fun t ht hW => ⟨⟨0, (), rfl, Or.inr ⟨rfl, by intro z9; first | exact absurd c2 (Int32.not_lt.mpr z9.1) | exact absurd c7 (Int32.not_lt.mpr z9.2)⟩, by rw [ht]; exact hP9, va_K.moved hW.alike hK9, hD9⟩, hS.F ht⟩) hS.2.2 dX8_within_15
  · refine lv_iload_n hx hb dX8_within_5 rfl (lv_at hl 0 rfl) ?_
    refine lv_iload_n hx hb dX8_within_6 rfl (lv_at hl 2 rfl) ?_
    refine lv_icmp_gt (tgt := 14) hx hb dX8_within_7 (by decide) (fun c7 => ?_) (fun c7 => ?_)
    · refine lv_iconst (v := 0) hx hb dX8_within_14 (by decide) ?_
      have hP9 := hP.sub (ws' := []) [] rfl
      have hD9 := hD.sub (ws' := []) [] (by decide) rfl
      have hK9 := hK.sub (tys' := []) [] rfl
      exact W.zret (v := 0) hx hb hr (by decide) (fun t ht hW => ⟨⟨0, (), rfl, Or.inr ⟨rfl, by intro z9; first | exact absurd c2 (Int32.not_lt.mpr z9.1) | exact absurd c7 (Int32.not_lt.mpr z9.2)⟩, by rw [ht]; exact hP9, va_K.moved hW.alike hK9, hD9⟩, hS.F ht⟩) hS.2.2 dX8_within_15
    · refine lv_iconst (v := 1) hx hb dX8_within_10 (by decide) ?_
      refine lv_goto (tgt := 15) hx hb dX8_within_11 (by decide) ?_
      have hP9 := hP.sub (ws' := []) [] rfl
      have hD9 := hD.sub (ws' := []) [] (by decide) rfl
      have hK9 := hK.sub (tys' := []) [] rfl
      exact W.zret (v := 1) hx hb hr (by decide) (fun t ht hW => ⟨⟨1, (), rfl, Or.inl ⟨rfl, Int32.not_lt.mp c2, Int32.not_lt.mp c7⟩, by rw [ht]; exact hP9, va_K.moved hW.alike hK9, hD9⟩, hS.F ht⟩) hS.2.2 dX8_within_15
def zo_c_isIn : List Cond := [.code yX9_isIn cX9_isIn 3 (some .boolean)]
def zw_c_isIn : List Cond := zo_c_isIn ++ []
theorem gz_c_isIn : zw_c_isIn.all goodWord = true := p1_ga (by decide +kernel) p1_g0
theorem iz_c_isIn : ∀ w ∈ zw_c_isIn, w ∈ lw_tbl := p1_ia (p1_all [1441] (by decide +kernel)) p1_i0
set_option maxHeartbeats 4000000 in
set_option maxRecDepth 100000 in
/-- X9_isIn: is n among a .. b -/
theorem c_isIn (l : Launch) (dC : Nat → ClassId) (dI : Nat → Nat → Nat) (sz : Nat) (n : Int32) (a : Int32) (b : Int32) : Met l yX9_isIn zw_c_isIn ({ frames := 0, cells := 0, slots := 0, locals := 0 }) (va_Pc [.int n, .int a, .int b] (fun U => U.heap.size = sz ∧ va_P (dC, dI) vwCl [] U.heap ∧ va_K (dC, dI) vwCl [] U ∧ va_D (fun _ => True) [])) (va_Qi (fun (r : Int32) (_ : Unit) => (r = 1 ∧ a ≤ n ∧ n ≤ b) ∨ (r = 0 ∧ ¬ (a ≤ n ∧ n ≤ b))) (fun _ t => va_P (dC, dI) vwCl [] t.heap ∧ va_K (dC, dI) vwCl [] t ∧ va_D (va_A [] sz) []) (va_A [] sz)) 0 0 (va_A [] sz) := by
  refine Met.ofW (cc := cX9_isIn) (maxL := 3) (ret := (some .boolean)) (by decide) rfl ?_
  intro p e s m args below meth c s₁ B hml hv
  obtain ⟨rfl, hsz, hP, hK, hD0⟩ := hv
  have hx := B.exec
  have hb := B.bytes
  have hr := B.returns
  have hts := atoms_spec (ws := zw_c_isIn) B.pre
  have hown : s.vm.findClass RX9 = some m.cls := findClass_of_methodNamed B.named
  have hlocks := B.notSynchronized
  subst hsz
  have hD := hD0.self (sz := s.heap.size)
  generalize hAe : va_A [] s.heap.size = A at hD ⊢
  have hA : ∀ q : Nat, s.heap.size ≤ q → A q := fun q h => by rw [← hAe]; exact Or.inr h
  have hS : va_S A s.heap s.heap [] := va_S.rf
  have hP : va_P (dC, dI) vwCl [] s.heap := hP
  have hl := lv_entry ([.int n, .int a, .int b]) (n := 3) (Nat.le_of_ble_eq_true rfl)
  rw [lg_entry_eq]
  generalize (lg_sl ([.int n, .int a, .int b]) ++ List.replicate (3 - (lg_sl ([.int n, .int a, .int b])).length) Slot.unset).toArray = ls at hl ⊢
  have hl : lv_has ls 3 [(0, .int n), (1, .int a), (2, .int b)] := hl
  refine lv_iload_n hx hb dX9_isIn_0 rfl (lv_at hl 0 rfl) ?_
  refine lv_iload_n hx hb dX9_isIn_1 rfl (lv_at hl 1 rfl) ?_
  refine lv_icmp_lt (tgt := 14) hx hb dX9_isIn_2 (by decide) (fun c2 => ?_) (fun c2 => ?_)
  · refine lv_iconst (v := 0) hx hb dX9_isIn_14 (by decide) ?_
    have hP9 := hP.sub (ws' := []) [] rfl
    have hD9 := hD.sub (ws' := []) [] (by decide) rfl
    have hK9 := hK.sub (tys' := []) [] rfl
    exact W.zret (v := 0) hx hb hr (by decide) (fun t ht hW => ⟨⟨0, (), rfl, Or.inr ⟨rfl, by intro z9; first | exact absurd c2 (Int32.not_lt.mpr z9.1) | exact absurd c7 (Int32.not_lt.mpr z9.2)⟩, by rw [ht]; exact hP9, va_K.moved hW.alike hK9, hD9⟩, hS.F ht⟩) hS.2.2 dX9_isIn_15
  · refine lv_iload_n hx hb dX9_isIn_5 rfl (lv_at hl 0 rfl) ?_
    refine lv_iload_n hx hb dX9_isIn_6 rfl (lv_at hl 2 rfl) ?_
    refine lv_icmp_gt (tgt := 14) hx hb dX9_isIn_7 (by decide) (fun c7 => ?_) (fun c7 => ?_)
    · refine lv_iconst (v := 0) hx hb dX9_isIn_14 (by decide) ?_
      have hP9 := hP.sub (ws' := []) [] rfl
      have hD9 := hD.sub (ws' := []) [] (by decide) rfl
      have hK9 := hK.sub (tys' := []) [] rfl
      exact W.zret (v := 0) hx hb hr (by decide) (fun t ht hW => ⟨⟨0, (), rfl, Or.inr ⟨rfl, by intro z9; first | exact absurd c2 (Int32.not_lt.mpr z9.1) | exact absurd c7 (Int32.not_lt.mpr z9.2)⟩, by rw [ht]; exact hP9, va_K.moved hW.alike hK9, hD9⟩, hS.F ht⟩) hS.2.2 dX9_isIn_15
    · refine lv_iconst (v := 1) hx hb dX9_isIn_10 (by decide) ?_
      refine lv_goto (tgt := 15) hx hb dX9_isIn_11 (by decide) ?_
      have hP9 := hP.sub (ws' := []) [] rfl
      have hD9 := hD.sub (ws' := []) [] (by decide) rfl
      have hK9 := hK.sub (tys' := []) [] rfl
      exact W.zret (v := 1) hx hb hr (by decide) (fun t ht hW => ⟨⟨1, (), rfl, Or.inl ⟨rfl, Int32.not_lt.mp c2, Int32.not_lt.mp c7⟩, by rw [ht]; exact hP9, va_K.moved hW.alike hK9, hD9⟩, hS.F ht⟩) hS.2.2 dX9_isIn_15
def zo_c_has0 : List Cond := [.code yX5_has cX5_has 3 (some .boolean), .fieldLink RX5 9 "BowWalk$Shop" "count" "[I"]
def zw_c_has0 : List Cond := zo_c_has0 ++ (wsX50 ++ [])
theorem gz_c_has0 : zw_c_has0.all goodWord = true := p1_ga (by decide +kernel) (p1_ga gk_X5 p1_g0)
theorem iz_c_has0 : ∀ w ∈ zw_c_has0, w ∈ lw_tbl := p1_ia (p1_all [717, 174] (by decide +kernel)) (p1_ia ik_X5 p1_i0)
set_option maxHeartbeats 4000000 in
set_option maxRecDepth 100000 in
/-- an empty SHOP has none -/
theorem c_has0 (l : Launch) (dC : Nat → ClassId) (dI : Nat → Nat → Nat) (sz : Nat) (h0 : Nat) (fs : List Value) (h1 : Nat) (cI : ClassId) (so : Int32) (n : Int32) (f_fs_0 : fs[0]? = some (.ref h1)) (hso : vp_in so 5) : Met l yX5_has zw_c_has0 ({ frames := 0, cells := 0, slots := 0, locals := 0 }) (va_Pc [.ref h0, .int so, .int n] (fun U => U.heap.size = sz ∧ va_P (dC, dI) vwCl [(h0, .inr (5, fs)), (h1, .inl (cI, 5, .inl (fun _ => 0)))] U.heap ∧ va_K (dC, dI) vwCl [(cI, .int)] U ∧ va_D (fun _ => True) [(h0, .inr (5, fs)), (h1, .inl (cI, 5, .inl (fun _ => 0)))])) (va_Qi (fun (r : Int32) (_ : Unit) => r = 0) (fun _ t => va_P (dC, dI) vwCl [(h0, .inr (5, fs)), (h1, .inl (cI, 5, .inl (fun _ => 0)))] t.heap ∧ va_K (dC, dI) vwCl [(cI, .int)] t ∧ va_D (va_A [(h0, .inr (5, fs)), (h1, .inl (cI, 5, .inl (fun _ => 0)))] sz) [(h0, .inr (5, fs)), (h1, .inl (cI, 5, .inl (fun _ => 0)))]) (va_A [(h0, .inr (5, fs)), (h1, .inl (cI, 5, .inl (fun _ => 0)))] sz)) 0 0 (va_A [(h0, .inr (5, fs)), (h1, .inl (cI, 5, .inl (fun _ => 0)))] sz) := by
  refine Met.ofW (cc := cX5_has) (maxL := 3) (ret := (some .boolean)) (by decide) rfl ?_
  intro p e s m args below meth c s₁ B hml hv
  obtain ⟨rfl, hsz, hP, hK, hD0⟩ := hv
  have hx := B.exec
  have hb := B.bytes
  have hr := B.returns
  have hts := atoms_spec (ws := zw_c_has0) B.pre
  have hown : s.vm.findClass RX5 = some m.cls := findClass_of_methodNamed B.named
  have hlocks := B.notSynchronized
  subst hsz
  have hD := hD0.self (sz := s.heap.size)
  generalize hAe : va_A [(h0, .inr (5, fs)), (h1, .inl (cI, 5, .inl (fun _ => 0)))] s.heap.size = A at hD ⊢
  have hA : ∀ q : Nat, s.heap.size ≤ q → A q := fun q h => by rw [← hAe]; exact Or.inr h
  have hS : va_S A s.heap s.heap [] := va_S.rf
  have hP : va_P (dC, dI) vwCl [(h0, .inr (5, fs)), (h1, .inl (cI, 5, .inl (fun _ => 0)))] s.heap := hP
  have m_0 : (.fieldLink RX5 9 "BowWalk$Shop" "count" "[I" : Cond) ∈ zw_c_has0 := List.mem_append_left _ (List.mem_of_getElem? (i := 1) rfl)
  have k_0 := hts _ m_0
  have i_X5 : ∀ w ∈ u_ws RX5 TX5 15, w ∈ zw_c_has0 := fun w h => List.mem_append_right _ (List.mem_append_left _ h)
  have hl := lv_entry ([.ref h0, .int so, .int n]) (n := 3) (Nat.le_of_ble_eq_true rfl)
  rw [lg_entry_eq]
  generalize (lg_sl ([.ref h0, .int so, .int n]) ++ List.replicate (3 - (lg_sl ([.ref h0, .int so, .int n])).length) Slot.unset).toArray = ls at hl ⊢
  have hl : lv_has ls 3 [(0, .ref h0), (1, .int so), (2, .int n)] := hl
  refine lv_iload_n hx hb dX5_has_0 rfl (lv_at hl 2 rfl) ?_
  refine lv_if_lt (tgt := 18) hx hb dX5_has_1 (by decide) (fun c1 => ?_) (fun c1 => ?_)
  · refine lv_iconst (v := 0) hx hb dX5_has_18 (by decide) ?_
    have hP9 := hP.sub (ws' := [(h0, .inr (5, fs)), (h1, .inl (cI, 5, .inl (fun _ => 0)))]) [0, 1] rfl
    have hD9 := hD.sub (ws' := [(h0, .inr (5, fs)), (h1, .inl (cI, 5, .inl (fun _ => 0)))]) [0, 1] (by decide) rfl
    have hK9 := hK.sub (tys' := [(cI, .int)]) [0] rfl
    exact W.zret (v := 0) hx hb hr (by decide) (fun t ht hW => ⟨⟨0, (), rfl, rfl, by rw [ht]; exact hP9, va_K.moved hW.alike hK9, hD9⟩, hS.F ht⟩) hS.2.2 dX5_has_19
  · refine lv_iload_n hx hb dX5_has_4 rfl (lv_at hl 2 rfl) ?_
    refine lv_aload_n hx hb dX5_has_5 rfl (lv_at hl 0 rfl) ?_
    refine va_get (D := (dC, dI)) (ci := 5) (v := .ref h1) (C := RX5) (T := TX5) (N := 15) hx hb hts i_X5 hown hK hP 0 rfl rfl 0 (by decide) k_0 (fun _ h9 => h9) f_fs_0 dX5_has_6 ?_
    refine lv_iload_n hx hb dX5_has_9 rfl (lv_at hl 1 rfl) ?_
    refine va_iald hx hb hK hP 1 0 rfl rfl hso dX5_has_10 ?_
    refine lv_topi (fun v_1 ev_1 => ?_)
    obtain rfl : v_1 = 0 := ev_1.trans rfl
    refine lv_icmp_ge (tgt := 18) hx hb dX5_has_11 (by decide) (fun c11 => ?_) (fun c11 => absurd c11 (fun z9 => absurd (Int32.not_le.mp z9) c1))
    refine lv_iconst (v := 0) hx hb dX5_has_18 (by decide) ?_
    have hP9 := hP.sub (ws' := [(h0, .inr (5, fs)), (h1, .inl (cI, 5, .inl (fun _ => 0)))]) [0, 1] rfl
    have hD9 := hD.sub (ws' := [(h0, .inr (5, fs)), (h1, .inl (cI, 5, .inl (fun _ => 0)))]) [0, 1] (by decide) rfl
    have hK9 := hK.sub (tys' := [(cI, .int)]) [0] rfl
    exact W.zret (v := 0) hx hb hr (by decide) (fun t ht hW => ⟨⟨0, (), rfl, rfl, by rw [ht]; exact hP9, va_K.moved hW.alike hK9, hD9⟩, hS.F ht⟩) hS.2.2 dX5_has_19
def zo_c_withinNeg : List Cond := [.code yX8_within cX8_within 3 (some .boolean)]
def zw_c_withinNeg : List Cond := zo_c_withinNeg ++ []
theorem gz_c_withinNeg : zw_c_withinNeg.all goodWord = true := p1_ga (by decide +kernel) p1_g0
theorem iz_c_withinNeg : ∀ w ∈ zw_c_withinNeg, w ∈ lw_tbl := p1_ia (p1_all [751] (by decide +kernel)) p1_i0
set_option maxHeartbeats 4000000 in
set_option maxRecDepth 100000 in
/-- X8_within of 0 .. -1 -/
theorem c_withinNeg (l : Launch) (dC : Nat → ClassId) (dI : Nat → Nat → Nat) (sz : Nat) (n : Int32) : Met l yX8_within zw_c_withinNeg ({ frames := 0, cells := 0, slots := 0, locals := 0 }) (va_Pc [.int n, .int 0, .int (-1)] (fun U => U.heap.size = sz ∧ va_P (dC, dI) vwCl [] U.heap ∧ va_K (dC, dI) vwCl [] U ∧ va_D (fun _ => True) [])) (va_Qi (fun (r : Int32) (_ : Unit) => r = 0) (fun _ t => va_P (dC, dI) vwCl [] t.heap ∧ va_K (dC, dI) vwCl [] t ∧ va_D (va_A [] sz) []) (va_A [] sz)) 0 0 (va_A [] sz) := by
  refine Met.ofW (cc := cX8_within) (maxL := 3) (ret := (some .boolean)) (by decide) rfl ?_
  intro p e s m args below meth c s₁ B hml hv
  obtain ⟨rfl, hsz, hP, hK, hD0⟩ := hv
  have hx := B.exec
  have hb := B.bytes
  have hr := B.returns
  have hts := atoms_spec (ws := zw_c_withinNeg) B.pre
  have hown : s.vm.findClass RX8 = some m.cls := findClass_of_methodNamed B.named
  have hlocks := B.notSynchronized
  subst hsz
  have hD := hD0.self (sz := s.heap.size)
  generalize hAe : va_A [] s.heap.size = A at hD ⊢
  have hA : ∀ q : Nat, s.heap.size ≤ q → A q := fun q h => by rw [← hAe]; exact Or.inr h
  have hS : va_S A s.heap s.heap [] := va_S.rf
  have hP : va_P (dC, dI) vwCl [] s.heap := hP
  have hl := lv_entry ([.int n, .int 0, .int (-1)]) (n := 3) (Nat.le_of_ble_eq_true rfl)
  rw [lg_entry_eq]
  generalize (lg_sl ([.int n, .int 0, .int (-1)]) ++ List.replicate (3 - (lg_sl ([.int n, .int 0, .int (-1)])).length) Slot.unset).toArray = ls at hl ⊢
  have hl : lv_has ls 3 [(0, .int n), (1, .int 0), (2, .int (-1))] := hl
  refine lv_iload_n hx hb dX8_within_0 rfl (lv_at hl 0 rfl) ?_
  refine lv_iload_n hx hb dX8_within_1 rfl (lv_at hl 1 rfl) ?_
  refine lv_icmp_lt (tgt := 14) hx hb dX8_within_2 (by decide) (fun c2 => ?_) (fun c2 => ?_)
  · refine lv_iconst (v := 0) hx hb dX8_within_14 (by decide) ?_
    have hP9 := hP.sub (ws' := []) [] rfl
    have hD9 := hD.sub (ws' := []) [] (by decide) rfl
    have hK9 := hK.sub (tys' := []) [] rfl
    exact W.zret (v := 0) hx hb hr (by decide) (fun t ht hW => ⟨⟨0, (), rfl, rfl, by rw [ht]; exact hP9, va_K.moved hW.alike hK9, hD9⟩, hS.F ht⟩) hS.2.2 dX8_within_15
  · refine lv_iload_n hx hb dX8_within_5 rfl (lv_at hl 0 rfl) ?_
    refine lv_iload_n hx hb dX8_within_6 rfl (lv_at hl 2 rfl) ?_
    refine lv_icmp_gt (tgt := 14) hx hb dX8_within_7 (by decide) (fun c7 => ?_) (fun c7 => absurd c7 (fun z9 => z9 (p1_m1 c2)))
    refine lv_iconst (v := 0) hx hb dX8_within_14 (by decide) ?_
    have hP9 := hP.sub (ws' := []) [] rfl
    have hD9 := hD.sub (ws' := []) [] (by decide) rfl
    have hK9 := hK.sub (tys' := []) [] rfl
    exact W.zret (v := 0) hx hb hr (by decide) (fun t ht hW => ⟨⟨0, (), rfl, rfl, by rw [ht]; exact hP9, va_K.moved hW.alike hK9, hD9⟩, hS.F ht⟩) hS.2.2 dX8_within_15
def zo_c_isInNeg : List Cond := [.code yX9_isIn cX9_isIn 3 (some .boolean)]
def zw_c_isInNeg : List Cond := zo_c_isInNeg ++ []
theorem gz_c_isInNeg : zw_c_isInNeg.all goodWord = true := p1_ga (by decide +kernel) p1_g0
theorem iz_c_isInNeg : ∀ w ∈ zw_c_isInNeg, w ∈ lw_tbl := p1_ia (p1_all [1441] (by decide +kernel)) p1_i0
set_option maxHeartbeats 4000000 in
set_option maxRecDepth 100000 in
/-- X9_isIn of 0 .. -1 -/
theorem c_isInNeg (l : Launch) (dC : Nat → ClassId) (dI : Nat → Nat → Nat) (sz : Nat) (n : Int32) : Met l yX9_isIn zw_c_isInNeg ({ frames := 0, cells := 0, slots := 0, locals := 0 }) (va_Pc [.int n, .int 0, .int (-1)] (fun U => U.heap.size = sz ∧ va_P (dC, dI) vwCl [] U.heap ∧ va_K (dC, dI) vwCl [] U ∧ va_D (fun _ => True) [])) (va_Qi (fun (r : Int32) (_ : Unit) => r = 0) (fun _ t => va_P (dC, dI) vwCl [] t.heap ∧ va_K (dC, dI) vwCl [] t ∧ va_D (va_A [] sz) []) (va_A [] sz)) 0 0 (va_A [] sz) := by
  refine Met.ofW (cc := cX9_isIn) (maxL := 3) (ret := (some .boolean)) (by decide) rfl ?_
  intro p e s m args below meth c s₁ B hml hv
  obtain ⟨rfl, hsz, hP, hK, hD0⟩ := hv
  have hx := B.exec
  have hb := B.bytes
  have hr := B.returns
  have hts := atoms_spec (ws := zw_c_isInNeg) B.pre
  have hown : s.vm.findClass RX9 = some m.cls := findClass_of_methodNamed B.named
  have hlocks := B.notSynchronized
  subst hsz
  have hD := hD0.self (sz := s.heap.size)
  generalize hAe : va_A [] s.heap.size = A at hD ⊢
  have hA : ∀ q : Nat, s.heap.size ≤ q → A q := fun q h => by rw [← hAe]; exact Or.inr h
  have hS : va_S A s.heap s.heap [] := va_S.rf
  have hP : va_P (dC, dI) vwCl [] s.heap := hP
  have hl := lv_entry ([.int n, .int 0, .int (-1)]) (n := 3) (Nat.le_of_ble_eq_true rfl)
  rw [lg_entry_eq]
  generalize (lg_sl ([.int n, .int 0, .int (-1)]) ++ List.replicate (3 - (lg_sl ([.int n, .int 0, .int (-1)])).length) Slot.unset).toArray = ls at hl ⊢
  have hl : lv_has ls 3 [(0, .int n), (1, .int 0), (2, .int (-1))] := hl
  refine lv_iload_n hx hb dX9_isIn_0 rfl (lv_at hl 0 rfl) ?_
  refine lv_iload_n hx hb dX9_isIn_1 rfl (lv_at hl 1 rfl) ?_
  refine lv_icmp_lt (tgt := 14) hx hb dX9_isIn_2 (by decide) (fun c2 => ?_) (fun c2 => ?_)
  · refine lv_iconst (v := 0) hx hb dX9_isIn_14 (by decide) ?_
    have hP9 := hP.sub (ws' := []) [] rfl
    have hD9 := hD.sub (ws' := []) [] (by decide) rfl
    have hK9 := hK.sub (tys' := []) [] rfl
    exact W.zret (v := 0) hx hb hr (by decide) (fun t ht hW => ⟨⟨0, (), rfl, rfl, by rw [ht]; exact hP9, va_K.moved hW.alike hK9, hD9⟩, hS.F ht⟩) hS.2.2 dX9_isIn_15
  · refine lv_iload_n hx hb dX9_isIn_5 rfl (lv_at hl 0 rfl) ?_
    refine lv_iload_n hx hb dX9_isIn_6 rfl (lv_at hl 2 rfl) ?_
    refine lv_icmp_gt (tgt := 14) hx hb dX9_isIn_7 (by decide) (fun c7 => ?_) (fun c7 => absurd c7 (fun z9 => z9 (p1_m1 c2)))
    refine lv_iconst (v := 0) hx hb dX9_isIn_14 (by decide) ?_
    have hP9 := hP.sub (ws' := []) [] rfl
    have hD9 := hD.sub (ws' := []) [] (by decide) rfl
    have hK9 := hK.sub (tys' := []) [] rfl
    exact W.zret (v := 0) hx hb hr (by decide) (fun t ht hW => ⟨⟨0, (), rfl, rfl, by rw [ht]; exact hP9, va_K.moved hW.alike hK9, hD9⟩, hS.F ht⟩) hS.2.2 dX9_isIn_15
def zo_c_canWalkIn : List Cond := [.code yX8_canWalkIn cX8_canWalkIn 3 (some .boolean), .fieldLink RX8 60 "BowWalk" "shop" "LBowWalk$Shop;", .methodLink RX8 104 yX5_has, .instanceMethod yX5_has, .selects RX5 yX5_has yX5_has, .initialized RX5]
def zw_c_canWalkIn : List Cond := zo_c_canWalkIn ++ (zw_c_has0 ++ (wsX80 ++ []))
theorem gz_c_canWalkIn : zw_c_canWalkIn.all goodWord = true := p1_ga (by decide +kernel) (p1_ga gz_c_has0 (p1_ga gk_X8 p1_g0))
theorem iz_c_canWalkIn : ∀ w ∈ zw_c_canWalkIn, w ∈ lw_tbl := p1_ia (p1_all [817, 508, 714, 715, 716, 106] (by decide +kernel)) (p1_ia iz_c_has0 (p1_ia ik_X8 p1_i0))
set_option maxHeartbeats 4000000 in
set_option maxRecDepth 100000 in
theorem c_canWalkIn (l : Launch) (dC : Nat → ClassId) (dI : Nat → Nat → Nat) (sz : Nat) (x : Nat) (xs : List Value) (sh : Nat) (ss : List Value) (sc : Nat) (cS : ClassId) (cord : Int32) (walk : Int32) (f_xs_9 : xs[9]? = some (.ref sh)) (f_ss_0 : ss[0]? = some (.ref sc)) : Met l yX8_canWalkIn zw_c_canWalkIn ({ frames := 1, cells := 0, slots := 0, locals := 22 }) (va_Pc [.ref x, .int cord, .int walk] (fun U => U.heap.size = sz ∧ va_P (dC, dI) vwCl [(x, .inr (7, xs)), (sh, .inr (5, ss)), (sc, .inl (cS, 5, .inl (fun _ => 0)))] U.heap ∧ va_K (dC, dI) vwCl [(cS, .int)] U ∧ va_D (fun _ => True) [(x, .inr (7, xs)), (sh, .inr (5, ss)), (sc, .inl (cS, 5, .inl (fun _ => 0)))])) (va_Qi (fun (r : Int32) (_ : Unit) => r = 0) (fun _ t => va_P (dC, dI) vwCl [(x, .inr (7, xs)), (sh, .inr (5, ss)), (sc, .inl (cS, 5, .inl (fun _ => 0)))] t.heap ∧ va_K (dC, dI) vwCl [(cS, .int)] t ∧ va_D (va_A [(x, .inr (7, xs)), (sh, .inr (5, ss)), (sc, .inl (cS, 5, .inl (fun _ => 0)))] sz) [(x, .inr (7, xs)), (sh, .inr (5, ss)), (sc, .inl (cS, 5, .inl (fun _ => 0)))]) (va_A [(x, .inr (7, xs)), (sh, .inr (5, ss)), (sc, .inl (cS, 5, .inl (fun _ => 0)))] sz)) 0 0 (va_A [(x, .inr (7, xs)), (sh, .inr (5, ss)), (sc, .inl (cS, 5, .inl (fun _ => 0)))] sz) := by
  refine Met.ofW (cc := cX8_canWalkIn) (maxL := 3) (ret := (some .boolean)) (by decide) rfl ?_
  intro p e s m args below meth c s₁ B hml hv
  obtain ⟨rfl, hsz, hP, hK, hD0⟩ := hv
  have hx := B.exec
  have hb := B.bytes
  have hr := B.returns
  have hts := atoms_spec (ws := zw_c_canWalkIn) B.pre
  have hown : s.vm.findClass RX8 = some m.cls := findClass_of_methodNamed B.named
  have hlocks := B.notSynchronized
  subst hsz
  have hD := hD0.self (sz := s.heap.size)
  generalize hAe : va_A [(x, .inr (7, xs)), (sh, .inr (5, ss)), (sc, .inl (cS, 5, .inl (fun _ => 0)))] s.heap.size = A at hD ⊢
  have hA : ∀ q : Nat, s.heap.size ≤ q → A q := fun q h => by rw [← hAe]; exact Or.inr h
  have hS : va_S A s.heap s.heap [] := va_S.rf
  have hP : va_P (dC, dI) vwCl [(x, .inr (7, xs)), (sh, .inr (5, ss)), (sc, .inl (cS, 5, .inl (fun _ => 0)))] s.heap := hP
  have m_0 : (.fieldLink RX8 60 "BowWalk" "shop" "LBowWalk$Shop;" : Cond) ∈ zw_c_canWalkIn := List.mem_append_left _ (List.mem_of_getElem? (i := 1) rfl)
  have k_0 := hts _ m_0
  have m_1 : (.methodLink RX8 104 yX5_has : Cond) ∈ zw_c_canWalkIn := List.mem_append_left _ (List.mem_of_getElem? (i := 2) rfl)
  have k_1 := hts _ m_1
  have m_2 : (.instanceMethod yX5_has : Cond) ∈ zw_c_canWalkIn := List.mem_append_left _ (List.mem_of_getElem? (i := 3) rfl)
  have k_2 := hts _ m_2
  have m_3 : (.selects RX5 yX5_has yX5_has : Cond) ∈ zw_c_canWalkIn := List.mem_append_left _ (List.mem_of_getElem? (i := 4) rfl)
  have k_3 := hts _ m_3
  have m_4 : (.initialized RX5 : Cond) ∈ zw_c_canWalkIn := List.mem_append_left _ (List.mem_of_getElem? (i := 5) rfl)
  have k_4 := hts _ m_4
  have g_c_has0 : ∀ w ∈ zw_c_has0, w ∈ zw_c_canWalkIn := fun w h => List.mem_append_right _ (List.mem_append_left _ h)
  have i_X8 : ∀ w ∈ u_ws RX8 TX8 14, w ∈ zw_c_canWalkIn := fun w h => List.mem_append_right _ (List.mem_append_right _ (List.mem_append_left _ h))
  have hl := lv_entry ([.ref x, .int cord, .int walk]) (n := 3) (Nat.le_of_ble_eq_true rfl)
  rw [lg_entry_eq]
  generalize (lg_sl ([.ref x, .int cord, .int walk]) ++ List.replicate (3 - (lg_sl ([.ref x, .int cord, .int walk])).length) Slot.unset).toArray = ls at hl ⊢
  have hl : lv_has ls 3 [(0, .ref x), (1, .int cord), (2, .int walk)] := hl
  refine lv_aload_n hx hb dX8_canWalkIn_0 rfl (lv_at hl 0 rfl) ?_
  refine va_get (D := (dC, dI)) (ci := 7) (v := .ref sh) (C := RX8) (T := TX8) (N := 14) hx hb hts i_X8 hown hK hP 0 rfl rfl 9 (by decide) k_0 (fun _ h9 => h9) f_xs_9 dX8_canWalkIn_1 ?_
  refine lv_iconst (v := 1) hx hb dX8_canWalkIn_4 (by decide) ?_
  refine lv_iload_n hx hb dX8_canWalkIn_5 rfl (lv_at hl 1 rfl) ?_
  have hPc := hP.sub (ws' := [(sh, .inr (5, ss)), (sc, .inl (cS, 5, .inl (fun _ => 0)))]) [1, 2] rfl
  have hDc := hD.sub (ws' := [(sh, .inr (5, ss)), (sc, .inl (cS, 5, .inl (fun _ => 0)))]) [1, 2] (by decide) rfl
  have hKc := hK.sub (tys' := [(cS, .int)]) [0] rfl
  have hFc := va_free (wc := [(sh, .inr (5, ss)), (sc, .inl (cS, 5, .inl (fun _ => 0)))]) hD hS hA [1, 2] rfl
  refine va_calli (va_runV (As := [.int 1, .int cord]) (rest := []) ⟨hx, hb, hml, hown, hts⟩ (c_has0 l dC dI s.heap.size sh ss sc cS 1 cord f_ss_0 (p1_in (i := 1) (n := 5) (by decide))) (cwV 2 hts (p1_gV m_1 m_2 m_3 m_4 g_c_has0 gz_c_has0) rfl rfl rfl (by decide +kernel) ⟨by decide, by decide⟩) ⟨fun a U g mk q => by obtain ⟨q0, q1, qP, qK, qD⟩ := q; exact ⟨q0, q1, qP, va_K.moved (u := U) (U := U.calling g mk a) (Vm.Alike.refl U.vm) qK, qD⟩, va_recv hKc hPc (ci := 5) (q0 := 0) rfl rfl, fun U hU hW => ⟨rfl, by rw [hU], by rw [hU]; exact hPc, va_K.moved hW.alike hKc, hDc.weaken (fun _ _ _ _ => trivial)⟩⟩ rfl rfl hl.1 rfl (lv_room (Nat.le_of_ble_eq_true rfl)) dX8_canWalkIn_6 ⟨by decide, by decide⟩) hS (fun q _ h => hFc q h) hFc (fun r_1 u t H1 locs ht hvm hw hB hz1 hk1 hS => ?_)
  obtain ⟨hP1, hK1, hD1⟩ := hB
  rw [ht] at hP1
  obtain ⟨hP, hD⟩ := va_join (wr := [(x, .inr (7, xs))]) (w1 := [(sh, .inr (5, ss)), (sc, .inl (cS, 5, .inl (fun _ => 0)))]) hP hD [1, 2] [0] rfl rfl (by decide) (by decide) hk1 hFc hP1 hD1
  generalize H1 = H at hP hS ⊢
  have hP : va_P (dC, dI) vwCl [(x, .inr (7, xs)), (sh, .inr (5, ss)), (sc, .inl (cS, 5, .inl (fun _ => 0)))] H := hP
  have hD : va_D A [(x, .inr (7, xs)), (sh, .inr (5, ss)), (sc, .inl (cS, 5, .inl (fun _ => 0)))] := hD
  try dsimp only at hw
  obtain rfl : r_1 = 0 := hw
  refine lv_if_eq (tgt := 28) hx hb dX8_canWalkIn_9 (by decide) (fun _ => ?_) (fun c9 => absurd c9 (by decide))
  refine lv_iconst (v := 0) hx hb dX8_canWalkIn_28 (by decide) ?_
  have hP9 := hP.sub (ws' := [(x, .inr (7, xs)), (sh, .inr (5, ss)), (sc, .inl (cS, 5, .inl (fun _ => 0)))]) [0, 1, 2] rfl
  have hD9 := hD.sub (ws' := [(x, .inr (7, xs)), (sh, .inr (5, ss)), (sc, .inl (cS, 5, .inl (fun _ => 0)))]) [0, 1, 2] (by decide) rfl
  have hK9 := hK.sub (tys' := [(cS, .int)]) [0] rfl
  exact W.zret (v := 0) hx hb hr (by decide) (fun t ht hW => ⟨⟨0, (), rfl, rfl, by rw [ht]; exact hP9, va_K.moved hW.alike hK9, hD9⟩, hS.F ht⟩) hS.2.2 dX8_canWalkIn_29
def zo_c_canTry : List Cond := [.code yX8_canTry cX8_canTry 4 (some .boolean), .fieldLink RX8 60 "BowWalk" "shop" "LBowWalk$Shop;", .methodLink RX8 104 yX5_has, .instanceMethod yX5_has, .selects RX5 yX5_has yX5_has, .initialized RX5]
def zw_c_canTry : List Cond := zo_c_canTry ++ (zw_c_has0 ++ (wsX80 ++ []))
theorem gz_c_canTry : zw_c_canTry.all goodWord = true := p1_ga (by decide +kernel) (p1_ga gz_c_has0 (p1_ga gk_X8 p1_g0))
theorem iz_c_canTry : ∀ w ∈ zw_c_canTry, w ∈ lw_tbl := p1_ia (p1_all [813, 508, 714, 715, 716, 106] (by decide +kernel)) (p1_ia iz_c_has0 (p1_ia ik_X8 p1_i0))
set_option maxHeartbeats 4000000 in
set_option maxRecDepth 100000 in
theorem c_canTry (l : Launch) (dC : Nat → ClassId) (dI : Nat → Nat → Nat) (sz : Nat) (x : Nat) (xs : List Value) (sh : Nat) (ss : List Value) (sc : Nat) (cS : ClassId) (knot : Int32) (cord : Int32) (walk : Int32) (f_xs_9 : xs[9]? = some (.ref sh)) (f_ss_0 : ss[0]? = some (.ref sc)) : Met l yX8_canTry zw_c_canTry ({ frames := 1, cells := 0, slots := 0, locals := 22 }) (va_Pc [.ref x, .int knot, .int cord, .int walk] (fun U => U.heap.size = sz ∧ va_P (dC, dI) vwCl [(x, .inr (7, xs)), (sh, .inr (5, ss)), (sc, .inl (cS, 5, .inl (fun _ => 0)))] U.heap ∧ va_K (dC, dI) vwCl [(cS, .int)] U ∧ va_D (fun _ => True) [(x, .inr (7, xs)), (sh, .inr (5, ss)), (sc, .inl (cS, 5, .inl (fun _ => 0)))])) (va_Qi (fun (r : Int32) (_ : Unit) => r = 0) (fun _ t => va_P (dC, dI) vwCl [(x, .inr (7, xs)), (sh, .inr (5, ss)), (sc, .inl (cS, 5, .inl (fun _ => 0)))] t.heap ∧ va_K (dC, dI) vwCl [(cS, .int)] t ∧ va_D (va_A [(x, .inr (7, xs)), (sh, .inr (5, ss)), (sc, .inl (cS, 5, .inl (fun _ => 0)))] sz) [(x, .inr (7, xs)), (sh, .inr (5, ss)), (sc, .inl (cS, 5, .inl (fun _ => 0)))]) (va_A [(x, .inr (7, xs)), (sh, .inr (5, ss)), (sc, .inl (cS, 5, .inl (fun _ => 0)))] sz)) 0 0 (va_A [(x, .inr (7, xs)), (sh, .inr (5, ss)), (sc, .inl (cS, 5, .inl (fun _ => 0)))] sz) := by
  refine Met.ofW (cc := cX8_canTry) (maxL := 4) (ret := (some .boolean)) (by decide) rfl ?_
  intro p e s m args below meth c s₁ B hml hv
  obtain ⟨rfl, hsz, hP, hK, hD0⟩ := hv
  have hx := B.exec
  have hb := B.bytes
  have hr := B.returns
  have hts := atoms_spec (ws := zw_c_canTry) B.pre
  have hown : s.vm.findClass RX8 = some m.cls := findClass_of_methodNamed B.named
  have hlocks := B.notSynchronized
  subst hsz
  have hD := hD0.self (sz := s.heap.size)
  generalize hAe : va_A [(x, .inr (7, xs)), (sh, .inr (5, ss)), (sc, .inl (cS, 5, .inl (fun _ => 0)))] s.heap.size = A at hD ⊢
  have hA : ∀ q : Nat, s.heap.size ≤ q → A q := fun q h => by rw [← hAe]; exact Or.inr h
  have hS : va_S A s.heap s.heap [] := va_S.rf
  have hP : va_P (dC, dI) vwCl [(x, .inr (7, xs)), (sh, .inr (5, ss)), (sc, .inl (cS, 5, .inl (fun _ => 0)))] s.heap := hP
  have m_0 : (.fieldLink RX8 60 "BowWalk" "shop" "LBowWalk$Shop;" : Cond) ∈ zw_c_canTry := List.mem_append_left _ (List.mem_of_getElem? (i := 1) rfl)
  have k_0 := hts _ m_0
  have m_1 : (.methodLink RX8 104 yX5_has : Cond) ∈ zw_c_canTry := List.mem_append_left _ (List.mem_of_getElem? (i := 2) rfl)
  have k_1 := hts _ m_1
  have m_2 : (.instanceMethod yX5_has : Cond) ∈ zw_c_canTry := List.mem_append_left _ (List.mem_of_getElem? (i := 3) rfl)
  have k_2 := hts _ m_2
  have m_3 : (.selects RX5 yX5_has yX5_has : Cond) ∈ zw_c_canTry := List.mem_append_left _ (List.mem_of_getElem? (i := 4) rfl)
  have k_3 := hts _ m_3
  have m_4 : (.initialized RX5 : Cond) ∈ zw_c_canTry := List.mem_append_left _ (List.mem_of_getElem? (i := 5) rfl)
  have k_4 := hts _ m_4
  have g_c_has0 : ∀ w ∈ zw_c_has0, w ∈ zw_c_canTry := fun w h => List.mem_append_right _ (List.mem_append_left _ h)
  have i_X8 : ∀ w ∈ u_ws RX8 TX8 14, w ∈ zw_c_canTry := fun w h => List.mem_append_right _ (List.mem_append_right _ (List.mem_append_left _ h))
  have hl := lv_entry ([.ref x, .int knot, .int cord, .int walk]) (n := 4) (Nat.le_of_ble_eq_true rfl)
  rw [lg_entry_eq]
  generalize (lg_sl ([.ref x, .int knot, .int cord, .int walk]) ++ List.replicate (4 - (lg_sl ([.ref x, .int knot, .int cord, .int walk])).length) Slot.unset).toArray = ls at hl ⊢
  have hl : lv_has ls 4 [(0, .ref x), (1, .int knot), (2, .int cord), (3, .int walk)] := hl
  refine lv_aload_n hx hb dX8_canTry_0 rfl (lv_at hl 0 rfl) ?_
  refine va_get (D := (dC, dI)) (ci := 7) (v := .ref sh) (C := RX8) (T := TX8) (N := 14) hx hb hts i_X8 hown hK hP 0 rfl rfl 9 (by decide) k_0 (fun _ h9 => h9) f_xs_9 dX8_canTry_1 ?_
  refine lv_iconst (v := 0) hx hb dX8_canTry_4 (by decide) ?_
  refine lv_iload_n hx hb dX8_canTry_5 rfl (lv_at hl 1 rfl) ?_
  have hPc := hP.sub (ws' := [(sh, .inr (5, ss)), (sc, .inl (cS, 5, .inl (fun _ => 0)))]) [1, 2] rfl
  have hDc := hD.sub (ws' := [(sh, .inr (5, ss)), (sc, .inl (cS, 5, .inl (fun _ => 0)))]) [1, 2] (by decide) rfl
  have hKc := hK.sub (tys' := [(cS, .int)]) [0] rfl
  have hFc := va_free (wc := [(sh, .inr (5, ss)), (sc, .inl (cS, 5, .inl (fun _ => 0)))]) hD hS hA [1, 2] rfl
  refine va_calli (va_runV (As := [.int 0, .int knot]) (rest := []) ⟨hx, hb, hml, hown, hts⟩ (c_has0 l dC dI s.heap.size sh ss sc cS 0 knot f_ss_0 (p1_in (i := 0) (n := 5) (by decide))) (cwV 2 hts (p1_gV m_1 m_2 m_3 m_4 g_c_has0 gz_c_has0) rfl rfl rfl (by decide +kernel) ⟨by decide, by decide⟩) ⟨fun a U g mk q => by obtain ⟨q0, q1, qP, qK, qD⟩ := q; exact ⟨q0, q1, qP, va_K.moved (u := U) (U := U.calling g mk a) (Vm.Alike.refl U.vm) qK, qD⟩, va_recv hKc hPc (ci := 5) (q0 := 0) rfl rfl, fun U hU hW => ⟨rfl, by rw [hU], by rw [hU]; exact hPc, va_K.moved hW.alike hKc, hDc.weaken (fun _ _ _ _ => trivial)⟩⟩ rfl rfl hl.1 rfl (lv_room (Nat.le_of_ble_eq_true rfl)) dX8_canTry_6 ⟨by decide, by decide⟩) hS (fun q _ h => hFc q h) hFc (fun r_1 u t H1 locs ht hvm hw hB hz1 hk1 hS => ?_)
  obtain ⟨hP1, hK1, hD1⟩ := hB
  rw [ht] at hP1
  obtain ⟨hP, hD⟩ := va_join (wr := [(x, .inr (7, xs))]) (w1 := [(sh, .inr (5, ss)), (sc, .inl (cS, 5, .inl (fun _ => 0)))]) hP hD [1, 2] [0] rfl rfl (by decide) (by decide) hk1 hFc hP1 hD1
  generalize H1 = H at hP hS ⊢
  have hP : va_P (dC, dI) vwCl [(x, .inr (7, xs)), (sh, .inr (5, ss)), (sc, .inl (cS, 5, .inl (fun _ => 0)))] H := hP
  have hD : va_D A [(x, .inr (7, xs)), (sh, .inr (5, ss)), (sc, .inl (cS, 5, .inl (fun _ => 0)))] := hD
  try dsimp only at hw
  obtain rfl : r_1 = 0 := hw
  refine lv_if_eq (tgt := 25) hx hb dX8_canTry_9 (by decide) (fun _ => ?_) (fun c9 => absurd c9 (by decide))
  refine lv_iconst (v := 0) hx hb dX8_canTry_25 (by decide) ?_
  have hP9 := hP.sub (ws' := [(x, .inr (7, xs)), (sh, .inr (5, ss)), (sc, .inl (cS, 5, .inl (fun _ => 0)))]) [0, 1, 2] rfl
  have hD9 := hD.sub (ws' := [(x, .inr (7, xs)), (sh, .inr (5, ss)), (sc, .inl (cS, 5, .inl (fun _ => 0)))]) [0, 1, 2] (by decide) rfl
  have hK9 := hK.sub (tys' := [(cS, .int)]) [0] rfl
  exact W.zret (v := 0) hx hb hr (by decide) (fun t ht hW => ⟨⟨0, (), rfl, rfl, by rw [ht]; exact hP9, va_K.moved hW.alike hK9, hD9⟩, hS.F ht⟩) hS.2.2 dX8_canTry_26
def zo_c_isKnot : List Cond := [.code yX9_isKnot cX9_isKnot 2 (some .boolean), .fieldLink RX9 20 "BowWalkModel" "knots" "[I", .fieldLink RX9 291 "BowWalkModel" "bank" "I", .methodLink RX9 389 yX9_isIn, .static yX9_isIn, .initialized RX9]
def zw_c_isKnot : List Cond := zo_c_isKnot ++ (zw_c_isInNeg ++ (wsX90 ++ []))
theorem gz_c_isKnot : zw_c_isKnot.all goodWord = true := p1_ga (by decide +kernel) (p1_ga gz_c_isInNeg (p1_ga gk_X9 p1_g0))
theorem iz_c_isKnot : ∀ w ∈ zw_c_isKnot, w ∈ lw_tbl := p1_ia (p1_all [1438, 1048, 1080, 1439, 1440, 116] (by decide +kernel)) (p1_ia iz_c_isInNeg (p1_ia ik_X9 p1_i0))
set_option maxHeartbeats 4000000 in
set_option maxRecDepth 100000 in
theorem c_isKnot (l : Launch) (dC : Nat → ClassId) (dI : Nat → Nat → Nat) (sz : Nat) (mo : Nat) (ms : List Value) (kn : Nat) (cK : ClassId) (kf : Nat → Int32) (k : Int32) (f_ms_11 : ms[11]? = some (.ref kn)) (f_ms_43 : ms[43]? = some (.int 0)) (h_kf_0 : kf 0 = 0) : Met l yX9_isKnot zw_c_isKnot ({ frames := 1, cells := 0, slots := 0, locals := 22 }) (va_Pc [.ref mo, .int k] (fun U => U.heap.size = sz ∧ va_P (dC, dI) vwCl [(mo, .inr (8, ms)), (kn, .inl (cK, 2, .inl kf))] U.heap ∧ va_K (dC, dI) vwCl [(cK, .int)] U ∧ va_D (fun _ => True) [(mo, .inr (8, ms)), (kn, .inl (cK, 2, .inl kf))])) (va_Qi (fun (r : Int32) (_ : Unit) => r = 0) (fun _ t => va_P (dC, dI) vwCl [(mo, .inr (8, ms)), (kn, .inl (cK, 2, .inl kf))] t.heap ∧ va_K (dC, dI) vwCl [(cK, .int)] t ∧ va_D (va_A [(mo, .inr (8, ms)), (kn, .inl (cK, 2, .inl kf))] sz) [(mo, .inr (8, ms)), (kn, .inl (cK, 2, .inl kf))]) (va_A [(mo, .inr (8, ms)), (kn, .inl (cK, 2, .inl kf))] sz)) 0 0 (va_A [(mo, .inr (8, ms)), (kn, .inl (cK, 2, .inl kf))] sz) := by
  refine Met.ofW (cc := cX9_isKnot) (maxL := 2) (ret := (some .boolean)) (by decide) rfl ?_
  intro p e s m args below meth c s₁ B hml hv
  obtain ⟨rfl, hsz, hP, hK, hD0⟩ := hv
  have hx := B.exec
  have hb := B.bytes
  have hr := B.returns
  have hts := atoms_spec (ws := zw_c_isKnot) B.pre
  have hown : s.vm.findClass RX9 = some m.cls := findClass_of_methodNamed B.named
  have hlocks := B.notSynchronized
  subst hsz
  have hD := hD0.self (sz := s.heap.size)
  generalize hAe : va_A [(mo, .inr (8, ms)), (kn, .inl (cK, 2, .inl kf))] s.heap.size = A at hD ⊢
  have hA : ∀ q : Nat, s.heap.size ≤ q → A q := fun q h => by rw [← hAe]; exact Or.inr h
  have hS : va_S A s.heap s.heap [] := va_S.rf
  have hP : va_P (dC, dI) vwCl [(mo, .inr (8, ms)), (kn, .inl (cK, 2, .inl kf))] s.heap := hP
  have m_0 : (.fieldLink RX9 20 "BowWalkModel" "knots" "[I" : Cond) ∈ zw_c_isKnot := List.mem_append_left _ (List.mem_of_getElem? (i := 1) rfl)
  have k_0 := hts _ m_0
  have m_1 : (.fieldLink RX9 291 "BowWalkModel" "bank" "I" : Cond) ∈ zw_c_isKnot := List.mem_append_left _ (List.mem_of_getElem? (i := 2) rfl)
  have k_1 := hts _ m_1
  have m_2 : (.methodLink RX9 389 yX9_isIn : Cond) ∈ zw_c_isKnot := List.mem_append_left _ (List.mem_of_getElem? (i := 3) rfl)
  have k_2 := hts _ m_2
  have m_3 : (.static yX9_isIn : Cond) ∈ zw_c_isKnot := List.mem_append_left _ (List.mem_of_getElem? (i := 4) rfl)
  have k_3 := hts _ m_3
  have m_4 : (.initialized RX9 : Cond) ∈ zw_c_isKnot := List.mem_append_left _ (List.mem_of_getElem? (i := 5) rfl)
  have k_4 := hts _ m_4
  have g_c_isInNeg : ∀ w ∈ zw_c_isInNeg, w ∈ zw_c_isKnot := fun w h => List.mem_append_right _ (List.mem_append_left _ h)
  have i_X9 : ∀ w ∈ u_ws RX9 TX9 81, w ∈ zw_c_isKnot := fun w h => List.mem_append_right _ (List.mem_append_right _ (List.mem_append_left _ h))
  have hl := lv_entry ([.ref mo, .int k]) (n := 2) (Nat.le_of_ble_eq_true rfl)
  rw [lg_entry_eq]
  generalize (lg_sl ([.ref mo, .int k]) ++ List.replicate (2 - (lg_sl ([.ref mo, .int k])).length) Slot.unset).toArray = ls at hl ⊢
  have hl : lv_has ls 2 [(0, .ref mo), (1, .int k)] := hl
  refine lv_iload_n hx hb dX9_isKnot_0 rfl (lv_at hl 1 rfl) ?_
  refine lv_iconst (v := 0) hx hb dX9_isKnot_1 (by decide) ?_
  refine lv_aload_n hx hb dX9_isKnot_2 rfl (lv_at hl 0 rfl) ?_
  refine va_get (D := (dC, dI)) (ci := 8) (v := .ref kn) (C := RX9) (T := TX9) (N := 81) hx hb hts i_X9 hown hK hP 0 rfl rfl 11 (by decide) k_0 (fun _ h9 => h9) f_ms_11 dX9_isKnot_3 ?_
  refine lv_aload_n hx hb dX9_isKnot_6 rfl (lv_at hl 0 rfl) ?_
  refine va_get (D := (dC, dI)) (ci := 8) (v := .int 0) (C := RX9) (T := TX9) (N := 81) hx hb hts i_X9 hown hK hP 0 rfl rfl 43 (by decide) k_1 (fun _ h9 => h9) f_ms_43 dX9_isKnot_7 ?_
  refine va_iald hx hb hK hP 1 0 rfl rfl (p1_in (i := 0) (n := 2) (by decide)) dX9_isKnot_10 ?_
  refine lv_topi (fun v_1 ev_1 => ?_)
  obtain rfl : v_1 = 0 := ev_1.trans h_kf_0
  refine lv_iconst (v := 1) hx hb dX9_isKnot_11 (by decide) ?_
  refine lv_isub hx hb dX9_isKnot_12 ?_
  refine lv_topi (fun v_2 ev_2 => ?_)
  obtain rfl : v_2 = (-1) := ev_2.trans (by decide)
  have hPc := hP.sub (ws' := []) [] rfl
  have hDc := hD.sub (ws' := []) [] (by decide) rfl
  have hKc := hK.sub (tys' := []) [] rfl
  have hFc := va_free (wc := []) hD hS hA [] rfl
  refine va_calli (va_runS (As := [.int k, .int 0, .int (-1)]) (rest := []) ⟨hx, hb, hml, hown, hts⟩ (c_isInNeg l dC dI s.heap.size k) (va_cwS 3 hts (p1_gS m_2 m_3 m_4 g_c_isInNeg gz_c_isInNeg) rfl rfl rfl (by decide +kernel) ⟨by decide, by decide⟩) ⟨fun a U g mk q => by obtain ⟨q0, q1, qP, qK, qD⟩ := q; exact ⟨q0, q1, qP, va_K.moved (u := U) (U := U.calling g mk a) (Vm.Alike.refl U.vm) qK, qD⟩, fun U hU hW => ⟨rfl, by rw [hU], by rw [hU]; exact hPc, va_K.moved hW.alike hKc, hDc.weaken (fun _ _ _ _ => trivial)⟩⟩ rfl rfl hl.1 rfl (lv_room (Nat.le_of_ble_eq_true rfl)) dX9_isKnot_13 ⟨by decide, by decide⟩) hS (fun q _ h => hFc q h) hFc (fun r_3 u t H1 locs ht hvm hw hB hz1 hk1 hS => ?_)
  obtain ⟨hP1, hK1, hD1⟩ := hB
  rw [ht] at hP1
  obtain ⟨hP, hD⟩ := va_join (wr := [(mo, .inr (8, ms)), (kn, .inl (cK, 2, .inl kf))]) (w1 := []) hP hD [] [0, 1] rfl rfl (by decide) (by decide) hk1 hFc hP1 hD1
  generalize H1 = H at hP hS ⊢
  have hP : va_P (dC, dI) vwCl [(mo, .inr (8, ms)), (kn, .inl (cK, 2, .inl kf))] H := hP
  have hD : va_D A [(mo, .inr (8, ms)), (kn, .inl (cK, 2, .inl kf))] := hD
  try dsimp only at hw
  obtain rfl : r_3 = 0 := hw
  have hP9 := hP.sub (ws' := [(mo, .inr (8, ms)), (kn, .inl (cK, 2, .inl kf))]) [0, 1] rfl
  have hD9 := hD.sub (ws' := [(mo, .inr (8, ms)), (kn, .inl (cK, 2, .inl kf))]) [0, 1] (by decide) rfl
  have hK9 := hK.sub (tys' := [(cK, .int)]) [0] rfl
  exact W.zret (v := 0) hx hb hr (by decide) (fun t ht hW => ⟨⟨0, (), rfl, rfl, by rw [ht]; exact hP9, va_K.moved hW.alike hK9, hD9⟩, hS.F ht⟩) hS.2.2 dX9_isKnot_16
def zo_c_isCord : List Cond := [.code yX9_isCord cX9_isCord 2 (some .boolean), .fieldLink RX9 24 "BowWalkModel" "cords" "[I", .fieldLink RX9 291 "BowWalkModel" "bank" "I", .methodLink RX9 389 yX9_isIn, .static yX9_isIn, .initialized RX9]
def zw_c_isCord : List Cond := zo_c_isCord ++ (zw_c_isInNeg ++ (wsX90 ++ []))
theorem gz_c_isCord : zw_c_isCord.all goodWord = true := p1_ga (by decide +kernel) (p1_ga gz_c_isInNeg (p1_ga gk_X9 p1_g0))
theorem iz_c_isCord : ∀ w ∈ zw_c_isCord, w ∈ lw_tbl := p1_ia (p1_all [1445, 1049, 1080, 1439, 1440, 116] (by decide +kernel)) (p1_ia iz_c_isInNeg (p1_ia ik_X9 p1_i0))
set_option maxHeartbeats 4000000 in
set_option maxRecDepth 100000 in
theorem c_isCord (l : Launch) (dC : Nat → ClassId) (dI : Nat → Nat → Nat) (sz : Nat) (mo : Nat) (ms : List Value) (co : Nat) (cC : ClassId) (cf : Nat → Int32) (k : Int32) (f_ms_12 : ms[12]? = some (.ref co)) (f_ms_43 : ms[43]? = some (.int 0)) (h_cf_0 : cf 0 = 0) : Met l yX9_isCord zw_c_isCord ({ frames := 1, cells := 0, slots := 0, locals := 22 }) (va_Pc [.ref mo, .int k] (fun U => U.heap.size = sz ∧ va_P (dC, dI) vwCl [(mo, .inr (8, ms)), (co, .inl (cC, 2, .inl cf))] U.heap ∧ va_K (dC, dI) vwCl [(cC, .int)] U ∧ va_D (fun _ => True) [(mo, .inr (8, ms)), (co, .inl (cC, 2, .inl cf))])) (va_Qi (fun (r : Int32) (_ : Unit) => r = 0) (fun _ t => va_P (dC, dI) vwCl [(mo, .inr (8, ms)), (co, .inl (cC, 2, .inl cf))] t.heap ∧ va_K (dC, dI) vwCl [(cC, .int)] t ∧ va_D (va_A [(mo, .inr (8, ms)), (co, .inl (cC, 2, .inl cf))] sz) [(mo, .inr (8, ms)), (co, .inl (cC, 2, .inl cf))]) (va_A [(mo, .inr (8, ms)), (co, .inl (cC, 2, .inl cf))] sz)) 0 0 (va_A [(mo, .inr (8, ms)), (co, .inl (cC, 2, .inl cf))] sz) := by
  refine Met.ofW (cc := cX9_isCord) (maxL := 2) (ret := (some .boolean)) (by decide) rfl ?_
  intro p e s m args below meth c s₁ B hml hv
  obtain ⟨rfl, hsz, hP, hK, hD0⟩ := hv
  have hx := B.exec
  have hb := B.bytes
  have hr := B.returns
  have hts := atoms_spec (ws := zw_c_isCord) B.pre
  have hown : s.vm.findClass RX9 = some m.cls := findClass_of_methodNamed B.named
  have hlocks := B.notSynchronized
  subst hsz
  have hD := hD0.self (sz := s.heap.size)
  generalize hAe : va_A [(mo, .inr (8, ms)), (co, .inl (cC, 2, .inl cf))] s.heap.size = A at hD ⊢
  have hA : ∀ q : Nat, s.heap.size ≤ q → A q := fun q h => by rw [← hAe]; exact Or.inr h
  have hS : va_S A s.heap s.heap [] := va_S.rf
  have hP : va_P (dC, dI) vwCl [(mo, .inr (8, ms)), (co, .inl (cC, 2, .inl cf))] s.heap := hP
  have m_0 : (.fieldLink RX9 24 "BowWalkModel" "cords" "[I" : Cond) ∈ zw_c_isCord := List.mem_append_left _ (List.mem_of_getElem? (i := 1) rfl)
  have k_0 := hts _ m_0
  have m_1 : (.fieldLink RX9 291 "BowWalkModel" "bank" "I" : Cond) ∈ zw_c_isCord := List.mem_append_left _ (List.mem_of_getElem? (i := 2) rfl)
  have k_1 := hts _ m_1
  have m_2 : (.methodLink RX9 389 yX9_isIn : Cond) ∈ zw_c_isCord := List.mem_append_left _ (List.mem_of_getElem? (i := 3) rfl)
  have k_2 := hts _ m_2
  have m_3 : (.static yX9_isIn : Cond) ∈ zw_c_isCord := List.mem_append_left _ (List.mem_of_getElem? (i := 4) rfl)
  have k_3 := hts _ m_3
  have m_4 : (.initialized RX9 : Cond) ∈ zw_c_isCord := List.mem_append_left _ (List.mem_of_getElem? (i := 5) rfl)
  have k_4 := hts _ m_4
  have g_c_isInNeg : ∀ w ∈ zw_c_isInNeg, w ∈ zw_c_isCord := fun w h => List.mem_append_right _ (List.mem_append_left _ h)
  have i_X9 : ∀ w ∈ u_ws RX9 TX9 81, w ∈ zw_c_isCord := fun w h => List.mem_append_right _ (List.mem_append_right _ (List.mem_append_left _ h))
  have hl := lv_entry ([.ref mo, .int k]) (n := 2) (Nat.le_of_ble_eq_true rfl)
  rw [lg_entry_eq]
  generalize (lg_sl ([.ref mo, .int k]) ++ List.replicate (2 - (lg_sl ([.ref mo, .int k])).length) Slot.unset).toArray = ls at hl ⊢
  have hl : lv_has ls 2 [(0, .ref mo), (1, .int k)] := hl
  refine lv_iload_n hx hb dX9_isCord_0 rfl (lv_at hl 1 rfl) ?_
  refine lv_iconst (v := 0) hx hb dX9_isCord_1 (by decide) ?_
  refine lv_aload_n hx hb dX9_isCord_2 rfl (lv_at hl 0 rfl) ?_
  refine va_get (D := (dC, dI)) (ci := 8) (v := .ref co) (C := RX9) (T := TX9) (N := 81) hx hb hts i_X9 hown hK hP 0 rfl rfl 12 (by decide) k_0 (fun _ h9 => h9) f_ms_12 dX9_isCord_3 ?_
  refine lv_aload_n hx hb dX9_isCord_6 rfl (lv_at hl 0 rfl) ?_
  refine va_get (D := (dC, dI)) (ci := 8) (v := .int 0) (C := RX9) (T := TX9) (N := 81) hx hb hts i_X9 hown hK hP 0 rfl rfl 43 (by decide) k_1 (fun _ h9 => h9) f_ms_43 dX9_isCord_7 ?_
  refine va_iald hx hb hK hP 1 0 rfl rfl (p1_in (i := 0) (n := 2) (by decide)) dX9_isCord_10 ?_
  refine lv_topi (fun v_1 ev_1 => ?_)
  obtain rfl : v_1 = 0 := ev_1.trans h_cf_0
  refine lv_iconst (v := 1) hx hb dX9_isCord_11 (by decide) ?_
  refine lv_isub hx hb dX9_isCord_12 ?_
  refine lv_topi (fun v_2 ev_2 => ?_)
  obtain rfl : v_2 = (-1) := ev_2.trans (by decide)
  have hPc := hP.sub (ws' := []) [] rfl
  have hDc := hD.sub (ws' := []) [] (by decide) rfl
  have hKc := hK.sub (tys' := []) [] rfl
  have hFc := va_free (wc := []) hD hS hA [] rfl
  refine va_calli (va_runS (As := [.int k, .int 0, .int (-1)]) (rest := []) ⟨hx, hb, hml, hown, hts⟩ (c_isInNeg l dC dI s.heap.size k) (va_cwS 3 hts (p1_gS m_2 m_3 m_4 g_c_isInNeg gz_c_isInNeg) rfl rfl rfl (by decide +kernel) ⟨by decide, by decide⟩) ⟨fun a U g mk q => by obtain ⟨q0, q1, qP, qK, qD⟩ := q; exact ⟨q0, q1, qP, va_K.moved (u := U) (U := U.calling g mk a) (Vm.Alike.refl U.vm) qK, qD⟩, fun U hU hW => ⟨rfl, by rw [hU], by rw [hU]; exact hPc, va_K.moved hW.alike hKc, hDc.weaken (fun _ _ _ _ => trivial)⟩⟩ rfl rfl hl.1 rfl (lv_room (Nat.le_of_ble_eq_true rfl)) dX9_isCord_13 ⟨by decide, by decide⟩) hS (fun q _ h => hFc q h) hFc (fun r_3 u t H1 locs ht hvm hw hB hz1 hk1 hS => ?_)
  obtain ⟨hP1, hK1, hD1⟩ := hB
  rw [ht] at hP1
  obtain ⟨hP, hD⟩ := va_join (wr := [(mo, .inr (8, ms)), (co, .inl (cC, 2, .inl cf))]) (w1 := []) hP hD [] [0, 1] rfl rfl (by decide) (by decide) hk1 hFc hP1 hD1
  generalize H1 = H at hP hS ⊢
  have hP : va_P (dC, dI) vwCl [(mo, .inr (8, ms)), (co, .inl (cC, 2, .inl cf))] H := hP
  have hD : va_D A [(mo, .inr (8, ms)), (co, .inl (cC, 2, .inl cf))] := hD
  try dsimp only at hw
  obtain rfl : r_3 = 0 := hw
  have hP9 := hP.sub (ws' := [(mo, .inr (8, ms)), (co, .inl (cC, 2, .inl cf))]) [0, 1] rfl
  have hD9 := hD.sub (ws' := [(mo, .inr (8, ms)), (co, .inl (cC, 2, .inl cf))]) [0, 1] (by decide) rfl
  have hK9 := hK.sub (tys' := [(cC, .int)]) [0] rfl
  exact W.zret (v := 0) hx hb hr (by decide) (fun t ht hW => ⟨⟨0, (), rfl, rfl, by rw [ht]; exact hP9, va_K.moved hW.alike hK9, hD9⟩, hS.F ht⟩) hS.2.2 dX9_isCord_16
def zo_c_isWalk : List Cond := [.code yX9_isWalk cX9_isWalk 2 (some .boolean), .fieldLink RX9 27 "BowWalkModel" "walks" "[I", .fieldLink RX9 291 "BowWalkModel" "bank" "I", .methodLink RX9 389 yX9_isIn, .static yX9_isIn, .initialized RX9]
def zw_c_isWalk : List Cond := zo_c_isWalk ++ (zw_c_isInNeg ++ (wsX90 ++ []))
theorem gz_c_isWalk : zw_c_isWalk.all goodWord = true := p1_ga (by decide +kernel) (p1_ga gz_c_isInNeg (p1_ga gk_X9 p1_g0))
theorem iz_c_isWalk : ∀ w ∈ zw_c_isWalk, w ∈ lw_tbl := p1_ia (p1_all [1461, 1050, 1080, 1439, 1440, 116] (by decide +kernel)) (p1_ia iz_c_isInNeg (p1_ia ik_X9 p1_i0))
set_option maxHeartbeats 4000000 in
set_option maxRecDepth 100000 in
theorem c_isWalk (l : Launch) (dC : Nat → ClassId) (dI : Nat → Nat → Nat) (sz : Nat) (mo : Nat) (ms : List Value) (wa : Nat) (cW : ClassId) (wf : Nat → Int32) (k : Int32) (f_ms_13 : ms[13]? = some (.ref wa)) (f_ms_43 : ms[43]? = some (.int 0)) (h_wf_0 : wf 0 = 0) : Met l yX9_isWalk zw_c_isWalk ({ frames := 1, cells := 0, slots := 0, locals := 22 }) (va_Pc [.ref mo, .int k] (fun U => U.heap.size = sz ∧ va_P (dC, dI) vwCl [(mo, .inr (8, ms)), (wa, .inl (cW, 2, .inl wf))] U.heap ∧ va_K (dC, dI) vwCl [(cW, .int)] U ∧ va_D (fun _ => True) [(mo, .inr (8, ms)), (wa, .inl (cW, 2, .inl wf))])) (va_Qi (fun (r : Int32) (_ : Unit) => r = 0) (fun _ t => va_P (dC, dI) vwCl [(mo, .inr (8, ms)), (wa, .inl (cW, 2, .inl wf))] t.heap ∧ va_K (dC, dI) vwCl [(cW, .int)] t ∧ va_D (va_A [(mo, .inr (8, ms)), (wa, .inl (cW, 2, .inl wf))] sz) [(mo, .inr (8, ms)), (wa, .inl (cW, 2, .inl wf))]) (va_A [(mo, .inr (8, ms)), (wa, .inl (cW, 2, .inl wf))] sz)) 0 0 (va_A [(mo, .inr (8, ms)), (wa, .inl (cW, 2, .inl wf))] sz) := by
  refine Met.ofW (cc := cX9_isWalk) (maxL := 2) (ret := (some .boolean)) (by decide) rfl ?_
  intro p e s m args below meth c s₁ B hml hv
  obtain ⟨rfl, hsz, hP, hK, hD0⟩ := hv
  have hx := B.exec
  have hb := B.bytes
  have hr := B.returns
  have hts := atoms_spec (ws := zw_c_isWalk) B.pre
  have hown : s.vm.findClass RX9 = some m.cls := findClass_of_methodNamed B.named
  have hlocks := B.notSynchronized
  subst hsz
  have hD := hD0.self (sz := s.heap.size)
  generalize hAe : va_A [(mo, .inr (8, ms)), (wa, .inl (cW, 2, .inl wf))] s.heap.size = A at hD ⊢
  have hA : ∀ q : Nat, s.heap.size ≤ q → A q := fun q h => by rw [← hAe]; exact Or.inr h
  have hS : va_S A s.heap s.heap [] := va_S.rf
  have hP : va_P (dC, dI) vwCl [(mo, .inr (8, ms)), (wa, .inl (cW, 2, .inl wf))] s.heap := hP
  have m_0 : (.fieldLink RX9 27 "BowWalkModel" "walks" "[I" : Cond) ∈ zw_c_isWalk := List.mem_append_left _ (List.mem_of_getElem? (i := 1) rfl)
  have k_0 := hts _ m_0
  have m_1 : (.fieldLink RX9 291 "BowWalkModel" "bank" "I" : Cond) ∈ zw_c_isWalk := List.mem_append_left _ (List.mem_of_getElem? (i := 2) rfl)
  have k_1 := hts _ m_1
  have m_2 : (.methodLink RX9 389 yX9_isIn : Cond) ∈ zw_c_isWalk := List.mem_append_left _ (List.mem_of_getElem? (i := 3) rfl)
  have k_2 := hts _ m_2
  have m_3 : (.static yX9_isIn : Cond) ∈ zw_c_isWalk := List.mem_append_left _ (List.mem_of_getElem? (i := 4) rfl)
  have k_3 := hts _ m_3
  have m_4 : (.initialized RX9 : Cond) ∈ zw_c_isWalk := List.mem_append_left _ (List.mem_of_getElem? (i := 5) rfl)
  have k_4 := hts _ m_4
  have g_c_isInNeg : ∀ w ∈ zw_c_isInNeg, w ∈ zw_c_isWalk := fun w h => List.mem_append_right _ (List.mem_append_left _ h)
  have i_X9 : ∀ w ∈ u_ws RX9 TX9 81, w ∈ zw_c_isWalk := fun w h => List.mem_append_right _ (List.mem_append_right _ (List.mem_append_left _ h))
  have hl := lv_entry ([.ref mo, .int k]) (n := 2) (Nat.le_of_ble_eq_true rfl)
  rw [lg_entry_eq]
  generalize (lg_sl ([.ref mo, .int k]) ++ List.replicate (2 - (lg_sl ([.ref mo, .int k])).length) Slot.unset).toArray = ls at hl ⊢
  have hl : lv_has ls 2 [(0, .ref mo), (1, .int k)] := hl
  refine lv_iload_n hx hb dX9_isWalk_0 rfl (lv_at hl 1 rfl) ?_
  refine lv_iconst (v := 0) hx hb dX9_isWalk_1 (by decide) ?_
  refine lv_aload_n hx hb dX9_isWalk_2 rfl (lv_at hl 0 rfl) ?_
  refine va_get (D := (dC, dI)) (ci := 8) (v := .ref wa) (C := RX9) (T := TX9) (N := 81) hx hb hts i_X9 hown hK hP 0 rfl rfl 13 (by decide) k_0 (fun _ h9 => h9) f_ms_13 dX9_isWalk_3 ?_
  refine lv_aload_n hx hb dX9_isWalk_6 rfl (lv_at hl 0 rfl) ?_
  refine va_get (D := (dC, dI)) (ci := 8) (v := .int 0) (C := RX9) (T := TX9) (N := 81) hx hb hts i_X9 hown hK hP 0 rfl rfl 43 (by decide) k_1 (fun _ h9 => h9) f_ms_43 dX9_isWalk_7 ?_
  refine va_iald hx hb hK hP 1 0 rfl rfl (p1_in (i := 0) (n := 2) (by decide)) dX9_isWalk_10 ?_
  refine lv_topi (fun v_1 ev_1 => ?_)
  obtain rfl : v_1 = 0 := ev_1.trans h_wf_0
  refine lv_iconst (v := 1) hx hb dX9_isWalk_11 (by decide) ?_
  refine lv_isub hx hb dX9_isWalk_12 ?_
  refine lv_topi (fun v_2 ev_2 => ?_)
  obtain rfl : v_2 = (-1) := ev_2.trans (by decide)
  have hPc := hP.sub (ws' := []) [] rfl
  have hDc := hD.sub (ws' := []) [] (by decide) rfl
  have hKc := hK.sub (tys' := []) [] rfl
  have hFc := va_free (wc := []) hD hS hA [] rfl
  refine va_calli (va_runS (As := [.int k, .int 0, .int (-1)]) (rest := []) ⟨hx, hb, hml, hown, hts⟩ (c_isInNeg l dC dI s.heap.size k) (va_cwS 3 hts (p1_gS m_2 m_3 m_4 g_c_isInNeg gz_c_isInNeg) rfl rfl rfl (by decide +kernel) ⟨by decide, by decide⟩) ⟨fun a U g mk q => by obtain ⟨q0, q1, qP, qK, qD⟩ := q; exact ⟨q0, q1, qP, va_K.moved (u := U) (U := U.calling g mk a) (Vm.Alike.refl U.vm) qK, qD⟩, fun U hU hW => ⟨rfl, by rw [hU], by rw [hU]; exact hPc, va_K.moved hW.alike hKc, hDc.weaken (fun _ _ _ _ => trivial)⟩⟩ rfl rfl hl.1 rfl (lv_room (Nat.le_of_ble_eq_true rfl)) dX9_isWalk_13 ⟨by decide, by decide⟩) hS (fun q _ h => hFc q h) hFc (fun r_3 u t H1 locs ht hvm hw hB hz1 hk1 hS => ?_)
  obtain ⟨hP1, hK1, hD1⟩ := hB
  rw [ht] at hP1
  obtain ⟨hP, hD⟩ := va_join (wr := [(mo, .inr (8, ms)), (wa, .inl (cW, 2, .inl wf))]) (w1 := []) hP hD [] [0, 1] rfl rfl (by decide) (by decide) hk1 hFc hP1 hD1
  generalize H1 = H at hP hS ⊢
  have hP : va_P (dC, dI) vwCl [(mo, .inr (8, ms)), (wa, .inl (cW, 2, .inl wf))] H := hP
  have hD : va_D A [(mo, .inr (8, ms)), (wa, .inl (cW, 2, .inl wf))] := hD
  try dsimp only at hw
  obtain rfl : r_3 = 0 := hw
  have hP9 := hP.sub (ws' := [(mo, .inr (8, ms)), (wa, .inl (cW, 2, .inl wf))]) [0, 1] rfl
  have hD9 := hD.sub (ws' := [(mo, .inr (8, ms)), (wa, .inl (cW, 2, .inl wf))]) [0, 1] (by decide) rfl
  have hK9 := hK.sub (tys' := [(cW, .int)]) [0] rfl
  exact W.zret (v := 0) hx hb hr (by decide) (fun t ht hW => ⟨⟨0, (), rfl, rfl, by rw [ht]; exact hP9, va_K.moved hW.alike hK9, hD9⟩, hS.F ht⟩) hS.2.2 dX9_isWalk_16
def zo_c_isWant : List Cond := [.code yX9_isWant cX9_isWant 2 (some .boolean), .fieldLink RX9 33 "BowWalkModel" "wants" "[I", .fieldLink RX9 291 "BowWalkModel" "bank" "I", .methodLink RX9 389 yX9_isIn, .static yX9_isIn, .initialized RX9]
def zw_c_isWant : List Cond := zo_c_isWant ++ (zw_c_isInNeg ++ (wsX90 ++ []))
theorem gz_c_isWant : zw_c_isWant.all goodWord = true := p1_ga (by decide +kernel) (p1_ga gz_c_isInNeg (p1_ga gk_X9 p1_g0))
theorem iz_c_isWant : ∀ w ∈ zw_c_isWant, w ∈ lw_tbl := p1_ia (p1_all [1585, 1052, 1080, 1439, 1440, 116] (by decide +kernel)) (p1_ia iz_c_isInNeg (p1_ia ik_X9 p1_i0))
set_option maxHeartbeats 4000000 in
set_option maxRecDepth 100000 in
theorem c_isWant (l : Launch) (dC : Nat → ClassId) (dI : Nat → Nat → Nat) (sz : Nat) (mo : Nat) (ms : List Value) (wt : Nat) (cT : ClassId) (tf : Nat → Int32) (k : Int32) (f_ms_15 : ms[15]? = some (.ref wt)) (f_ms_43 : ms[43]? = some (.int 0)) (h_tf_0 : tf 0 = 0) : Met l yX9_isWant zw_c_isWant ({ frames := 1, cells := 0, slots := 0, locals := 22 }) (va_Pc [.ref mo, .int k] (fun U => U.heap.size = sz ∧ va_P (dC, dI) vwCl [(mo, .inr (8, ms)), (wt, .inl (cT, 2, .inl tf))] U.heap ∧ va_K (dC, dI) vwCl [(cT, .int)] U ∧ va_D (fun _ => True) [(mo, .inr (8, ms)), (wt, .inl (cT, 2, .inl tf))])) (va_Qi (fun (r : Int32) (_ : Unit) => r = 0) (fun _ t => va_P (dC, dI) vwCl [(mo, .inr (8, ms)), (wt, .inl (cT, 2, .inl tf))] t.heap ∧ va_K (dC, dI) vwCl [(cT, .int)] t ∧ va_D (va_A [(mo, .inr (8, ms)), (wt, .inl (cT, 2, .inl tf))] sz) [(mo, .inr (8, ms)), (wt, .inl (cT, 2, .inl tf))]) (va_A [(mo, .inr (8, ms)), (wt, .inl (cT, 2, .inl tf))] sz)) 0 0 (va_A [(mo, .inr (8, ms)), (wt, .inl (cT, 2, .inl tf))] sz) := by
  refine Met.ofW (cc := cX9_isWant) (maxL := 2) (ret := (some .boolean)) (by decide) rfl ?_
  intro p e s m args below meth c s₁ B hml hv
  obtain ⟨rfl, hsz, hP, hK, hD0⟩ := hv
  have hx := B.exec
  have hb := B.bytes
  have hr := B.returns
  have hts := atoms_spec (ws := zw_c_isWant) B.pre
  have hown : s.vm.findClass RX9 = some m.cls := findClass_of_methodNamed B.named
  have hlocks := B.notSynchronized
  subst hsz
  have hD := hD0.self (sz := s.heap.size)
  generalize hAe : va_A [(mo, .inr (8, ms)), (wt, .inl (cT, 2, .inl tf))] s.heap.size = A at hD ⊢
  have hA : ∀ q : Nat, s.heap.size ≤ q → A q := fun q h => by rw [← hAe]; exact Or.inr h
  have hS : va_S A s.heap s.heap [] := va_S.rf
  have hP : va_P (dC, dI) vwCl [(mo, .inr (8, ms)), (wt, .inl (cT, 2, .inl tf))] s.heap := hP
  have m_0 : (.fieldLink RX9 33 "BowWalkModel" "wants" "[I" : Cond) ∈ zw_c_isWant := List.mem_append_left _ (List.mem_of_getElem? (i := 1) rfl)
  have k_0 := hts _ m_0
  have m_1 : (.fieldLink RX9 291 "BowWalkModel" "bank" "I" : Cond) ∈ zw_c_isWant := List.mem_append_left _ (List.mem_of_getElem? (i := 2) rfl)
  have k_1 := hts _ m_1
  have m_2 : (.methodLink RX9 389 yX9_isIn : Cond) ∈ zw_c_isWant := List.mem_append_left _ (List.mem_of_getElem? (i := 3) rfl)
  have k_2 := hts _ m_2
  have m_3 : (.static yX9_isIn : Cond) ∈ zw_c_isWant := List.mem_append_left _ (List.mem_of_getElem? (i := 4) rfl)
  have k_3 := hts _ m_3
  have m_4 : (.initialized RX9 : Cond) ∈ zw_c_isWant := List.mem_append_left _ (List.mem_of_getElem? (i := 5) rfl)
  have k_4 := hts _ m_4
  have g_c_isInNeg : ∀ w ∈ zw_c_isInNeg, w ∈ zw_c_isWant := fun w h => List.mem_append_right _ (List.mem_append_left _ h)
  have i_X9 : ∀ w ∈ u_ws RX9 TX9 81, w ∈ zw_c_isWant := fun w h => List.mem_append_right _ (List.mem_append_right _ (List.mem_append_left _ h))
  have hl := lv_entry ([.ref mo, .int k]) (n := 2) (Nat.le_of_ble_eq_true rfl)
  rw [lg_entry_eq]
  generalize (lg_sl ([.ref mo, .int k]) ++ List.replicate (2 - (lg_sl ([.ref mo, .int k])).length) Slot.unset).toArray = ls at hl ⊢
  have hl : lv_has ls 2 [(0, .ref mo), (1, .int k)] := hl
  refine lv_iload_n hx hb dX9_isWant_0 rfl (lv_at hl 1 rfl) ?_
  refine lv_iconst (v := 0) hx hb dX9_isWant_1 (by decide) ?_
  refine lv_aload_n hx hb dX9_isWant_2 rfl (lv_at hl 0 rfl) ?_
  refine va_get (D := (dC, dI)) (ci := 8) (v := .ref wt) (C := RX9) (T := TX9) (N := 81) hx hb hts i_X9 hown hK hP 0 rfl rfl 15 (by decide) k_0 (fun _ h9 => h9) f_ms_15 dX9_isWant_3 ?_
  refine lv_aload_n hx hb dX9_isWant_6 rfl (lv_at hl 0 rfl) ?_
  refine va_get (D := (dC, dI)) (ci := 8) (v := .int 0) (C := RX9) (T := TX9) (N := 81) hx hb hts i_X9 hown hK hP 0 rfl rfl 43 (by decide) k_1 (fun _ h9 => h9) f_ms_43 dX9_isWant_7 ?_
  refine va_iald hx hb hK hP 1 0 rfl rfl (p1_in (i := 0) (n := 2) (by decide)) dX9_isWant_10 ?_
  refine lv_topi (fun v_1 ev_1 => ?_)
  obtain rfl : v_1 = 0 := ev_1.trans h_tf_0
  refine lv_iconst (v := 1) hx hb dX9_isWant_11 (by decide) ?_
  refine lv_isub hx hb dX9_isWant_12 ?_
  refine lv_topi (fun v_2 ev_2 => ?_)
  obtain rfl : v_2 = (-1) := ev_2.trans (by decide)
  have hPc := hP.sub (ws' := []) [] rfl
  have hDc := hD.sub (ws' := []) [] (by decide) rfl
  have hKc := hK.sub (tys' := []) [] rfl
  have hFc := va_free (wc := []) hD hS hA [] rfl
  refine va_calli (va_runS (As := [.int k, .int 0, .int (-1)]) (rest := []) ⟨hx, hb, hml, hown, hts⟩ (c_isInNeg l dC dI s.heap.size k) (va_cwS 3 hts (p1_gS m_2 m_3 m_4 g_c_isInNeg gz_c_isInNeg) rfl rfl rfl (by decide +kernel) ⟨by decide, by decide⟩) ⟨fun a U g mk q => by obtain ⟨q0, q1, qP, qK, qD⟩ := q; exact ⟨q0, q1, qP, va_K.moved (u := U) (U := U.calling g mk a) (Vm.Alike.refl U.vm) qK, qD⟩, fun U hU hW => ⟨rfl, by rw [hU], by rw [hU]; exact hPc, va_K.moved hW.alike hKc, hDc.weaken (fun _ _ _ _ => trivial)⟩⟩ rfl rfl hl.1 rfl (lv_room (Nat.le_of_ble_eq_true rfl)) dX9_isWant_13 ⟨by decide, by decide⟩) hS (fun q _ h => hFc q h) hFc (fun r_3 u t H1 locs ht hvm hw hB hz1 hk1 hS => ?_)
  obtain ⟨hP1, hK1, hD1⟩ := hB
  rw [ht] at hP1
  obtain ⟨hP, hD⟩ := va_join (wr := [(mo, .inr (8, ms)), (wt, .inl (cT, 2, .inl tf))]) (w1 := []) hP hD [] [0, 1] rfl rfl (by decide) (by decide) hk1 hFc hP1 hD1
  generalize H1 = H at hP hS ⊢
  have hP : va_P (dC, dI) vwCl [(mo, .inr (8, ms)), (wt, .inl (cT, 2, .inl tf))] H := hP
  have hD : va_D A [(mo, .inr (8, ms)), (wt, .inl (cT, 2, .inl tf))] := hD
  try dsimp only at hw
  obtain rfl : r_3 = 0 := hw
  have hP9 := hP.sub (ws' := [(mo, .inr (8, ms)), (wt, .inl (cT, 2, .inl tf))]) [0, 1] rfl
  have hD9 := hD.sub (ws' := [(mo, .inr (8, ms)), (wt, .inl (cT, 2, .inl tf))]) [0, 1] (by decide) rfl
  have hK9 := hK.sub (tys' := [(cT, .int)]) [0] rfl
  exact W.zret (v := 0) hx hb hr (by decide) (fun t ht hW => ⟨⟨0, (), rfl, rfl, by rw [ht]; exact hP9, va_K.moved hW.alike hK9, hD9⟩, hS.F ht⟩) hS.2.2 dX9_isWant_16
def zo_c_isAll : List Cond := [.code yX9_isAll cX9_isAll 4 (some .boolean), .methodLink RX9 431 yX9_isKnot, .instanceMethod yX9_isKnot, .selects RX9 yX9_isKnot yX9_isKnot, .initialized RX9]
def zw_c_isAll : List Cond := zo_c_isAll ++ (zw_c_isKnot ++ [])
theorem gz_c_isAll : zw_c_isAll.all goodWord = true := p1_ga (by decide +kernel) (p1_ga gz_c_isKnot p1_g0)
theorem iz_c_isAll : ∀ w ∈ zw_c_isAll, w ∈ lw_tbl := p1_ia (p1_all [1521, 1435, 1437, 71, 116] (by decide +kernel)) (p1_ia iz_c_isKnot p1_i0)
set_option maxHeartbeats 4000000 in
set_option maxRecDepth 100000 in
theorem c_isAll (l : Launch) (dC : Nat → ClassId) (dI : Nat → Nat → Nat) (sz : Nat) (mo : Nat) (ms : List Value) (kn : Nat) (cK : ClassId) (kf : Nat → Int32) (a1 : Int32) (a2 : Int32) (a3 : Int32) (f_ms_11 : ms[11]? = some (.ref kn)) (f_ms_43 : ms[43]? = some (.int 0)) (h_kf_0 : kf 0 = 0) : Met l yX9_isAll zw_c_isAll ({ frames := 2, cells := 0, slots := 0, locals := 43 }) (va_Pc [.ref mo, .int a1, .int a2, .int a3] (fun U => U.heap.size = sz ∧ va_P (dC, dI) vwCl [(mo, .inr (8, ms)), (kn, .inl (cK, 2, .inl kf))] U.heap ∧ va_K (dC, dI) vwCl [(cK, .int)] U ∧ va_D (fun _ => True) [(mo, .inr (8, ms)), (kn, .inl (cK, 2, .inl kf))])) (va_Qi (fun (r : Int32) (_ : Unit) => r = 0) (fun _ t => va_P (dC, dI) vwCl [(mo, .inr (8, ms)), (kn, .inl (cK, 2, .inl kf))] t.heap ∧ va_K (dC, dI) vwCl [(cK, .int)] t ∧ va_D (va_A [(mo, .inr (8, ms)), (kn, .inl (cK, 2, .inl kf))] sz) [(mo, .inr (8, ms)), (kn, .inl (cK, 2, .inl kf))]) (va_A [(mo, .inr (8, ms)), (kn, .inl (cK, 2, .inl kf))] sz)) 0 0 (va_A [(mo, .inr (8, ms)), (kn, .inl (cK, 2, .inl kf))] sz) := by
  refine Met.ofW (cc := cX9_isAll) (maxL := 4) (ret := (some .boolean)) (by decide) rfl ?_
  intro p e s m args below meth c s₁ B hml hv
  obtain ⟨rfl, hsz, hP, hK, hD0⟩ := hv
  have hx := B.exec
  have hb := B.bytes
  have hr := B.returns
  have hts := atoms_spec (ws := zw_c_isAll) B.pre
  have hown : s.vm.findClass RX9 = some m.cls := findClass_of_methodNamed B.named
  have hlocks := B.notSynchronized
  subst hsz
  have hD := hD0.self (sz := s.heap.size)
  generalize hAe : va_A [(mo, .inr (8, ms)), (kn, .inl (cK, 2, .inl kf))] s.heap.size = A at hD ⊢
  have hA : ∀ q : Nat, s.heap.size ≤ q → A q := fun q h => by rw [← hAe]; exact Or.inr h
  have hS : va_S A s.heap s.heap [] := va_S.rf
  have hP : va_P (dC, dI) vwCl [(mo, .inr (8, ms)), (kn, .inl (cK, 2, .inl kf))] s.heap := hP
  have m_0 : (.methodLink RX9 431 yX9_isKnot : Cond) ∈ zw_c_isAll := List.mem_append_left _ (List.mem_of_getElem? (i := 1) rfl)
  have k_0 := hts _ m_0
  have m_1 : (.instanceMethod yX9_isKnot : Cond) ∈ zw_c_isAll := List.mem_append_left _ (List.mem_of_getElem? (i := 2) rfl)
  have k_1 := hts _ m_1
  have m_2 : (.selects RX9 yX9_isKnot yX9_isKnot : Cond) ∈ zw_c_isAll := List.mem_append_left _ (List.mem_of_getElem? (i := 3) rfl)
  have k_2 := hts _ m_2
  have m_3 : (.initialized RX9 : Cond) ∈ zw_c_isAll := List.mem_append_left _ (List.mem_of_getElem? (i := 4) rfl)
  have k_3 := hts _ m_3
  have g_c_isKnot : ∀ w ∈ zw_c_isKnot, w ∈ zw_c_isAll := fun w h => List.mem_append_right _ (List.mem_append_left _ h)
  have hl := lv_entry ([.ref mo, .int a1, .int a2, .int a3]) (n := 4) (Nat.le_of_ble_eq_true rfl)
  rw [lg_entry_eq]
  generalize (lg_sl ([.ref mo, .int a1, .int a2, .int a3]) ++ List.replicate (4 - (lg_sl ([.ref mo, .int a1, .int a2, .int a3])).length) Slot.unset).toArray = ls at hl ⊢
  have hl : lv_has ls 4 [(0, .ref mo), (1, .int a1), (2, .int a2), (3, .int a3)] := hl
  refine lv_aload_n hx hb dX9_isAll_0 rfl (lv_at hl 0 rfl) ?_
  refine lv_iload_n hx hb dX9_isAll_1 rfl (lv_at hl 1 rfl) ?_
  have hPc := hP.sub (ws' := [(mo, .inr (8, ms)), (kn, .inl (cK, 2, .inl kf))]) [0, 1] rfl
  have hDc := hD.sub (ws' := [(mo, .inr (8, ms)), (kn, .inl (cK, 2, .inl kf))]) [0, 1] (by decide) rfl
  have hKc := hK.sub (tys' := [(cK, .int)]) [0] rfl
  have hFc := va_free (wc := [(mo, .inr (8, ms)), (kn, .inl (cK, 2, .inl kf))]) hD hS hA [0, 1] rfl
  refine va_calli (va_runV (As := [.int a1]) (rest := []) ⟨hx, hb, hml, hown, hts⟩ (c_isKnot l dC dI s.heap.size mo ms kn cK kf a1 f_ms_11 f_ms_43 h_kf_0) (cwV 1 hts (p1_gV m_0 m_1 m_2 m_3 g_c_isKnot gz_c_isKnot) rfl rfl rfl (by decide +kernel) ⟨by decide, by decide⟩) ⟨fun a U g mk q => by obtain ⟨q0, q1, qP, qK, qD⟩ := q; exact ⟨q0, q1, qP, va_K.moved (u := U) (U := U.calling g mk a) (Vm.Alike.refl U.vm) qK, qD⟩, va_recv hKc hPc (ci := 8) (q0 := 0) rfl rfl, fun U hU hW => ⟨rfl, by rw [hU], by rw [hU]; exact hPc, va_K.moved hW.alike hKc, hDc.weaken (fun _ _ _ _ => trivial)⟩⟩ rfl rfl hl.1 rfl (lv_room (Nat.le_of_ble_eq_true rfl)) dX9_isAll_2 ⟨by decide, by decide⟩) hS (fun q _ h => hFc q h) hFc (fun r_1 u t H1 locs ht hvm hw hB hz1 hk1 hS => ?_)
  obtain ⟨hP1, hK1, hD1⟩ := hB
  rw [ht] at hP1
  obtain ⟨hP, hD⟩ := va_join (wr := []) (w1 := [(mo, .inr (8, ms)), (kn, .inl (cK, 2, .inl kf))]) hP hD [0, 1] [] rfl rfl (by decide) (by decide) hk1 hFc hP1 hD1
  generalize H1 = H at hP hS ⊢
  have hP : va_P (dC, dI) vwCl [(mo, .inr (8, ms)), (kn, .inl (cK, 2, .inl kf))] H := hP
  have hD : va_D A [(mo, .inr (8, ms)), (kn, .inl (cK, 2, .inl kf))] := hD
  try dsimp only at hw
  obtain rfl : r_1 = 0 := hw
  refine lv_if_eq (tgt := 28) hx hb dX9_isAll_5 (by decide) (fun _ => ?_) (fun c9 => absurd c9 (by decide))
  refine lv_iconst (v := 0) hx hb dX9_isAll_28 (by decide) ?_
  have hP9 := hP.sub (ws' := [(mo, .inr (8, ms)), (kn, .inl (cK, 2, .inl kf))]) [0, 1] rfl
  have hD9 := hD.sub (ws' := [(mo, .inr (8, ms)), (kn, .inl (cK, 2, .inl kf))]) [0, 1] (by decide) rfl
  have hK9 := hK.sub (tys' := [(cK, .int)]) [0] rfl
  exact W.zret (v := 0) hx hb hr (by decide) (fun t ht hW => ⟨⟨0, (), rfl, rfl, by rw [ht]; exact hP9, va_K.moved hW.alike hK9, hD9⟩, hS.F ht⟩) hS.2.2 dX9_isAll_29
def zo_c_lawMany : List Cond := [.code yX9_lawMany cX9_lawMany 1 (some .int), .fieldLink RX9 30 "BowWalkModel" "laws" "[I", .fieldLink RX9 291 "BowWalkModel" "bank" "I"]
def zw_c_lawMany : List Cond := zo_c_lawMany ++ (wsX90 ++ [])
theorem gz_c_lawMany : zw_c_lawMany.all goodWord = true := p1_ga (by decide +kernel) (p1_ga gk_X9 p1_g0)
theorem iz_c_lawMany : ∀ w ∈ zw_c_lawMany, w ∈ lw_tbl := p1_ia (p1_all [1651, 1051, 1080] (by decide +kernel)) (p1_ia ik_X9 p1_i0)
set_option maxHeartbeats 4000000 in
set_option maxRecDepth 100000 in
theorem c_lawMany (l : Launch) (dC : Nat → ClassId) (dI : Nat → Nat → Nat) (sz : Nat) (mo : Nat) (ms : List Value) (la : Nat) (cL : ClassId) (lf : Nat → Int32) (f_ms_14 : ms[14]? = some (.ref la)) (f_ms_43 : ms[43]? = some (.int 0)) (h_lf_0 : lf 0 = 0) : Met l yX9_lawMany zw_c_lawMany ({ frames := 0, cells := 0, slots := 0, locals := 0 }) (va_Pc [.ref mo] (fun U => U.heap.size = sz ∧ va_P (dC, dI) vwCl [(mo, .inr (8, ms)), (la, .inl (cL, 2, .inl lf))] U.heap ∧ va_K (dC, dI) vwCl [(cL, .int)] U ∧ va_D (fun _ => True) [(mo, .inr (8, ms)), (la, .inl (cL, 2, .inl lf))])) (va_Qi (fun (r : Int32) (_ : Unit) => r = 1) (fun _ t => va_P (dC, dI) vwCl [(mo, .inr (8, ms)), (la, .inl (cL, 2, .inl lf))] t.heap ∧ va_K (dC, dI) vwCl [(cL, .int)] t ∧ va_D (va_A [(mo, .inr (8, ms)), (la, .inl (cL, 2, .inl lf))] sz) [(mo, .inr (8, ms)), (la, .inl (cL, 2, .inl lf))]) (va_A [(mo, .inr (8, ms)), (la, .inl (cL, 2, .inl lf))] sz)) 0 0 (va_A [(mo, .inr (8, ms)), (la, .inl (cL, 2, .inl lf))] sz) := by
  refine Met.ofW (cc := cX9_lawMany) (maxL := 1) (ret := (some .int)) (by decide) rfl ?_
  intro p e s m args below meth c s₁ B hml hv
  obtain ⟨rfl, hsz, hP, hK, hD0⟩ := hv
  have hx := B.exec
  have hb := B.bytes
  have hr := B.returns
  have hts := atoms_spec (ws := zw_c_lawMany) B.pre
  have hown : s.vm.findClass RX9 = some m.cls := findClass_of_methodNamed B.named
  have hlocks := B.notSynchronized
  subst hsz
  have hD := hD0.self (sz := s.heap.size)
  generalize hAe : va_A [(mo, .inr (8, ms)), (la, .inl (cL, 2, .inl lf))] s.heap.size = A at hD ⊢
  have hA : ∀ q : Nat, s.heap.size ≤ q → A q := fun q h => by rw [← hAe]; exact Or.inr h
  have hS : va_S A s.heap s.heap [] := va_S.rf
  have hP : va_P (dC, dI) vwCl [(mo, .inr (8, ms)), (la, .inl (cL, 2, .inl lf))] s.heap := hP
  have m_0 : (.fieldLink RX9 30 "BowWalkModel" "laws" "[I" : Cond) ∈ zw_c_lawMany := List.mem_append_left _ (List.mem_of_getElem? (i := 1) rfl)
  have k_0 := hts _ m_0
  have m_1 : (.fieldLink RX9 291 "BowWalkModel" "bank" "I" : Cond) ∈ zw_c_lawMany := List.mem_append_left _ (List.mem_of_getElem? (i := 2) rfl)
  have k_1 := hts _ m_1
  have i_X9 : ∀ w ∈ u_ws RX9 TX9 81, w ∈ zw_c_lawMany := fun w h => List.mem_append_right _ (List.mem_append_left _ h)
  have hl := lv_entry ([.ref mo]) (n := 1) (Nat.le_of_ble_eq_true rfl)
  rw [lg_entry_eq]
  generalize (lg_sl ([.ref mo]) ++ List.replicate (1 - (lg_sl ([.ref mo])).length) Slot.unset).toArray = ls at hl ⊢
  have hl : lv_has ls 1 [(0, .ref mo)] := hl
  refine lv_aload_n hx hb dX9_lawMany_0 rfl (lv_at hl 0 rfl) ?_
  refine va_get (D := (dC, dI)) (ci := 8) (v := .ref la) (C := RX9) (T := TX9) (N := 81) hx hb hts i_X9 hown hK hP 0 rfl rfl 14 (by decide) k_0 (fun _ h9 => h9) f_ms_14 dX9_lawMany_1 ?_
  refine lv_aload_n hx hb dX9_lawMany_4 rfl (lv_at hl 0 rfl) ?_
  refine va_get (D := (dC, dI)) (ci := 8) (v := .int 0) (C := RX9) (T := TX9) (N := 81) hx hb hts i_X9 hown hK hP 0 rfl rfl 43 (by decide) k_1 (fun _ h9 => h9) f_ms_43 dX9_lawMany_5 ?_
  refine va_iald hx hb hK hP 1 0 rfl rfl (p1_in (i := 0) (n := 2) (by decide)) dX9_lawMany_8 ?_
  refine lv_topi (fun v_1 ev_1 => ?_)
  obtain rfl : v_1 = 0 := ev_1.trans h_lf_0
  refine lv_if_le (tgt := 24) hx hb dX9_lawMany_9 (by decide) (fun _ => ?_) (fun c9 => absurd c9 (by decide))
  refine lv_iconst (v := 1) hx hb dX9_lawMany_24 (by decide) ?_
  have hP9 := hP.sub (ws' := [(mo, .inr (8, ms)), (la, .inl (cL, 2, .inl lf))]) [0, 1] rfl
  have hD9 := hD.sub (ws' := [(mo, .inr (8, ms)), (la, .inl (cL, 2, .inl lf))]) [0, 1] (by decide) rfl
  have hK9 := hK.sub (tys' := [(cL, .int)]) [0] rfl
  exact W.iret (v := 1) hx hb hr (fun t ht hW => ⟨⟨1, (), rfl, rfl, by rw [ht]; exact hP9, va_K.moved hW.alike hK9, hD9⟩, hS.F ht⟩) hS.2.2 dX9_lawMany_25
def zo_c_lawsAsked : List Cond := [.code yX5_lawsAsked cX5_lawsAsked 1 (some .int), .fieldLink RX5 9 "BowWalk$Shop" "count" "[I", .methodLink RX5 67 Lib.Math.max.name, .static Lib.Math.max.name, .initialized "java/lang/Math", .code Lib.Math.max.name Lib.Math.max.code 2 (some .int)]
def zw_c_lawsAsked : List Cond := zo_c_lawsAsked ++ (wsX50 ++ [])
theorem gz_c_lawsAsked : zw_c_lawsAsked.all goodWord = true := p1_ga (by decide +kernel) (p1_ga gk_X5 p1_g0)
theorem iz_c_lawsAsked : ∀ w ∈ zw_c_lawsAsked, w ∈ lw_tbl := p1_ia (p1_all [821, 174, 822, 763, 117, 764] (by decide +kernel)) (p1_ia ik_X5 p1_i0)
set_option maxHeartbeats 4000000 in
set_option maxRecDepth 100000 in
theorem c_lawsAsked (l : Launch) (dC : Nat → ClassId) (dI : Nat → Nat → Nat) (sz : Nat) (sh : Nat) (ss : List Value) (sc : Nat) (cS : ClassId) (f_ss_0 : ss[0]? = some (.ref sc)) : Met l yX5_lawsAsked zw_c_lawsAsked ({ frames := 1, cells := 0, slots := 0, locals := 22 }) (va_Pc [.ref sh] (fun U => U.heap.size = sz ∧ va_P (dC, dI) vwCl [(sh, .inr (5, ss)), (sc, .inl (cS, 5, .inl (fun _ => 0)))] U.heap ∧ va_K (dC, dI) vwCl [(cS, .int)] U ∧ va_D (fun _ => True) [(sh, .inr (5, ss)), (sc, .inl (cS, 5, .inl (fun _ => 0)))])) (va_Qi (fun (r : Int32) (_ : Unit) => r = 1) (fun _ t => va_P (dC, dI) vwCl [(sh, .inr (5, ss)), (sc, .inl (cS, 5, .inl (fun _ => 0)))] t.heap ∧ va_K (dC, dI) vwCl [(cS, .int)] t ∧ va_D (va_A [(sh, .inr (5, ss)), (sc, .inl (cS, 5, .inl (fun _ => 0)))] sz) [(sh, .inr (5, ss)), (sc, .inl (cS, 5, .inl (fun _ => 0)))]) (va_A [(sh, .inr (5, ss)), (sc, .inl (cS, 5, .inl (fun _ => 0)))] sz)) 0 0 (va_A [(sh, .inr (5, ss)), (sc, .inl (cS, 5, .inl (fun _ => 0)))] sz) := by
  refine Met.ofW (cc := cX5_lawsAsked) (maxL := 1) (ret := (some .int)) (by decide) rfl ?_
  intro p e s m args below meth c s₁ B hml hv
  obtain ⟨rfl, hsz, hP, hK, hD0⟩ := hv
  have hx := B.exec
  have hb := B.bytes
  have hr := B.returns
  have hts := atoms_spec (ws := zw_c_lawsAsked) B.pre
  have hown : s.vm.findClass RX5 = some m.cls := findClass_of_methodNamed B.named
  have hlocks := B.notSynchronized
  subst hsz
  have hD := hD0.self (sz := s.heap.size)
  generalize hAe : va_A [(sh, .inr (5, ss)), (sc, .inl (cS, 5, .inl (fun _ => 0)))] s.heap.size = A at hD ⊢
  have hA : ∀ q : Nat, s.heap.size ≤ q → A q := fun q h => by rw [← hAe]; exact Or.inr h
  have hS : va_S A s.heap s.heap [] := va_S.rf
  have hP : va_P (dC, dI) vwCl [(sh, .inr (5, ss)), (sc, .inl (cS, 5, .inl (fun _ => 0)))] s.heap := hP
  have m_0 : (.fieldLink RX5 9 "BowWalk$Shop" "count" "[I" : Cond) ∈ zw_c_lawsAsked := List.mem_append_left _ (List.mem_of_getElem? (i := 1) rfl)
  have k_0 := hts _ m_0
  have m_1 : (.methodLink RX5 67 Lib.Math.max.name : Cond) ∈ zw_c_lawsAsked := List.mem_append_left _ (List.mem_of_getElem? (i := 2) rfl)
  have k_1 := hts _ m_1
  have m_2 : (.static Lib.Math.max.name : Cond) ∈ zw_c_lawsAsked := List.mem_append_left _ (List.mem_of_getElem? (i := 3) rfl)
  have k_2 := hts _ m_2
  have m_3 : (.initialized "java/lang/Math" : Cond) ∈ zw_c_lawsAsked := List.mem_append_left _ (List.mem_of_getElem? (i := 4) rfl)
  have k_3 := hts _ m_3
  have m_4 : (.code Lib.Math.max.name Lib.Math.max.code 2 (some .int) : Cond) ∈ zw_c_lawsAsked := List.mem_append_left _ (List.mem_of_getElem? (i := 5) rfl)
  have k_4 := hts _ m_4
  have i_X5 : ∀ w ∈ u_ws RX5 TX5 15, w ∈ zw_c_lawsAsked := fun w h => List.mem_append_right _ (List.mem_append_left _ h)
  have hl := lv_entry ([.ref sh]) (n := 1) (Nat.le_of_ble_eq_true rfl)
  rw [lg_entry_eq]
  generalize (lg_sl ([.ref sh]) ++ List.replicate (1 - (lg_sl ([.ref sh])).length) Slot.unset).toArray = ls at hl ⊢
  have hl : lv_has ls 1 [(0, .ref sh)] := hl
  refine lv_iconst (v := 1) hx hb dX5_lawsAsked_0 (by decide) ?_
  refine lv_aload_n hx hb dX5_lawsAsked_1 rfl (lv_at hl 0 rfl) ?_
  refine va_get (D := (dC, dI)) (ci := 5) (v := .ref sc) (C := RX5) (T := TX5) (N := 15) hx hb hts i_X5 hown hK hP 0 rfl rfl 0 (by decide) k_0 (fun _ h9 => h9) f_ss_0 dX5_lawsAsked_2 ?_
  refine lv_iconst (v := 3) hx hb dX5_lawsAsked_5 (by decide) ?_
  refine va_iald hx hb hK hP 1 0 rfl rfl (p1_in (i := 3) (n := 5) (by decide)) dX5_lawsAsked_6 ?_
  refine lv_topi (fun v_1 ev_1 => ?_)
  obtain rfl : v_1 = 0 := ev_1.trans rfl
  refine va_mmax hx hb (by rw [hml]; exact hl.1.symm) hown k_1 k_2 k_3 k_4 (Nat.le_of_ble_eq_true rfl) (Nat.le_of_ble_eq_true rfl) (Nat.le_of_ble_eq_true rfl) (Nat.le_of_ble_eq_true rfl) dX5_lawsAsked_7 ?_
  refine lv_topi (fun v_2 ev_2 => ?_)
  obtain rfl : v_2 = 1 := ev_2.trans (by decide)
  have hP9 := hP.sub (ws' := [(sh, .inr (5, ss)), (sc, .inl (cS, 5, .inl (fun _ => 0)))]) [0, 1] rfl
  have hD9 := hD.sub (ws' := [(sh, .inr (5, ss)), (sc, .inl (cS, 5, .inl (fun _ => 0)))]) [0, 1] (by decide) rfl
  have hK9 := hK.sub (tys' := [(cS, .int)]) [0] rfl
  exact W.iret (v := 1) hx hb hr (fun t ht hW => ⟨⟨1, (), rfl, rfl, by rw [ht]; exact hP9, va_K.moved hW.alike hK9, hD9⟩, hS.F ht⟩) hS.2.2 dX5_lawsAsked_10
def zo_c_hasPair : List Cond := [.code yX5_hasPair cX5_hasPair 2 (some .boolean), .methodLink RX5 73 yX5_lawsAsked, .instanceMethod yX5_lawsAsked, .selects RX5 yX5_lawsAsked yX5_lawsAsked, .initialized RX5, .methodLink RX5 77 yX5_has, .instanceMethod yX5_has, .selects RX5 yX5_has yX5_has]
def zw_c_hasPair : List Cond := zo_c_hasPair ++ (zw_c_lawsAsked ++ (zw_c_has0 ++ []))
theorem gz_c_hasPair : zw_c_hasPair.all goodWord = true := p1_ga (by decide +kernel) (p1_ga gz_c_lawsAsked (p1_ga gz_c_has0 p1_g0))
theorem iz_c_hasPair : ∀ w ∈ zw_c_hasPair, w ∈ lw_tbl := p1_ia (p1_all [954, 955, 819, 820, 106, 956, 715, 716] (by decide +kernel)) (p1_ia iz_c_lawsAsked (p1_ia iz_c_has0 p1_i0))
set_option maxHeartbeats 4000000 in
set_option maxRecDepth 100000 in
theorem c_hasPair (l : Launch) (dC : Nat → ClassId) (dI : Nat → Nat → Nat) (sz : Nat) (sh : Nat) (ss : List Value) (sc : Nat) (cS : ClassId) (a1 : Int32) (f_ss_0 : ss[0]? = some (.ref sc)) : Met l yX5_hasPair zw_c_hasPair ({ frames := 2, cells := 0, slots := 0, locals := 42 }) (va_Pc [.ref sh, .int a1] (fun U => U.heap.size = sz ∧ va_P (dC, dI) vwCl [(sh, .inr (5, ss)), (sc, .inl (cS, 5, .inl (fun _ => 0)))] U.heap ∧ va_K (dC, dI) vwCl [(cS, .int)] U ∧ va_D (fun _ => True) [(sh, .inr (5, ss)), (sc, .inl (cS, 5, .inl (fun _ => 0)))])) (va_Qi (fun (r : Int32) (_ : Unit) => r = 0) (fun _ t => va_P (dC, dI) vwCl [(sh, .inr (5, ss)), (sc, .inl (cS, 5, .inl (fun _ => 0)))] t.heap ∧ va_K (dC, dI) vwCl [(cS, .int)] t ∧ va_D (va_A [(sh, .inr (5, ss)), (sc, .inl (cS, 5, .inl (fun _ => 0)))] sz) [(sh, .inr (5, ss)), (sc, .inl (cS, 5, .inl (fun _ => 0)))]) (va_A [(sh, .inr (5, ss)), (sc, .inl (cS, 5, .inl (fun _ => 0)))] sz)) 0 0 (va_A [(sh, .inr (5, ss)), (sc, .inl (cS, 5, .inl (fun _ => 0)))] sz) := by
  refine Met.ofW (cc := cX5_hasPair) (maxL := 2) (ret := (some .boolean)) (by decide) rfl ?_
  intro p e s m args below meth c s₁ B hml hv
  obtain ⟨rfl, hsz, hP, hK, hD0⟩ := hv
  have hx := B.exec
  have hb := B.bytes
  have hr := B.returns
  have hts := atoms_spec (ws := zw_c_hasPair) B.pre
  have hown : s.vm.findClass RX5 = some m.cls := findClass_of_methodNamed B.named
  have hlocks := B.notSynchronized
  subst hsz
  have hD := hD0.self (sz := s.heap.size)
  generalize hAe : va_A [(sh, .inr (5, ss)), (sc, .inl (cS, 5, .inl (fun _ => 0)))] s.heap.size = A at hD ⊢
  have hA : ∀ q : Nat, s.heap.size ≤ q → A q := fun q h => by rw [← hAe]; exact Or.inr h
  have hS : va_S A s.heap s.heap [] := va_S.rf
  have hP : va_P (dC, dI) vwCl [(sh, .inr (5, ss)), (sc, .inl (cS, 5, .inl (fun _ => 0)))] s.heap := hP
  have m_0 : (.methodLink RX5 73 yX5_lawsAsked : Cond) ∈ zw_c_hasPair := List.mem_append_left _ (List.mem_of_getElem? (i := 1) rfl)
  have k_0 := hts _ m_0
  have m_1 : (.instanceMethod yX5_lawsAsked : Cond) ∈ zw_c_hasPair := List.mem_append_left _ (List.mem_of_getElem? (i := 2) rfl)
  have k_1 := hts _ m_1
  have m_2 : (.selects RX5 yX5_lawsAsked yX5_lawsAsked : Cond) ∈ zw_c_hasPair := List.mem_append_left _ (List.mem_of_getElem? (i := 3) rfl)
  have k_2 := hts _ m_2
  have m_3 : (.initialized RX5 : Cond) ∈ zw_c_hasPair := List.mem_append_left _ (List.mem_of_getElem? (i := 4) rfl)
  have k_3 := hts _ m_3
  have m_4 : (.methodLink RX5 77 yX5_has : Cond) ∈ zw_c_hasPair := List.mem_append_left _ (List.mem_of_getElem? (i := 5) rfl)
  have k_4 := hts _ m_4
  have m_5 : (.instanceMethod yX5_has : Cond) ∈ zw_c_hasPair := List.mem_append_left _ (List.mem_of_getElem? (i := 6) rfl)
  have k_5 := hts _ m_5
  have m_6 : (.selects RX5 yX5_has yX5_has : Cond) ∈ zw_c_hasPair := List.mem_append_left _ (List.mem_of_getElem? (i := 7) rfl)
  have k_6 := hts _ m_6
  have g_c_lawsAsked : ∀ w ∈ zw_c_lawsAsked, w ∈ zw_c_hasPair := fun w h => List.mem_append_right _ (List.mem_append_left _ h)
  have g_c_has0 : ∀ w ∈ zw_c_has0, w ∈ zw_c_hasPair := fun w h => List.mem_append_right _ (List.mem_append_right _ (List.mem_append_left _ h))
  have hl := lv_entry ([.ref sh, .int a1]) (n := 2) (Nat.le_of_ble_eq_true rfl)
  rw [lg_entry_eq]
  generalize (lg_sl ([.ref sh, .int a1]) ++ List.replicate (2 - (lg_sl ([.ref sh, .int a1])).length) Slot.unset).toArray = ls at hl ⊢
  have hl : lv_has ls 2 [(0, .ref sh), (1, .int a1)] := hl
  refine lv_iload_n hx hb dX5_hasPair_0 rfl (lv_at hl 1 rfl) ?_
  refine lv_if_lt (tgt := 29) hx hb dX5_hasPair_1 (by decide) (fun c1 => ?_) (fun c1 => ?_)
  · refine lv_iconst (v := 0) hx hb dX5_hasPair_29 (by decide) ?_
    have hP9 := hP.sub (ws' := [(sh, .inr (5, ss)), (sc, .inl (cS, 5, .inl (fun _ => 0)))]) [0, 1] rfl
    have hD9 := hD.sub (ws' := [(sh, .inr (5, ss)), (sc, .inl (cS, 5, .inl (fun _ => 0)))]) [0, 1] (by decide) rfl
    have hK9 := hK.sub (tys' := [(cS, .int)]) [0] rfl
    exact W.zret (v := 0) hx hb hr (by decide) (fun t ht hW => ⟨⟨0, (), rfl, rfl, by rw [ht]; exact hP9, va_K.moved hW.alike hK9, hD9⟩, hS.F ht⟩) hS.2.2 dX5_hasPair_30
  · refine lv_iload_n hx hb dX5_hasPair_4 rfl (lv_at hl 1 rfl) ?_
    refine lv_iconst (v := 4) hx hb dX5_hasPair_5 (by decide) ?_
    refine lv_idiv hx hb dX5_hasPair_6 (by decide) ?_
    refine lv_topi (fun v_1 ev_1 => ?_)
    refine lv_aload_n hx hb dX5_hasPair_7 rfl (lv_at hl 0 rfl) ?_
    have hPc := hP.sub (ws' := [(sh, .inr (5, ss)), (sc, .inl (cS, 5, .inl (fun _ => 0)))]) [0, 1] rfl
    have hDc := hD.sub (ws' := [(sh, .inr (5, ss)), (sc, .inl (cS, 5, .inl (fun _ => 0)))]) [0, 1] (by decide) rfl
    have hKc := hK.sub (tys' := [(cS, .int)]) [0] rfl
    have hFc := va_free (wc := [(sh, .inr (5, ss)), (sc, .inl (cS, 5, .inl (fun _ => 0)))]) hD hS hA [0, 1] rfl
    refine va_calli (va_runV (As := []) (rest := [.int v_1]) ⟨hx, hb, hml, hown, hts⟩ (c_lawsAsked l dC dI s.heap.size sh ss sc cS f_ss_0) (cwV 0 hts (p1_gV m_0 m_1 m_2 m_3 g_c_lawsAsked gz_c_lawsAsked) rfl rfl rfl (by decide +kernel) ⟨by decide, by decide⟩) ⟨fun a U g mk q => by obtain ⟨q0, q1, qP, qK, qD⟩ := q; exact ⟨q0, q1, qP, va_K.moved (u := U) (U := U.calling g mk a) (Vm.Alike.refl U.vm) qK, qD⟩, va_recv hKc hPc (ci := 5) (q0 := 0) rfl rfl, fun U hU hW => ⟨rfl, by rw [hU], by rw [hU]; exact hPc, va_K.moved hW.alike hKc, hDc.weaken (fun _ _ _ _ => trivial)⟩⟩ rfl rfl hl.1 rfl (lv_room (Nat.le_of_ble_eq_true rfl)) dX5_hasPair_8 ⟨by decide, by decide⟩) hS (fun q _ h => hFc q h) hFc (fun r_2 u t H1 locs ht hvm hw hB hz1 hk1 hS => ?_)
    obtain ⟨hP1, hK1, hD1⟩ := hB
    rw [ht] at hP1
    obtain ⟨hP, hD⟩ := va_join (wr := []) (w1 := [(sh, .inr (5, ss)), (sc, .inl (cS, 5, .inl (fun _ => 0)))]) hP hD [0, 1] [] rfl rfl (by decide) (by decide) hk1 hFc hP1 hD1
    generalize H1 = H at hP hS ⊢
    have hP : va_P (dC, dI) vwCl [(sh, .inr (5, ss)), (sc, .inl (cS, 5, .inl (fun _ => 0)))] H := hP
    have hD : va_D A [(sh, .inr (5, ss)), (sc, .inl (cS, 5, .inl (fun _ => 0)))] := hD
    try dsimp only at hw
    obtain rfl : r_2 = 1 := hw
    refine lv_icmp_ge (tgt := 29) hx hb dX5_hasPair_11 (by decide) (fun c11 => ?_) (fun c11 => ?_)
    · refine lv_iconst (v := 0) hx hb dX5_hasPair_29 (by decide) ?_
      have hP9 := hP.sub (ws' := [(sh, .inr (5, ss)), (sc, .inl (cS, 5, .inl (fun _ => 0)))]) [0, 1] rfl
      have hD9 := hD.sub (ws' := [(sh, .inr (5, ss)), (sc, .inl (cS, 5, .inl (fun _ => 0)))]) [0, 1] (by decide) rfl
      have hK9 := hK.sub (tys' := [(cS, .int)]) [0] rfl
      exact W.zret (v := 0) hx hb hr (by decide) (fun t ht hW => ⟨⟨0, (), rfl, rfl, by rw [ht]; exact hP9, va_K.moved hW.alike hK9, hD9⟩, hS.F ht⟩) hS.2.2 dX5_hasPair_30
    · refine lv_aload_n hx hb dX5_hasPair_14 rfl (lv_at hl 0 rfl) ?_
      refine lv_iconst (v := 1) hx hb dX5_hasPair_15 (by decide) ?_
      refine lv_iload_n hx hb dX5_hasPair_16 rfl (lv_at hl 1 rfl) ?_
      refine lv_iconst (v := 4) hx hb dX5_hasPair_17 (by decide) ?_
      refine lv_irem hx hb dX5_hasPair_18 (by decide) ?_
      refine lv_topi (fun v_3 ev_3 => ?_)
      have hPc := hP.sub (ws' := [(sh, .inr (5, ss)), (sc, .inl (cS, 5, .inl (fun _ => 0)))]) [0, 1] rfl
      have hDc := hD.sub (ws' := [(sh, .inr (5, ss)), (sc, .inl (cS, 5, .inl (fun _ => 0)))]) [0, 1] (by decide) rfl
      have hKc := hK.sub (tys' := [(cS, .int)]) [0] rfl
      have hFc := va_free (wc := [(sh, .inr (5, ss)), (sc, .inl (cS, 5, .inl (fun _ => 0)))]) hD hS hA [0, 1] rfl
      refine va_calli (va_runV (As := [.int 1, .int v_3]) (rest := []) ⟨hx, hb, hml, hown, hts⟩ (c_has0 l dC dI H.size sh ss sc cS 1 v_3 f_ss_0 (p1_in (i := 1) (n := 5) (by decide))) (cwV 2 hts (p1_gV m_4 m_5 m_6 m_3 g_c_has0 gz_c_has0) rfl rfl rfl (by decide +kernel) ⟨by decide, by decide⟩) ⟨fun a U g mk q => by obtain ⟨q0, q1, qP, qK, qD⟩ := q; exact ⟨q0, q1, qP, va_K.moved (u := U) (U := U.calling g mk a) (Vm.Alike.refl U.vm) qK, qD⟩, va_recv hKc hPc (ci := 5) (q0 := 0) rfl rfl, fun U hU hW => ⟨rfl, by rw [hU], by rw [hU]; exact hPc, va_K.moved hW.alike hKc, hDc.weaken (fun _ _ _ _ => trivial)⟩⟩ rfl rfl hl.1 rfl (lv_room (Nat.le_of_ble_eq_true rfl)) dX5_hasPair_19 ⟨by decide, by decide⟩) hS (fun q _ h => hFc q h) hFc (fun r_4 u t H1 locs ht hvm hw hB hz1 hk1 hS => ?_)
      obtain ⟨hP1, hK1, hD1⟩ := hB
      rw [ht] at hP1
      obtain ⟨hP, hD⟩ := va_join (wr := []) (w1 := [(sh, .inr (5, ss)), (sc, .inl (cS, 5, .inl (fun _ => 0)))]) hP hD [0, 1] [] rfl rfl (by decide) (by decide) hk1 hFc hP1 hD1
      generalize H1 = H at hP hS ⊢
      have hP : va_P (dC, dI) vwCl [(sh, .inr (5, ss)), (sc, .inl (cS, 5, .inl (fun _ => 0)))] H := hP
      have hD : va_D A [(sh, .inr (5, ss)), (sc, .inl (cS, 5, .inl (fun _ => 0)))] := hD
      try dsimp only at hw
      obtain rfl : r_4 = 0 := hw
      refine lv_if_eq (tgt := 29) hx hb dX5_hasPair_22 (by decide) (fun _ => ?_) (fun c9 => absurd c9 (by decide))
      refine lv_iconst (v := 0) hx hb dX5_hasPair_29 (by decide) ?_
      have hP9 := hP.sub (ws' := [(sh, .inr (5, ss)), (sc, .inl (cS, 5, .inl (fun _ => 0)))]) [0, 1] rfl
      have hD9 := hD.sub (ws' := [(sh, .inr (5, ss)), (sc, .inl (cS, 5, .inl (fun _ => 0)))]) [0, 1] (by decide) rfl
      have hK9 := hK.sub (tys' := [(cS, .int)]) [0] rfl
      exact W.zret (v := 0) hx hb hr (by decide) (fun t ht hW => ⟨⟨0, (), rfl, rfl, by rw [ht]; exact hP9, va_K.moved hW.alike hK9, hD9⟩, hS.F ht⟩) hS.2.2 dX5_hasPair_30
