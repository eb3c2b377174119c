def zo_c_within : List Cond := [.code yX8_within cX8_within 3 (some .boolean)]
def zw_c_within : List Cond := zo_c_within ++ []
theorem gz_c_within : zw_c_within.all goodWord = true := p1_ga (by decide +kernel) p1_g0
theorem iz_c_within : ∀ w ∈ zw_c_within, w ∈ lw_tbl := p1_ia (p1_all [751] (by decide +kernel)) p1_i0
set_option maxHeartbeats 4000000 in
set_option maxRecDepth 100000 in
/-- X8_within: is n among a .. b -/
theorem c_within (l : Launch) (dC : Nat → ClassId) (dI : Nat → Nat → Nat) (sz : Nat) (n : Int32) (a : Int32) (b : Int32) : Met l yX8_within zw_c_within ({ frames := 0, cells := 0, slots := 0, locals := 0 }) (va_Pc [.int n, .int a, .int b] (fun U => U.heap.size = sz ∧ va_P (dC, dI) vwCl [] U.heap ∧ va_K (dC, dI) vwCl [] U ∧ va_D (fun _ => True) [])) (va_Qi (fun (r : Int32) (_ : Unit) => (r = 1 ∧ a ≤ n ∧ n ≤ b) ∨ (r = 0 ∧ ¬ (a ≤ n ∧ n ≤ b))) (fun _ t => va_P (dC, dI) vwCl [] t.heap ∧ va_K (dC, dI) vwCl [] t ∧ va_D (va_A [] sz) []) (va_A [] sz)) 0 0 (va_A [] sz) := by
  refine Met.ofW (cc := cX8_within) (maxL := 3) (ret := (some .boolean)) (by decide) rfl ?_
  intro p e s m args below meth c s₁ B hml hv
  obtain ⟨rfl, hsz, hP, hK, hD0⟩ := hv
  have hx := B.exec
  have hb := B.bytes
  have hr := B.returns
  have hts := atoms_spec (ws := zw_c_within) B.pre
  have hown : s.vm.findClass RX8 = some m.cls := findClass_of_methodNamed B.named
  have hlocks := B.notSynchronized
  subst hsz
  have hD := hD0.self (sz := s.heap.size)
  generalize hAe : va_A [] s.heap.size = A at hD ⊢
  have hA : ∀ q : Nat, s.heap.size ≤ q → A q := fun q h => by rw [← hAe]; exact Or.inr h
  have hS : va_S A s.heap s.heap [] := va_S.rf
  have hP : va_P (dC, dI) vwCl [] s.heap := hP
  have hl := lv_entry ([.int n, .int a, .int b]) (n := 3) (Nat.le_of_ble_eq_true rfl)
  rw [lg_entry_eq]
  generalize (lg_sl ([.int n, .int a, .int b]) ++ List.replicate (3 - (lg_sl ([.int n, .int a, .int b])).length) Slot.unset).toArray = ls at hl ⊢
  have hl : lv_has ls 3 [(0, .int n), (1, .int a), (2, .int b)] := hl
  refine lv_iload_n hx hb dX8_within_0 rfl (lv_at hl 0 rfl) ?_
  refine lv_iload_n hx hb dX8_within_1 rfl (lv_at hl 1 rfl) ?_
  refine lv_icmp_lt (tgt := 14) hx hb dX8_within_2 (by decide) (fun c2 => ?_) (fun c2 => ?_)
  · refine lv_iconst (v := 0) hx hb dX8_within_14 (by decide) ?_
    have hP9 := hP.sub (ws' := []) [] rfl
    have hD9 := hD.sub (ws' := []) [] (by decide) rfl
    have hK9 := hK.sub (tys' := []) [] rfl
    exact W.zret (v := 0) hx hb hr (by decide) (fun t ht hW => ⟨⟨0, (), rfl, Or.inr ⟨rfl, by intro z9; first | exact absurd c2 (Int32.not_lt.mpr z9.1) | exact absurd c7 (Int32.not_lt.mpr z9.2)⟩, by rw [ht]; exact hP9, va_K.moved hW.alike hK9, hD9⟩, hS.F ht⟩) hS.2.2 dX8_within_15
  · refine lv_iload_n hx hb dX8_within_5 rfl (lv_at hl 0 rfl) ?_
    refine lv_iload_n hx hb dX8_within_6 rfl (lv_at hl 2 rfl) ?_
    refine lv_icmp_gt (tgt := 14) hx hb dX8_within_7 (by decide) (fun c7 => ?_) (fun c7 => ?_)
    · refine lv_iconst (v := 0) hx hb dX8_within_14 (by decide) ?_
      have hP9 := hP.sub (ws' := []) [] rfl
      have hD9 := hD.sub (ws' := []) [] (by decide) rfl
      have hK9 := hK.sub (tys' := []) [] rfl
      exact W.zret (v := 0) hx hb hr (by decide) (fun t ht hW => ⟨⟨0, (), rfl, Or.inr ⟨rfl, by intro z9; first | exact absurd c2 (Int32.not_lt.mpr z9.1) | exact absurd c7 (Int32.not_lt.mpr z9.2)⟩, by rw [ht]; exact hP9, va_K.moved hW.alike hK9, hD9⟩, hS.F ht⟩) hS.2.2 dX8_within_15
    · refine lv_iconst (v := 1) hx hb dX8_within_10 (by decide) ?_
      refine lv_goto (tgt := 15) hx hb dX8_within_11 (by decide) ?_
      have hP9 := hP.sub (ws' := []) [] rfl
      have hD9 := hD.sub (ws' := []) [] (by decide) rfl
      have hK9 := hK.sub (tys' := []) [] rfl
      exact W.zret (v := 1) hx hb hr (by decide) (fun t ht hW => ⟨⟨1, (), rfl, Or.inl ⟨rfl, Int32.not_lt.mp c2, Int32.not_lt.mp c7⟩, by rw [ht]; exact hP9, va_K.moved hW.alike hK9, hD9⟩, hS.F ht⟩) hS.2.2 dX8_within_15
def zo_c_isIn : List Cond := [.code yX9_isIn cX9_isIn 3 (some .boolean)]
def zw_c_isIn : List Cond := zo_c_isIn ++ []
theorem gz_c_isIn : zw_c_isIn.all goodWord = true := p1_ga (by decide +kernel) p1_g0
theorem iz_c_isIn : ∀ w ∈ zw_c_isIn, w ∈ lw_tbl := p1_ia (p1_all [1441] (by decide +kernel)) p1_i0
set_option maxHeartbeats 4000000 in
set_option maxRecDepth 100000 in
/-- X9_isIn: is n among a .. b -/
theorem c_isIn (l : Launch) (dC : Nat → ClassId) (dI : Nat → Nat → Nat) (sz : Nat) (n : Int32) (a : Int32) (b : Int32) : Met l yX9_isIn zw_c_isIn ({ frames := 0, cells := 0, slots := 0, locals := 0 }) (va_Pc [.int n, .int a, .int b] (fun U => U.heap.size = sz ∧ va_P (dC, dI) vwCl [] U.heap ∧ va_K (dC, dI) vwCl [] U ∧ va_D (fun _ => True) [])) (va_Qi (fun (r : Int32) (_ : Unit) => (r = 1 ∧ a ≤ n ∧ n ≤ b) ∨ (r = 0 ∧ ¬ (a ≤ n ∧ n ≤ b))) (fun _ t => va_P (dC, dI) vwCl [] t.heap ∧ va_K (dC, dI) vwCl [] t ∧ va_D (va_A [] sz) []) (va_A [] sz)) 0 0 (va_A [] sz) := by
  refine Met.ofW (cc := cX9_isIn) (maxL := 3) (ret := (some .boolean)) (by decide) rfl ?_
  intro p e s m args below meth c s₁ B hml hv
  obtain ⟨rfl, hsz, hP, hK, hD0⟩ := hv
  have hx := B.exec
  have hb := B.bytes
  have hr := B.returns
  have hts := atoms_spec (ws := zw_c_isIn) B.pre
  have hown : s.vm.findClass RX9 = some m.cls := findClass_of_methodNamed B.named
  have hlocks := B.notSynchronized
  subst hsz
  have hD := hD0.self (sz := s.heap.size)
  generalize hAe : va_A [] s.heap.size = A at hD ⊢
  have hA : ∀ q : Nat, s.heap.size ≤ q → A q := fun q h => by rw [← hAe]; exact Or.inr h
  have hS : va_S A s.heap s.heap [] := va_S.rf
  have hP : va_P (dC, dI) vwCl [] s.heap := hP
  have hl := lv_entry ([.int n, .int a, .int b]) (n := 3) (Nat.le_of_ble_eq_true rfl)
  rw [lg_entry_eq]
  generalize (lg_sl ([.int n, .int a, .int b]) ++ List.replicate (3 - (lg_sl ([.int n, .int a, .int b])).length) Slot.unset).toArray = ls at hl ⊢
  have hl : lv_has ls 3 [(0, .int n), (1, .int a), (2, .int b)] := hl
  refine lv_iload_n hx hb dX9_isIn_0 rfl (lv_at hl 0 rfl) ?_
  refine lv_iload_n hx hb dX9_isIn_1 rfl (lv_at hl 1 rfl) ?_
  refine lv_icmp_lt (tgt := 14) hx hb dX9_isIn_2 (by decide) (fun c2 => ?_) (fun c2 => ?_)
  · refine lv_iconst (v := 0) hx hb dX9_isIn_14 (by decide) ?_
    have hP9 := hP.sub (ws' := []) [] rfl
    have hD9 := hD.sub (ws' := []) [] (by decide) rfl
    have hK9 := hK.sub (tys' := []) [] rfl
    exact W.zret (v := 0) hx hb hr (by decide) (fun t ht hW => ⟨⟨0, (), rfl, Or.inr ⟨rfl, by intro z9; first | exact absurd c2 (Int32.not_lt.mpr z9.1) | exact absurd c7 (Int32.not_lt.mpr z9.2)⟩, by rw [ht]; exact hP9, va_K.moved hW.alike hK9, hD9⟩, hS.F ht⟩) hS.2.2 dX9_isIn_15
  · refine lv_iload_n hx hb dX9_isIn_5 rfl (lv_at hl 0 rfl) ?_
    refine lv_iload_n hx hb dX9_isIn_6 rfl (lv_at hl 2 rfl) ?_
    refine lv_icmp_gt (tgt := 14) hx hb dX9_isIn_7 (by decide) (fun c7 => ?_) (fun c7 => ?_)
    · refine lv_iconst (v := 0) hx hb dX9_isIn_14 (by decide) ?_
      have hP9 := hP.sub (ws' := []) [] rfl
      have hD9 := hD.sub (ws' := []) [] (by decide) rfl
      have hK9 := hK.sub (tys' := []) [] rfl
      exact W.zret (v := 0) hx hb hr (by decide) (fun t ht hW => ⟨⟨0, (), rfl, Or.inr ⟨rfl, by intro z9; first | exact absurd c2 (Int32.not_lt.mpr z9.1) | exact absurd c7 (Int32.not_lt.mpr z9.2)⟩, by rw [ht]; exact hP9, va_K.moved hW.alike hK9, hD9⟩, hS.F ht⟩) hS.2.2 dX9_isIn_15
    · refine lv_iconst (v := 1) hx hb dX9_isIn_10 (by decide) ?_
      refine lv_goto (tgt := 15) hx hb dX9_isIn_11 (by decide) ?_
      have hP9 := hP.sub (ws' := []) [] rfl
      have hD9 := hD.sub (ws' := []) [] (by decide) rfl
      have hK9 := hK.sub (tys' := []) [] rfl
      exact W.zret (v := 1) hx hb hr (by decide) (fun t ht hW => ⟨⟨1, (), rfl, Or.inl ⟨rfl, Int32.not_lt.mp c2, Int32.not_lt.mp c7⟩, by rw [ht]; exact hP9, va_K.moved hW.alike hK9, hD9⟩, hS.F ht⟩) hS.2.2 dX9_isIn_15
def zo_c_has0 : List Cond := [.code yX5_has cX5_has 3 (some .boolean), .fieldLink RX5 9 "BowWalk$Shop" "count" "[I"]
def zw_c_has0 : List Cond := zo_c_has0 ++ (wsX50 ++ [])
theorem gz_c_has0 : zw_c_has0.all goodWord = true := p1_ga (by decide +kernel) (p1_ga gk_X5 p1_g0)
theorem iz_c_has0 : ∀ w ∈ zw_c_has0, w ∈ lw_tbl := p1_ia (p1_all [717, 174] (by decide +kernel)) (p1_ia ik_X5 p1_i0)
set_option maxHeartbeats 4000000 in
set_option maxRecDepth 100000 in
/-- an empty SHOP has none -/
theorem c_has0 (l : Launch) (dC : Nat → ClassId) (dI : Nat → Nat → Nat) (sz : Nat) (h0 : Nat) (fs : List Value) (h1 : Nat) (cI : ClassId) (so : Int32) (n : Int32) (f_fs_0 : fs[0]? = some (.ref h1)) (hso : vp_in so 5) : Met l yX5_has zw_c_has0 ({ frames := 0, cells := 0, slots := 0, locals := 0 }) (va_Pc [.ref h0, .int so, .int n] (fun U => U.heap.size = sz ∧ va_P (dC, dI) vwCl [(h0, .inr (5, fs)), (h1, .inl (cI, 5, .inl (fun _ => 0)))] U.heap ∧ va_K (dC, dI) vwCl [(cI, .int)] U ∧ va_D (fun _ => True) [(h0, .inr (5, fs)), (h1, .inl (cI, 5, .inl (fun _ => 0)))])) (va_Qi (fun (r : Int32) (_ : Unit) => r = 0) (fun _ t => va_P (dC, dI) vwCl [(h0, .inr (5, fs)), (h1, .inl (cI, 5, .inl (fun _ => 0)))] t.heap ∧ va_K (dC, dI) vwCl [(cI, .int)] t ∧ va_D (va_A [(h0, .inr (5, fs)), (h1, .inl (cI, 5, .inl (fun _ => 0)))] sz) [(h0, .inr (5, fs)), (h1, .inl (cI, 5, .inl (fun _ => 0)))]) (va_A [(h0, .inr (5, fs)), (h1, .inl (cI, 5, .inl (fun _ => 0)))] sz)) 0 0 (va_A [(h0, .inr (5, fs)), (h1, .inl (cI, 5, .inl (fun _ => 0)))] sz) := by
  refine Met.ofW (cc := cX5_has) (maxL := 3) (ret := (some .boolean)) (by decide) rfl ?_
  intro p e s m args below meth c s₁ B hml hv
  obtain ⟨rfl, hsz, hP, hK, hD0⟩ := hv
  have hx := B.exec
  have hb := B.bytes
  have hr := B.returns
  have hts := atoms_spec (ws := zw_c_has0) B.pre
  have hown : s.vm.findClass RX5 = some m.cls := findClass_of_methodNamed B.named
  have hlocks := B.notSynchronized
  subst hsz
  have hD := hD0.self (sz := s.heap.size)
  generalize hAe : va_A [(h0, .inr (5, fs)), (h1, .inl (cI, 5, .inl (fun _ => 0)))] s.heap.size = A at hD ⊢
  have hA : ∀ q : Nat, s.heap.size ≤ q → A q := fun q h => by rw [← hAe]; exact Or.inr h
  have hS : va_S A s.heap s.heap [] := va_S.rf
  have hP : va_P (dC, dI) vwCl [(h0, .inr (5, fs)), (h1, .inl (cI, 5, .inl (fun _ => 0)))] s.heap := hP
  have m_0 : (.fieldLink RX5 9 "BowWalk$Shop" "count" "[I" : Cond) ∈ zw_c_has0 := List.mem_append_left _ (List.mem_of_getElem? (i := 1) rfl)
  have k_0 := hts _ m_0
  have i_X5 : ∀ w ∈ u_ws RX5 TX5 15, w ∈ zw_c_has0 := fun w h => List.mem_append_right _ (List.mem_append_left _ h)
  have hl := lv_entry ([.ref h0, .int so, .int n]) (n := 3) (Nat.le_of_ble_eq_true rfl)
  rw [lg_entry_eq]
  generalize (lg_sl ([.ref h0, .int so, .int n]) ++ List.replicate (3 - (lg_sl ([.ref h0, .int so, .int n])).length) Slot.unset).toArray = ls at hl ⊢
  have hl : lv_has ls 3 [(0, .ref h0), (1, .int so), (2, .int n)] := hl
  refine lv_iload_n hx hb dX5_has_0 rfl (lv_at hl 2 rfl) ?_
  refine lv_if_lt (tgt := 18) hx hb dX5_has_1 (by decide) (fun c1 => ?_) (fun c1 => ?_)
  · refine lv_iconst (v := 0) hx hb dX5_has_18 (by decide) ?_
    have hP9 := hP.sub (ws' := [(h0, .inr (5, fs)), (h1, .inl (cI, 5, .inl (fun _ => 0)))]) [0, 1] rfl
    have hD9 := hD.sub (ws' := [(h0, .inr (5, fs)), (h1, .inl (cI, 5, .inl (fun _ => 0)))]) [0, 1] (by decide) rfl
    have hK9 := hK.sub (tys' := [(cI, .int)]) [0] rfl
    exact W.zret (v := 0) hx hb hr (by decide) (fun t ht hW => ⟨⟨0, (), rfl, rfl, by rw [ht]; exact hP9, va_K.moved hW.alike hK9, hD9⟩, hS.F ht⟩) hS.2.2 dX5_has_19
  · refine lv_iload_n hx hb dX5_has_4 rfl (lv_at hl 2 rfl) ?_
    refine lv_aload_n hx hb dX5_has_5 rfl (lv_at hl 0 rfl) ?_
    refine va_get (D := (dC, dI)) (ci := 5) (v := .ref h1) (C := RX5) (T := TX5) (N := 15) hx hb hts i_X5 hown hK hP 0 rfl rfl 0 (by decide) k_0 (fun _ h9 => h9) f_fs_0 dX5_has_6 ?_
    refine lv_iload_n hx hb dX5_has_9 rfl (lv_at hl 1 rfl) ?_
    refine va_iald hx hb hK hP 1 0 rfl rfl hso dX5_has_10 ?_
    refine lv_topi (fun v_1 ev_1 => ?_)
    obtain rfl : v_1 = 0 := ev_1.trans rfl
    refine lv_icmp_ge (tgt := 18) hx hb dX5_has_11 (by decide) (fun c11 => ?_) (fun c11 => absurd c11 (fun z9 => absurd (Int32.not_le.mp z9) c1))
    refine lv_iconst (v := 0) hx hb dX5_has_18 (by decide) ?_
    have hP9 := hP.sub (ws' := [(h0, .inr (5, fs)), (h1, .inl (cI, 5, .inl (fun _ => 0)))]) [0, 1] rfl
    have hD9 := hD.sub (ws' := [(h0, .inr (5, fs)), (h1, .inl (cI, 5, .inl (fun _ => 0)))]) [0, 1] (by decide) rfl
    have hK9 := hK.sub (tys' := [(cI, .int)]) [0] rfl
    exact W.zret (v := 0) hx hb hr (by decide) (fun t ht hW => ⟨⟨0, (), rfl, rfl, by rw [ht]; exact hP9, va_K.moved hW.alike hK9, hD9⟩, hS.F ht⟩) hS.2.2 dX5_has_19
