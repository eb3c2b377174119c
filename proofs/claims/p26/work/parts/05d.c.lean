def zo_d_within : List Cond := [.code yX8_within cX8_within 3 (some .boolean)]
def zw_d_within : List Cond := zo_d_within ++ []
theorem gz_d_within : zw_d_within.all goodWord = true := p1_ga (by decide +kernel) p1_g0
theorem iz_d_within : ∀ w ∈ zw_d_within, w ∈ lw_tbl := p1_ia (p1_all [751] (by decide +kernel)) p1_i0
set_option maxHeartbeats 4000000 in
set_option maxRecDepth 100000 in
theorem d_within (l : Launch) (dC : Nat → ClassId) (dI : Nat → Nat → Nat) (sz : Nat) (n : Int32) (a : Int32) (b : Int32) : Met l yX8_within zw_d_within ({ frames := 0, cells := 0, slots := 0, locals := 0 }) (va_Pc [.int n, .int a, .int b] (fun U => U.heap.size = sz ∧ va_P (dC, dI) vwCl [] U.heap ∧ va_K (dC, dI) vwCl [] U ∧ va_D (fun _ => True) [])) (va_Qi (fun (r : Int32) (_ : Unit) => (r = 1 ∧ a.toInt ≤ n.toInt ∧ n.toInt ≤ b.toInt) ∨ (r = 0 ∧ ¬ (a.toInt ≤ n.toInt ∧ n.toInt ≤ b.toInt))) (fun _ t => va_P (dC, dI) vwCl [] t.heap ∧ va_K (dC, dI) vwCl [] t ∧ va_D (va_A [] sz) []) (va_A [] sz)) 0 0 (va_A [] sz) := by
  refine Met.ofW (cc := cX8_within) (maxL := 3) (ret := (some .boolean)) (by decide) rfl ?_
  intro p e s m args below meth c s₁ B hml hv
  obtain ⟨rfl, hsz, hP, hK, hD0⟩ := hv
  have hx := B.exec
  have hb := B.bytes
  have hr := B.returns
  have hts := atoms_spec (ws := zw_d_within) B.pre
  have hown : s.vm.findClass RX8 = some m.cls := findClass_of_methodNamed B.named
  have hlocks := B.notSynchronized
  subst hsz
  have hD := hD0.self (sz := s.heap.size)
  generalize hAe : va_A [] s.heap.size = A at hD ⊢
  have hA : ∀ q : Nat, s.heap.size ≤ q → A q := fun q h => by rw [← hAe]; exact Or.inr h
  have hS : va_S A s.heap s.heap [] := va_S.rf
  have hP : va_P (dC, dI) vwCl [] s.heap := hP
  have lt_0 : (0 : Int32).toInt = 0 := by decide
  have lt_1 : (1 : Int32).toInt = 1 := by decide
  have hl := lv_entry ([.int n, .int a, .int b]) (n := 3) (Nat.le_of_ble_eq_true rfl)
  rw [lg_entry_eq]
  generalize (lg_sl ([.int n, .int a, .int b]) ++ List.replicate (3 - (lg_sl ([.int n, .int a, .int b])).length) Slot.unset).toArray = ls at hl ⊢
  have hl : lv_has ls 3 [(0, .int n), (1, .int a), (2, .int b)] := hl
  refine lv_iload_n hx hb dX8_within_0 rfl (lv_at hl 0 rfl) ?_
  refine lv_iload_n hx hb dX8_within_1 rfl (lv_at hl 1 rfl) ?_
  refine lv_icmp_lt (tgt := 14) hx hb dX8_within_2 (by decide) (fun c2 => ?_) (fun c2 => ?_)
  · have tc2 := q_lt c2
    refine lv_iconst (v := 0) hx hb dX8_within_14 (by decide) ?_
    have hP9 := hP.sub (ws' := []) [] rfl
    have hD9 := hD.sub (ws' := []) [] (by decide) rfl
    have hK9 := hK.sub (tys' := []) [] rfl
    exact W.zret (v := 0) hx hb hr (by decide) (fun t ht hW => ⟨⟨0, (), rfl, Or.inr ⟨rfl, by omega⟩, by rw [ht]; exact hP9, va_K.moved hW.alike hK9, hD9⟩, hS.F ht⟩) hS.2.2 dX8_within_15
  · have tc2 := q_geN c2
    refine lv_iload_n hx hb dX8_within_5 rfl (lv_at hl 0 rfl) ?_
    refine lv_iload_n hx hb dX8_within_6 rfl (lv_at hl 2 rfl) ?_
    refine lv_icmp_gt (tgt := 14) hx hb dX8_within_7 (by decide) (fun c7 => ?_) (fun c7 => ?_)
    · have tc7 := q_gt c7
      refine lv_iconst (v := 0) hx hb dX8_within_14 (by decide) ?_
      have hP9 := hP.sub (ws' := []) [] rfl
      have hD9 := hD.sub (ws' := []) [] (by decide) rfl
      have hK9 := hK.sub (tys' := []) [] rfl
      exact W.zret (v := 0) hx hb hr (by decide) (fun t ht hW => ⟨⟨0, (), rfl, Or.inr ⟨rfl, by omega⟩, by rw [ht]; exact hP9, va_K.moved hW.alike hK9, hD9⟩, hS.F ht⟩) hS.2.2 dX8_within_15
    · have tc7 := q_leN c7
      refine lv_iconst (v := 1) hx hb dX8_within_10 (by decide) ?_
      refine lv_goto (tgt := 15) hx hb dX8_within_11 (by decide) ?_
      have hP9 := hP.sub (ws' := []) [] rfl
      have hD9 := hD.sub (ws' := []) [] (by decide) rfl
      have hK9 := hK.sub (tys' := []) [] rfl
      exact W.zret (v := 1) hx hb hr (by decide) (fun t ht hW => ⟨⟨1, (), rfl, Or.inl ⟨rfl, by omega, by omega⟩, by rw [ht]; exact hP9, va_K.moved hW.alike hK9, hD9⟩, hS.F ht⟩) hS.2.2 dX8_within_15
def zo_d_isIn : List Cond := [.code yX9_isIn cX9_isIn 3 (some .boolean)]
def zw_d_isIn : List Cond := zo_d_isIn ++ []
theorem gz_d_isIn : zw_d_isIn.all goodWord = true := p1_ga (by decide +kernel) p1_g0
theorem iz_d_isIn : ∀ w ∈ zw_d_isIn, w ∈ lw_tbl := p1_ia (p1_all [1441] (by decide +kernel)) p1_i0
set_option maxHeartbeats 4000000 in
set_option maxRecDepth 100000 in
theorem d_isIn (l : Launch) (dC : Nat → ClassId) (dI : Nat → Nat → Nat) (sz : Nat) (n : Int32) (a : Int32) (b : Int32) : Met l yX9_isIn zw_d_isIn ({ frames := 0, cells := 0, slots := 0, locals := 0 }) (va_Pc [.int n, .int a, .int b] (fun U => U.heap.size = sz ∧ va_P (dC, dI) vwCl [] U.heap ∧ va_K (dC, dI) vwCl [] U ∧ va_D (fun _ => True) [])) (va_Qi (fun (r : Int32) (_ : Unit) => (r = 1 ∧ a.toInt ≤ n.toInt ∧ n.toInt ≤ b.toInt) ∨ (r = 0 ∧ ¬ (a.toInt ≤ n.toInt ∧ n.toInt ≤ b.toInt))) (fun _ t => va_P (dC, dI) vwCl [] t.heap ∧ va_K (dC, dI) vwCl [] t ∧ va_D (va_A [] sz) []) (va_A [] sz)) 0 0 (va_A [] sz) := by
  refine Met.ofW (cc := cX9_isIn) (maxL := 3) (ret := (some .boolean)) (by decide) rfl ?_
  intro p e s m args below meth c s₁ B hml hv
  obtain ⟨rfl, hsz, hP, hK, hD0⟩ := hv
  have hx := B.exec
  have hb := B.bytes
  have hr := B.returns
  have hts := atoms_spec (ws := zw_d_isIn) B.pre
  have hown : s.vm.findClass RX9 = some m.cls := findClass_of_methodNamed B.named
  have hlocks := B.notSynchronized
  subst hsz
  have hD := hD0.self (sz := s.heap.size)
  generalize hAe : va_A [] s.heap.size = A at hD ⊢
  have hA : ∀ q : Nat, s.heap.size ≤ q → A q := fun q h => by rw [← hAe]; exact Or.inr h
  have hS : va_S A s.heap s.heap [] := va_S.rf
  have hP : va_P (dC, dI) vwCl [] s.heap := hP
  have lt_0 : (0 : Int32).toInt = 0 := by decide
  have lt_1 : (1 : Int32).toInt = 1 := by decide
  have hl := lv_entry ([.int n, .int a, .int b]) (n := 3) (Nat.le_of_ble_eq_true rfl)
  rw [lg_entry_eq]
  generalize (lg_sl ([.int n, .int a, .int b]) ++ List.replicate (3 - (lg_sl ([.int n, .int a, .int b])).length) Slot.unset).toArray = ls at hl ⊢
  have hl : lv_has ls 3 [(0, .int n), (1, .int a), (2, .int b)] := hl
  refine lv_iload_n hx hb dX9_isIn_0 rfl (lv_at hl 0 rfl) ?_
  refine lv_iload_n hx hb dX9_isIn_1 rfl (lv_at hl 1 rfl) ?_
  refine lv_icmp_lt (tgt := 14) hx hb dX9_isIn_2 (by decide) (fun c2 => ?_) (fun c2 => ?_)
  · have tc2 := q_lt c2
    refine lv_iconst (v := 0) hx hb dX9_isIn_14 (by decide) ?_
    have hP9 := hP.sub (ws' := []) [] rfl
    have hD9 := hD.sub (ws' := []) [] (by decide) rfl
    have hK9 := hK.sub (tys' := []) [] rfl
    exact W.zret (v := 0) hx hb hr (by decide) (fun t ht hW => ⟨⟨0, (), rfl, Or.inr ⟨rfl, by omega⟩, by rw [ht]; exact hP9, va_K.moved hW.alike hK9, hD9⟩, hS.F ht⟩) hS.2.2 dX9_isIn_15
  · have tc2 := q_geN c2
    refine lv_iload_n hx hb dX9_isIn_5 rfl (lv_at hl 0 rfl) ?_
    refine lv_iload_n hx hb dX9_isIn_6 rfl (lv_at hl 2 rfl) ?_
    refine lv_icmp_gt (tgt := 14) hx hb dX9_isIn_7 (by decide) (fun c7 => ?_) (fun c7 => ?_)
    · have tc7 := q_gt c7
      refine lv_iconst (v := 0) hx hb dX9_isIn_14 (by decide) ?_
      have hP9 := hP.sub (ws' := []) [] rfl
      have hD9 := hD.sub (ws' := []) [] (by decide) rfl
      have hK9 := hK.sub (tys' := []) [] rfl
      exact W.zret (v := 0) hx hb hr (by decide) (fun t ht hW => ⟨⟨0, (), rfl, Or.inr ⟨rfl, by omega⟩, by rw [ht]; exact hP9, va_K.moved hW.alike hK9, hD9⟩, hS.F ht⟩) hS.2.2 dX9_isIn_15
    · have tc7 := q_leN c7
      refine lv_iconst (v := 1) hx hb dX9_isIn_10 (by decide) ?_
      refine lv_goto (tgt := 15) hx hb dX9_isIn_11 (by decide) ?_
      have hP9 := hP.sub (ws' := []) [] rfl
      have hD9 := hD.sub (ws' := []) [] (by decide) rfl
      have hK9 := hK.sub (tys' := []) [] rfl
      exact W.zret (v := 1) hx hb hr (by decide) (fun t ht hW => ⟨⟨1, (), rfl, Or.inl ⟨rfl, by omega, by omega⟩, by rw [ht]; exact hP9, va_K.moved hW.alike hK9, hD9⟩, hS.F ht⟩) hS.2.2 dX9_isIn_15
def zo_d_has : List Cond := [.code yX5_has cX5_has 3 (some .boolean), .fieldLink RX5 9 "BowWalk$Shop" "count" "[I"]
def zw_d_has : List Cond := zo_d_has ++ (wsX50 ++ [])
theorem gz_d_has : zw_d_has.all goodWord = true := p1_ga (by decide +kernel) (p1_ga gk_X5 p1_g0)
theorem iz_d_has : ∀ w ∈ zw_d_has, w ∈ lw_tbl := p1_ia (p1_all [717, 174] (by decide +kernel)) (p1_ia ik_X5 p1_i0)
set_option maxHeartbeats 4000000 in
set_option maxRecDepth 100000 in
theorem d_has (l : Launch) (dC : Nat → ClassId) (dI : Nat → Nat → Nat) (sz : Nat) (sh : Nat) (ss : List Value) (sc : Nat) (cS : ClassId) (scf : Nat → Int32) (so : Int32) (n : Int32) (f_ss_0 : ss[0]? = some (.ref sc)) (hb_scf : q_cnt scf) (h1 : 0 ≤ so.toInt ∧ so.toInt < 5) : Met l yX5_has zw_d_has ({ frames := 0, cells := 0, slots := 0, locals := 0 }) (va_Pc [.ref sh, .int so, .int n] (fun U => U.heap.size = sz ∧ va_P (dC, dI) vwCl [(sh, .inr (5, ss)), (sc, .inl (cS, 5, .inl scf))] U.heap ∧ va_K (dC, dI) vwCl [(cS, .int)] U ∧ va_D (fun _ => True) [(sh, .inr (5, ss)), (sc, .inl (cS, 5, .inl scf))])) (va_Qi (fun (r : Int32) (_ : Unit) => (r = 1 ∧ 0 ≤ n.toInt ∧ n.toInt < (scf so.toNatClampNeg).toInt) ∨ (r = 0 ∧ True)) (fun _ t => va_P (dC, dI) vwCl [(sh, .inr (5, ss)), (sc, .inl (cS, 5, .inl scf))] t.heap ∧ va_K (dC, dI) vwCl [(cS, .int)] t ∧ va_D (va_A [(sh, .inr (5, ss)), (sc, .inl (cS, 5, .inl scf))] sz) [(sh, .inr (5, ss)), (sc, .inl (cS, 5, .inl scf))]) (va_A [(sh, .inr (5, ss)), (sc, .inl (cS, 5, .inl scf))] sz)) 0 0 (va_A [(sh, .inr (5, ss)), (sc, .inl (cS, 5, .inl scf))] sz) := by
  refine Met.ofW (cc := cX5_has) (maxL := 3) (ret := (some .boolean)) (by decide) rfl ?_
  intro p e s m args below meth c s₁ B hml hv
  obtain ⟨rfl, hsz, hP, hK, hD0⟩ := hv
  have hx := B.exec
  have hb := B.bytes
  have hr := B.returns
  have hts := atoms_spec (ws := zw_d_has) B.pre
  have hown : s.vm.findClass RX5 = some m.cls := findClass_of_methodNamed B.named
  have hlocks := B.notSynchronized
  subst hsz
  have hD := hD0.self (sz := s.heap.size)
  generalize hAe : va_A [(sh, .inr (5, ss)), (sc, .inl (cS, 5, .inl scf))] s.heap.size = A at hD ⊢
  have hA : ∀ q : Nat, s.heap.size ≤ q → A q := fun q h => by rw [← hAe]; exact Or.inr h
  have hS : va_S A s.heap s.heap [] := va_S.rf
  have hP : va_P (dC, dI) vwCl [(sh, .inr (5, ss)), (sc, .inl (cS, 5, .inl scf))] s.heap := hP
  have m_0 : (.fieldLink RX5 9 "BowWalk$Shop" "count" "[I" : Cond) ∈ zw_d_has := List.mem_append_left _ (List.mem_of_getElem? (i := 1) rfl)
  have k_0 := hts _ m_0
  have i_X5 : ∀ w ∈ u_ws RX5 TX5 15, w ∈ zw_d_has := fun w h => List.mem_append_right _ (List.mem_append_left _ h)
  have lt_0 : (0 : Int32).toInt = 0 := by decide
  have lt_1 : (1 : Int32).toInt = 1 := by decide
  have hl := lv_entry ([.ref sh, .int so, .int n]) (n := 3) (Nat.le_of_ble_eq_true rfl)
  rw [lg_entry_eq]
  generalize (lg_sl ([.ref sh, .int so, .int n]) ++ List.replicate (3 - (lg_sl ([.ref sh, .int so, .int n])).length) Slot.unset).toArray = ls at hl ⊢
  have hl : lv_has ls 3 [(0, .ref sh), (1, .int so), (2, .int n)] := hl
  refine lv_iload_n hx hb dX5_has_0 rfl (lv_at hl 2 rfl) ?_
  refine lv_if_lt (tgt := 18) hx hb dX5_has_1 (by decide) (fun c1 => ?_) (fun c1 => ?_)
  · have tc1 := q_lt c1
    refine lv_iconst (v := 0) hx hb dX5_has_18 (by decide) ?_
    have hP9 := hP.sub (ws' := [(sh, .inr (5, ss)), (sc, .inl (cS, 5, .inl scf))]) [0, 1] rfl
    have hD9 := hD.sub (ws' := [(sh, .inr (5, ss)), (sc, .inl (cS, 5, .inl scf))]) [0, 1] (by decide) rfl
    have hK9 := hK.sub (tys' := [(cS, .int)]) [0] rfl
    exact W.zret (v := 0) hx hb hr (by decide) (fun t ht hW => ⟨⟨0, (), rfl, Or.inr ⟨rfl, trivial⟩, by rw [ht]; exact hP9, va_K.moved hW.alike hK9, hD9⟩, hS.F ht⟩) hS.2.2 dX5_has_19
  · have tc1 := q_geN c1
    refine lv_iload_n hx hb dX5_has_4 rfl (lv_at hl 2 rfl) ?_
    refine lv_aload_n hx hb dX5_has_5 rfl (lv_at hl 0 rfl) ?_
    refine va_get (D := (dC, dI)) (ci := 5) (v := .ref sc) (C := RX5) (T := TX5) (N := 15) hx hb hts i_X5 hown hK hP 0 rfl rfl 0 (by decide) k_0 (fun _ h9 => h9) f_ss_0 dX5_has_6 ?_
    refine lv_iload_n hx hb dX5_has_9 rfl (lv_at hl 1 rfl) ?_
    refine va_iald hx hb hK hP 1 0 rfl rfl (q_in (by omega) (by omega)) dX5_has_10 ?_
    refine lv_topi (fun v_1 ev_1 => ?_)
    have uv_1 : v_1.toInt = (scf so.toNatClampNeg).toInt := by rw [ev_1]
    refine lv_icmp_ge (tgt := 18) hx hb dX5_has_11 (by decide) (fun c11 => ?_) (fun c11 => ?_)
    · have tc11 := q_ge c11
      refine lv_iconst (v := 0) hx hb dX5_has_18 (by decide) ?_
      have hP9 := hP.sub (ws' := [(sh, .inr (5, ss)), (sc, .inl (cS, 5, .inl scf))]) [0, 1] rfl
      have hD9 := hD.sub (ws' := [(sh, .inr (5, ss)), (sc, .inl (cS, 5, .inl scf))]) [0, 1] (by decide) rfl
      have hK9 := hK.sub (tys' := [(cS, .int)]) [0] rfl
      exact W.zret (v := 0) hx hb hr (by decide) (fun t ht hW => ⟨⟨0, (), rfl, Or.inr ⟨rfl, trivial⟩, by rw [ht]; exact hP9, va_K.moved hW.alike hK9, hD9⟩, hS.F ht⟩) hS.2.2 dX5_has_19
    · have tc11 := q_ltN c11
      refine lv_iconst (v := 1) hx hb dX5_has_14 (by decide) ?_
      refine lv_goto (tgt := 19) hx hb dX5_has_15 (by decide) ?_
      have hP9 := hP.sub (ws' := [(sh, .inr (5, ss)), (sc, .inl (cS, 5, .inl scf))]) [0, 1] rfl
      have hD9 := hD.sub (ws' := [(sh, .inr (5, ss)), (sc, .inl (cS, 5, .inl scf))]) [0, 1] (by decide) rfl
      have hK9 := hK.sub (tys' := [(cS, .int)]) [0] rfl
      exact W.zret (v := 1) hx hb hr (by decide) (fun t ht hW => ⟨⟨1, (), rfl, Or.inl ⟨rfl, by omega, by omega⟩, by rw [ht]; exact hP9, va_K.moved hW.alike hK9, hD9⟩, hS.F ht⟩) hS.2.2 dX5_has_19
def zo_d_most : List Cond := [.code yX5_most cX5_most 1 (some .int)]
def zw_d_most : List Cond := zo_d_most ++ []
theorem gz_d_most : zw_d_most.all goodWord = true := p1_ga (by decide +kernel) p1_g0
theorem iz_d_most : ∀ w ∈ zw_d_most, w ∈ lw_tbl := p1_ia (p1_all [612] (by decide +kernel)) p1_i0
set_option maxHeartbeats 4000000 in
set_option maxRecDepth 100000 in
theorem d_most (l : Launch) (dC : Nat → ClassId) (dI : Nat → Nat → Nat) (sz : Nat) (a1 : Int32) : Met l yX5_most zw_d_most ({ frames := 0, cells := 0, slots := 0, locals := 0 }) (va_Pc [.int a1] (fun U => U.heap.size = sz ∧ va_P (dC, dI) vwCl [] U.heap ∧ va_K (dC, dI) vwCl [] U ∧ va_D (fun _ => True) [])) (va_Qi (fun (r : Int32) (_ : Unit) => 3 ≤ r.toInt ∧ r.toInt ≤ 6) (fun _ t => va_P (dC, dI) vwCl [] t.heap ∧ va_K (dC, dI) vwCl [] t ∧ va_D (va_A [] sz) []) (va_A [] sz)) 0 0 (va_A [] sz) := by
  refine Met.ofW (cc := cX5_most) (maxL := 1) (ret := (some .int)) (by decide) rfl ?_
  intro p e s m args below meth c s₁ B hml hv
  obtain ⟨rfl, hsz, hP, hK, hD0⟩ := hv
  have hx := B.exec
  have hb := B.bytes
  have hr := B.returns
  have hts := atoms_spec (ws := zw_d_most) B.pre
  have hown : s.vm.findClass RX5 = some m.cls := findClass_of_methodNamed B.named
  have hlocks := B.notSynchronized
  subst hsz
  have hD := hD0.self (sz := s.heap.size)
  generalize hAe : va_A [] s.heap.size = A at hD ⊢
  have hA : ∀ q : Nat, s.heap.size ≤ q → A q := fun q h => by rw [← hAe]; exact Or.inr h
  have hS : va_S A s.heap s.heap [] := va_S.rf
  have hP : va_P (dC, dI) vwCl [] s.heap := hP
  have lt_0 : (0 : Int32).toInt = 0 := by decide
  have lt_1 : (1 : Int32).toInt = 1 := by decide
  have lt_2 : (2 : Int32).toInt = 2 := by decide
  have lt_3 : (3 : Int32).toInt = 3 := by decide
  have lt_4 : (4 : Int32).toInt = 4 := by decide
  have lt_6 : (6 : Int32).toInt = 6 := by decide
  have hl := lv_entry ([.int a1]) (n := 1) (Nat.le_of_ble_eq_true rfl)
  rw [lg_entry_eq]
  generalize (lg_sl ([.int a1]) ++ List.replicate (1 - (lg_sl ([.int a1])).length) Slot.unset).toArray = ls at hl ⊢
  have hl : lv_has ls 1 [(0, .int a1)] := hl
  refine lv_iload_n hx hb dX5_most_0 rfl (lv_at hl 0 rfl) ?_
  by_cases hk_1 : a1 = 0
  · refine lv_tableIn (tgt := 32) (off := 31) hx hb dX5_most_1 (by rw [hk_1]; decide) (by rw [hk_1]; decide) (by rw [hk_1]; decide) (by decide) ?_
    have thk_1 := q_eq hk_1
    refine lv_bipush (v := 6) hx hb dX5_most_32 (by decide) ?_
    have hP9 := hP.sub (ws' := []) [] rfl
    have hD9 := hD.sub (ws' := []) [] (by decide) rfl
    have hK9 := hK.sub (tys' := []) [] rfl
    exact W.iret (v := 6) hx hb hr (fun t ht hW => ⟨⟨6, (), rfl, (by omega), by rw [ht]; exact hP9, va_K.moved hW.alike hK9, hD9⟩, hS.F ht⟩) hS.2.2 dX5_most_34
  by_cases hk_2 : a1 = 1
  · refine lv_tableIn (tgt := 35) (off := 34) hx hb dX5_most_1 (by rw [hk_2]; decide) (by rw [hk_2]; decide) (by rw [hk_2]; decide) (by decide) ?_
    have thk_2 := q_eq hk_2
    refine lv_iconst (v := 4) hx hb dX5_most_35 (by decide) ?_
    have hP9 := hP.sub (ws' := []) [] rfl
    have hD9 := hD.sub (ws' := []) [] (by decide) rfl
    have hK9 := hK.sub (tys' := []) [] rfl
    exact W.iret (v := 4) hx hb hr (fun t ht hW => ⟨⟨4, (), rfl, (by omega), by rw [ht]; exact hP9, va_K.moved hW.alike hK9, hD9⟩, hS.F ht⟩) hS.2.2 dX5_most_36
  by_cases hk_3 : a1 = 2
  · refine lv_tableIn (tgt := 37) (off := 36) hx hb dX5_most_1 (by rw [hk_3]; decide) (by rw [hk_3]; decide) (by rw [hk_3]; decide) (by decide) ?_
    have thk_3 := q_eq hk_3
    refine lv_iconst (v := 4) hx hb dX5_most_37 (by decide) ?_
    have hP9 := hP.sub (ws' := []) [] rfl
    have hD9 := hD.sub (ws' := []) [] (by decide) rfl
    have hK9 := hK.sub (tys' := []) [] rfl
    exact W.iret (v := 4) hx hb hr (fun t ht hW => ⟨⟨4, (), rfl, (by omega), by rw [ht]; exact hP9, va_K.moved hW.alike hK9, hD9⟩, hS.F ht⟩) hS.2.2 dX5_most_38
  by_cases hk_4 : a1 = 3
  · refine lv_tableIn (tgt := 39) (off := 38) hx hb dX5_most_1 (by rw [hk_4]; decide) (by rw [hk_4]; decide) (by rw [hk_4]; decide) (by decide) ?_
    have thk_4 := q_eq hk_4
    refine lv_iconst (v := 3) hx hb dX5_most_39 (by decide) ?_
    have hP9 := hP.sub (ws' := []) [] rfl
    have hD9 := hD.sub (ws' := []) [] (by decide) rfl
    have hK9 := hK.sub (tys' := []) [] rfl
    exact W.iret (v := 3) hx hb hr (fun t ht hW => ⟨⟨3, (), rfl, (by omega), by rw [ht]; exact hP9, va_K.moved hW.alike hK9, hD9⟩, hS.F ht⟩) hS.2.2 dX5_most_40
  have thk_1 := q_ne hk_1
  have thk_2 := q_ne hk_2
  have thk_3 := q_ne hk_3
  have thk_4 := q_ne hk_4
  refine lv_tableOut (tgt := 41) hx hb dX5_most_1 (by omega) (by decide) ?_
  refine lv_iconst (v := 4) hx hb dX5_most_41 (by decide) ?_
  have hP9 := hP.sub (ws' := []) [] rfl
  have hD9 := hD.sub (ws' := []) [] (by decide) rfl
  have hK9 := hK.sub (tys' := []) [] rfl
  exact W.iret (v := 4) hx hb hr (fun t ht hW => ⟨⟨4, (), rfl, (by omega), by rw [ht]; exact hP9, va_K.moved hW.alike hK9, hD9⟩, hS.F ht⟩) hS.2.2 dX5_most_42
