def zo_x_knot : List Cond := [.code yX8_knot cX8_knot 3 (some .int), .fieldLink RX8 60 "BowWalk" "shop" "LBowWalk$Shop;", .methodLink RX8 104 yX5_has, .instanceMethod yX5_has, .selects RX5 yX5_has yX5_has, .initialized RX5]
def zw_x_knot : List Cond := zo_x_knot ++ (zw_c_has0 ++ (wsX80 ++ []))
theorem gz_x_knot : zw_x_knot.all goodWord = true := p1_ga (by decide +kernel) (p1_ga gz_c_has0 (p1_ga gk_X8 p1_g0))
theorem iz_x_knot : ∀ w ∈ zw_x_knot, w ∈ lw_tbl := p1_ia (p1_all [713, 508, 714, 715, 716, 106] (by decide +kernel)) (p1_ia iz_c_has0 (p1_ia ik_X8 p1_i0))
set_option maxHeartbeats 4000000 in
set_option maxRecDepth 100000 in
theorem x_knot (l : Launch) (dC : Nat → ClassId) (dI : Nat → Nat → Nat) (sz : Nat) (x : Nat) (xs : List Value) (sh : Nat) (ss : List Value) (sc : Nat) (cS : ClassId) (a1 : Int32) (a2 : Int32) (f_xs_9 : xs[9]? = some (.ref sh)) (f_ss_0 : ss[0]? = some (.ref sc)) : Met l yX8_knot zw_x_knot ({ frames := 1, cells := 0, slots := 0, locals := 22 }) (va_Pc [.ref x, .int a1, .int a2] (fun U => U.heap.size = sz ∧ va_P (dC, dI) vwCl [(x, .inr (7, xs)), (sh, .inr (5, ss)), (sc, .inl (cS, 5, .inl (fun _ => 0)))] U.heap ∧ va_K (dC, dI) vwCl [(cS, .int)] U ∧ va_D (fun _ => True) [(x, .inr (7, xs)), (sh, .inr (5, ss)), (sc, .inl (cS, 5, .inl (fun _ => 0)))])) (va_Qi (fun (r : Int32) (_ : Unit) => r = (-1)) (fun _ t => va_P (dC, dI) vwCl [] t.heap ∧ va_K (dC, dI) vwCl [] t ∧ va_D (va_A [(x, .inr (7, xs)), (sh, .inr (5, ss)), (sc, .inl (cS, 5, .inl (fun _ => 0)))] sz) []) (va_A [(x, .inr (7, xs)), (sh, .inr (5, ss)), (sc, .inl (cS, 5, .inl (fun _ => 0)))] sz)) 0 0 (va_A [(x, .inr (7, xs)), (sh, .inr (5, ss)), (sc, .inl (cS, 5, .inl (fun _ => 0)))] sz) := by
  refine Met.ofW (cc := cX8_knot) (maxL := 3) (ret := (some .int)) (by decide) rfl ?_
  intro p e s m args below meth c s₁ B hml hv
  obtain ⟨rfl, hsz, hP, hK, hD0⟩ := hv
  have hx := B.exec
  have hb := B.bytes
  have hr := B.returns
  have hts := atoms_spec (ws := zw_x_knot) B.pre
  have hown : s.vm.findClass RX8 = some m.cls := findClass_of_methodNamed B.named
  have hlocks := B.notSynchronized
  subst hsz
  have hD := hD0.self (sz := s.heap.size)
  generalize hAe : va_A [(x, .inr (7, xs)), (sh, .inr (5, ss)), (sc, .inl (cS, 5, .inl (fun _ => 0)))] s.heap.size = A at hD ⊢
  have hA : ∀ q : Nat, s.heap.size ≤ q → A q := fun q h => by rw [← hAe]; exact Or.inr h
  have hS : va_S A s.heap s.heap [] := va_S.rf
  have hP : va_P (dC, dI) vwCl [(x, .inr (7, xs)), (sh, .inr (5, ss)), (sc, .inl (cS, 5, .inl (fun _ => 0)))] s.heap := hP
  have m_0 : (.fieldLink RX8 60 "BowWalk" "shop" "LBowWalk$Shop;" : Cond) ∈ zw_x_knot := List.mem_append_left _ (List.mem_of_getElem? (i := 1) rfl)
  have k_0 := hts _ m_0
  have m_1 : (.methodLink RX8 104 yX5_has : Cond) ∈ zw_x_knot := List.mem_append_left _ (List.mem_of_getElem? (i := 2) rfl)
  have k_1 := hts _ m_1
  have m_2 : (.instanceMethod yX5_has : Cond) ∈ zw_x_knot := List.mem_append_left _ (List.mem_of_getElem? (i := 3) rfl)
  have k_2 := hts _ m_2
  have m_3 : (.selects RX5 yX5_has yX5_has : Cond) ∈ zw_x_knot := List.mem_append_left _ (List.mem_of_getElem? (i := 4) rfl)
  have k_3 := hts _ m_3
  have m_4 : (.initialized RX5 : Cond) ∈ zw_x_knot := List.mem_append_left _ (List.mem_of_getElem? (i := 5) rfl)
  have k_4 := hts _ m_4
  have g_c_has0 : ∀ w ∈ zw_c_has0, w ∈ zw_x_knot := fun w h => List.mem_append_right _ (List.mem_append_left _ h)
  have i_X8 : ∀ w ∈ u_ws RX8 TX8 14, w ∈ zw_x_knot := fun w h => List.mem_append_right _ (List.mem_append_right _ (List.mem_append_left _ h))
  have hl := lv_entry ([.ref x, .int a1, .int a2]) (n := 3) (Nat.le_of_ble_eq_true rfl)
  rw [lg_entry_eq]
  generalize (lg_sl ([.ref x, .int a1, .int a2]) ++ List.replicate (3 - (lg_sl ([.ref x, .int a1, .int a2])).length) Slot.unset).toArray = ls at hl ⊢
  have hl : lv_has ls 3 [(0, .ref x), (1, .int a1), (2, .int a2)] := hl
  refine lv_aload_n hx hb dX8_knot_0 rfl (lv_at hl 0 rfl) ?_
  refine va_get (D := (dC, dI)) (ci := 7) (v := .ref sh) (C := RX8) (T := TX8) (N := 14) hx hb hts i_X8 hown hK hP 0 rfl rfl 9 (by decide) k_0 (fun _ h9 => h9) f_xs_9 dX8_knot_1 ?_
  refine lv_iconst (v := 0) hx hb dX8_knot_4 (by decide) ?_
  refine lv_iload_n hx hb dX8_knot_5 rfl (lv_at hl 1 rfl) ?_
  have hPc := hP.sub (ws' := [(sh, .inr (5, ss)), (sc, .inl (cS, 5, .inl (fun _ => 0)))]) [1, 2] rfl
  have hDc := hD.sub (ws' := [(sh, .inr (5, ss)), (sc, .inl (cS, 5, .inl (fun _ => 0)))]) [1, 2] (by decide) rfl
  have hKc := hK.sub (tys' := [(cS, .int)]) [0] rfl
  have hFc := va_free (wc := [(sh, .inr (5, ss)), (sc, .inl (cS, 5, .inl (fun _ => 0)))]) hD hS hA [1, 2] rfl
  refine va_calli (va_runV (As := [.int 0, .int a1]) (rest := []) ⟨hx, hb, hml, hown, hts⟩ (c_has0 l dC dI s.heap.size sh ss sc cS 0 a1 f_ss_0 (p1_in (i := 0) (n := 5) (by decide))) (cwV 2 hts (p1_gV m_1 m_2 m_3 m_4 g_c_has0 gz_c_has0) rfl rfl rfl (by decide +kernel) ⟨by decide, by decide⟩) ⟨fun a U g mk q => by obtain ⟨q0, q1, qP, qK, qD⟩ := q; exact ⟨q0, q1, qP, va_K.moved (u := U) (U := U.calling g mk a) (Vm.Alike.refl U.vm) qK, qD⟩, va_recv hKc hPc (ci := 5) (q0 := 0) rfl rfl, fun U hU hW => ⟨rfl, by rw [hU], by rw [hU]; exact hPc, va_K.moved hW.alike hKc, hDc.weaken (fun _ _ _ _ => trivial)⟩⟩ rfl rfl hl.1 rfl (lv_room (Nat.le_of_ble_eq_true rfl)) dX8_knot_6 ⟨by decide, by decide⟩) hS (fun q _ h => hFc q h) hFc (fun r_1 u t H1 locs ht hvm hw hB hz1 hk1 hS => ?_)
  obtain ⟨hP1, hK1, hD1⟩ := hB
  rw [ht] at hP1
  obtain ⟨hP, hD⟩ := va_join (wr := [(x, .inr (7, xs))]) (w1 := [(sh, .inr (5, ss)), (sc, .inl (cS, 5, .inl (fun _ => 0)))]) hP hD [1, 2] [0] rfl rfl (by decide) (by decide) hk1 hFc hP1 hD1
  generalize H1 = H at hP hS ⊢
  have hP : va_P (dC, dI) vwCl [(x, .inr (7, xs)), (sh, .inr (5, ss)), (sc, .inl (cS, 5, .inl (fun _ => 0)))] H := hP
  have hD : va_D A [(x, .inr (7, xs)), (sh, .inr (5, ss)), (sc, .inl (cS, 5, .inl (fun _ => 0)))] := hD
  try dsimp only at hw
  obtain rfl : r_1 = 0 := hw
  refine lv_if_ne (tgt := 14) hx hb dX8_knot_9 (by decide) (fun c9 => absurd c9 (by decide)) (fun _ => ?_)
  refine lv_iconst (v := (-1)) hx hb dX8_knot_12 (by decide) ?_
  have hP9 := hP.sub (ws' := []) [] rfl
  have hD9 := hD.sub (ws' := []) [] (by decide) rfl
  have hK9 := hK.sub (tys' := []) [] rfl
  exact W.iret (v := (-1)) hx hb hr (fun t ht hW => ⟨⟨(-1), (), rfl, rfl, by rw [ht]; exact hP9, va_K.moved hW.alike hK9, hD9⟩, hS.F ht⟩) hS.2.2 dX8_knot_13
def zo_x_tie : List Cond := [.code yX8_tie cX8_tie 3 (some .int), .fieldLink RX8 60 "BowWalk" "shop" "LBowWalk$Shop;", .methodLink RX8 104 yX5_has, .instanceMethod yX5_has, .selects RX5 yX5_has yX5_has, .initialized RX5]
def zw_x_tie : List Cond := zo_x_tie ++ (zw_c_has0 ++ (wsX80 ++ []))
theorem gz_x_tie : zw_x_tie.all goodWord = true := p1_ga (by decide +kernel) (p1_ga gz_c_has0 (p1_ga gk_X8 p1_g0))
theorem iz_x_tie : ∀ w ∈ zw_x_tie, w ∈ lw_tbl := p1_ia (p1_all [730, 508, 714, 715, 716, 106] (by decide +kernel)) (p1_ia iz_c_has0 (p1_ia ik_X8 p1_i0))
set_option maxHeartbeats 4000000 in
set_option maxRecDepth 100000 in
theorem x_tie (l : Launch) (dC : Nat → ClassId) (dI : Nat → Nat → Nat) (sz : Nat) (x : Nat) (xs : List Value) (sh : Nat) (ss : List Value) (sc : Nat) (cS : ClassId) (a1 : Int32) (a2 : Int32) (f_xs_9 : xs[9]? = some (.ref sh)) (f_ss_0 : ss[0]? = some (.ref sc)) : Met l yX8_tie zw_x_tie ({ frames := 1, cells := 0, slots := 0, locals := 22 }) (va_Pc [.ref x, .int a1, .int a2] (fun U => U.heap.size = sz ∧ va_P (dC, dI) vwCl [(x, .inr (7, xs)), (sh, .inr (5, ss)), (sc, .inl (cS, 5, .inl (fun _ => 0)))] U.heap ∧ va_K (dC, dI) vwCl [(cS, .int)] U ∧ va_D (fun _ => True) [(x, .inr (7, xs)), (sh, .inr (5, ss)), (sc, .inl (cS, 5, .inl (fun _ => 0)))])) (va_Qi (fun (r : Int32) (_ : Unit) => r = (-1)) (fun _ t => va_P (dC, dI) vwCl [] t.heap ∧ va_K (dC, dI) vwCl [] t ∧ va_D (va_A [(x, .inr (7, xs)), (sh, .inr (5, ss)), (sc, .inl (cS, 5, .inl (fun _ => 0)))] sz) []) (va_A [(x, .inr (7, xs)), (sh, .inr (5, ss)), (sc, .inl (cS, 5, .inl (fun _ => 0)))] sz)) 0 0 (va_A [(x, .inr (7, xs)), (sh, .inr (5, ss)), (sc, .inl (cS, 5, .inl (fun _ => 0)))] sz) := by
  refine Met.ofW (cc := cX8_tie) (maxL := 3) (ret := (some .int)) (by decide) rfl ?_
  intro p e s m args below meth c s₁ B hml hv
  obtain ⟨rfl, hsz, hP, hK, hD0⟩ := hv
  have hx := B.exec
  have hb := B.bytes
  have hr := B.returns
  have hts := atoms_spec (ws := zw_x_tie) B.pre
  have hown : s.vm.findClass RX8 = some m.cls := findClass_of_methodNamed B.named
  have hlocks := B.notSynchronized
  subst hsz
  have hD := hD0.self (sz := s.heap.size)
  generalize hAe : va_A [(x, .inr (7, xs)), (sh, .inr (5, ss)), (sc, .inl (cS, 5, .inl (fun _ => 0)))] s.heap.size = A at hD ⊢
  have hA : ∀ q : Nat, s.heap.size ≤ q → A q := fun q h => by rw [← hAe]; exact Or.inr h
  have hS : va_S A s.heap s.heap [] := va_S.rf
  have hP : va_P (dC, dI) vwCl [(x, .inr (7, xs)), (sh, .inr (5, ss)), (sc, .inl (cS, 5, .inl (fun _ => 0)))] s.heap := hP
  have m_0 : (.fieldLink RX8 60 "BowWalk" "shop" "LBowWalk$Shop;" : Cond) ∈ zw_x_tie := List.mem_append_left _ (List.mem_of_getElem? (i := 1) rfl)
  have k_0 := hts _ m_0
  have m_1 : (.methodLink RX8 104 yX5_has : Cond) ∈ zw_x_tie := List.mem_append_left _ (List.mem_of_getElem? (i := 2) rfl)
  have k_1 := hts _ m_1
  have m_2 : (.instanceMethod yX5_has : Cond) ∈ zw_x_tie := List.mem_append_left _ (List.mem_of_getElem? (i := 3) rfl)
  have k_2 := hts _ m_2
  have m_3 : (.selects RX5 yX5_has yX5_has : Cond) ∈ zw_x_tie := List.mem_append_left _ (List.mem_of_getElem? (i := 4) rfl)
  have k_3 := hts _ m_3
  have m_4 : (.initialized RX5 : Cond) ∈ zw_x_tie := List.mem_append_left _ (List.mem_of_getElem? (i := 5) rfl)
  have k_4 := hts _ m_4
  have g_c_has0 : ∀ w ∈ zw_c_has0, w ∈ zw_x_tie := fun w h => List.mem_append_right _ (List.mem_append_left _ h)
  have i_X8 : ∀ w ∈ u_ws RX8 TX8 14, w ∈ zw_x_tie := fun w h => List.mem_append_right _ (List.mem_append_right _ (List.mem_append_left _ h))
  have hl := lv_entry ([.ref x, .int a1, .int a2]) (n := 3) (Nat.le_of_ble_eq_true rfl)
  rw [lg_entry_eq]
  generalize (lg_sl ([.ref x, .int a1, .int a2]) ++ List.replicate (3 - (lg_sl ([.ref x, .int a1, .int a2])).length) Slot.unset).toArray = ls at hl ⊢
  have hl : lv_has ls 3 [(0, .ref x), (1, .int a1), (2, .int a2)] := hl
  refine lv_aload_n hx hb dX8_tie_0 rfl (lv_at hl 0 rfl) ?_
  refine va_get (D := (dC, dI)) (ci := 7) (v := .ref sh) (C := RX8) (T := TX8) (N := 14) hx hb hts i_X8 hown hK hP 0 rfl rfl 9 (by decide) k_0 (fun _ h9 => h9) f_xs_9 dX8_tie_1 ?_
  refine lv_iconst (v := 0) hx hb dX8_tie_4 (by decide) ?_
  refine lv_iload_n hx hb dX8_tie_5 rfl (lv_at hl 1 rfl) ?_
  have hPc := hP.sub (ws' := [(sh, .inr (5, ss)), (sc, .inl (cS, 5, .inl (fun _ => 0)))]) [1, 2] rfl
  have hDc := hD.sub (ws' := [(sh, .inr (5, ss)), (sc, .inl (cS, 5, .inl (fun _ => 0)))]) [1, 2] (by decide) rfl
  have hKc := hK.sub (tys' := [(cS, .int)]) [0] rfl
  have hFc := va_free (wc := [(sh, .inr (5, ss)), (sc, .inl (cS, 5, .inl (fun _ => 0)))]) hD hS hA [1, 2] rfl
  refine va_calli (va_runV (As := [.int 0, .int a1]) (rest := []) ⟨hx, hb, hml, hown, hts⟩ (c_has0 l dC dI s.heap.size sh ss sc cS 0 a1 f_ss_0 (p1_in (i := 0) (n := 5) (by decide))) (cwV 2 hts (p1_gV m_1 m_2 m_3 m_4 g_c_has0 gz_c_has0) rfl rfl rfl (by decide +kernel) ⟨by decide, by decide⟩) ⟨fun a U g mk q => by obtain ⟨q0, q1, qP, qK, qD⟩ := q; exact ⟨q0, q1, qP, va_K.moved (u := U) (U := U.calling g mk a) (Vm.Alike.refl U.vm) qK, qD⟩, va_recv hKc hPc (ci := 5) (q0 := 0) rfl rfl, fun U hU hW => ⟨rfl, by rw [hU], by rw [hU]; exact hPc, va_K.moved hW.alike hKc, hDc.weaken (fun _ _ _ _ => trivial)⟩⟩ rfl rfl hl.1 rfl (lv_room (Nat.le_of_ble_eq_true rfl)) dX8_tie_6 ⟨by decide, by decide⟩) hS (fun q _ h => hFc q h) hFc (fun r_1 u t H1 locs ht hvm hw hB hz1 hk1 hS => ?_)
  obtain ⟨hP1, hK1, hD1⟩ := hB
  rw [ht] at hP1
  obtain ⟨hP, hD⟩ := va_join (wr := [(x, .inr (7, xs))]) (w1 := [(sh, .inr (5, ss)), (sc, .inl (cS, 5, .inl (fun _ => 0)))]) hP hD [1, 2] [0] rfl rfl (by decide) (by decide) hk1 hFc hP1 hD1
  generalize H1 = H at hP hS ⊢
  have hP : va_P (dC, dI) vwCl [(x, .inr (7, xs)), (sh, .inr (5, ss)), (sc, .inl (cS, 5, .inl (fun _ => 0)))] H := hP
  have hD : va_D A [(x, .inr (7, xs)), (sh, .inr (5, ss)), (sc, .inl (cS, 5, .inl (fun _ => 0)))] := hD
  try dsimp only at hw
  obtain rfl : r_1 = 0 := hw
  refine lv_if_eq (tgt := 24) hx hb dX8_tie_9 (by decide) (fun _ => ?_) (fun c9 => absurd c9 (by decide))
  refine lv_iconst (v := (-1)) hx hb dX8_tie_24 (by decide) ?_
  have hP9 := hP.sub (ws' := []) [] rfl
  have hD9 := hD.sub (ws' := []) [] (by decide) rfl
  have hK9 := hK.sub (tys' := []) [] rfl
  exact W.iret (v := (-1)) hx hb hr (fun t ht hW => ⟨⟨(-1), (), rfl, rfl, by rw [ht]; exact hP9, va_K.moved hW.alike hK9, hD9⟩, hS.F ht⟩) hS.2.2 dX8_tie_25
def zo_x_walk : List Cond := [.code yX8_walk cX8_walk 5 (some .int), .fieldLink RX8 68 "BowWalk" "tied" "Z"]
def zw_x_walk : List Cond := zo_x_walk ++ (wsX80 ++ [])
theorem gz_x_walk : zw_x_walk.all goodWord = true := p1_ga (by decide +kernel) (p1_ga gk_X8 p1_g0)
theorem iz_x_walk : ∀ w ∈ zw_x_walk, w ∈ lw_tbl := p1_ia (p1_all [748, 510] (by decide +kernel)) (p1_ia ik_X8 p1_i0)
set_option maxHeartbeats 4000000 in
set_option maxRecDepth 100000 in
theorem x_walk (l : Launch) (dC : Nat → ClassId) (dI : Nat → Nat → Nat) (sz : Nat) (x : Nat) (xs : List Value) (a1 : Int32) (a2 : Int32) (f_xs_11 : xs[11]? = some (.int 0)) : Met l yX8_walk zw_x_walk ({ frames := 0, cells := 0, slots := 0, locals := 0 }) (va_Pc [.ref x, .int a1, .int a2] (fun U => U.heap.size = sz ∧ va_P (dC, dI) vwCl [(x, .inr (7, xs))] U.heap ∧ va_K (dC, dI) vwCl [] U ∧ va_D (fun _ => True) [(x, .inr (7, xs))])) (va_Qi (fun (r : Int32) (_ : Unit) => r = (-1)) (fun _ t => va_P (dC, dI) vwCl [] t.heap ∧ va_K (dC, dI) vwCl [] t ∧ va_D (va_A [(x, .inr (7, xs))] sz) []) (va_A [(x, .inr (7, xs))] sz)) 0 0 (va_A [(x, .inr (7, xs))] sz) := by
  refine Met.ofW (cc := cX8_walk) (maxL := 5) (ret := (some .int)) (by decide) rfl ?_
  intro p e s m args below meth c s₁ B hml hv
  obtain ⟨rfl, hsz, hP, hK, hD0⟩ := hv
  have hx := B.exec
  have hb := B.bytes
  have hr := B.returns
  have hts := atoms_spec (ws := zw_x_walk) B.pre
  have hown : s.vm.findClass RX8 = some m.cls := findClass_of_methodNamed B.named
  have hlocks := B.notSynchronized
  subst hsz
  have hD := hD0.self (sz := s.heap.size)
  generalize hAe : va_A [(x, .inr (7, xs))] s.heap.size = A at hD ⊢
  have hA : ∀ q : Nat, s.heap.size ≤ q → A q := fun q h => by rw [← hAe]; exact Or.inr h
  have hS : va_S A s.heap s.heap [] := va_S.rf
  have hP : va_P (dC, dI) vwCl [(x, .inr (7, xs))] s.heap := hP
  have m_0 : (.fieldLink RX8 68 "BowWalk" "tied" "Z" : Cond) ∈ zw_x_walk := List.mem_append_left _ (List.mem_of_getElem? (i := 1) rfl)
  have k_0 := hts _ m_0
  have i_X8 : ∀ w ∈ u_ws RX8 TX8 14, w ∈ zw_x_walk := fun w h => List.mem_append_right _ (List.mem_append_left _ h)
  have hl := lv_entry ([.ref x, .int a1, .int a2]) (n := 5) (Nat.le_of_ble_eq_true rfl)
  rw [lg_entry_eq]
  generalize (lg_sl ([.ref x, .int a1, .int a2]) ++ List.replicate (5 - (lg_sl ([.ref x, .int a1, .int a2])).length) Slot.unset).toArray = ls at hl ⊢
  have hl : lv_has ls 5 [(0, .ref x), (1, .int a1), (2, .int a2)] := hl
  refine lv_aload_n hx hb dX8_walk_0 rfl (lv_at hl 0 rfl) ?_
  refine va_get (D := (dC, dI)) (ci := 7) (v := .int 0) (C := RX8) (T := TX8) (N := 14) hx hb hts i_X8 hown hK hP 0 rfl rfl 11 (by decide) k_0 (fun _ h9 => h9) f_xs_11 dX8_walk_1 ?_
  refine lv_if_eq (tgt := 30) hx hb dX8_walk_4 (by decide) (fun _ => ?_) (fun c9 => absurd c9 (by decide))
  refine lv_iconst (v := (-1)) hx hb dX8_walk_30 (by decide) ?_
  have hP9 := hP.sub (ws' := []) [] rfl
  have hD9 := hD.sub (ws' := []) [] (by decide) rfl
  have hK9 := hK.sub (tys' := []) [] rfl
  exact W.iret (v := (-1)) hx hb hr (fun t ht hW => ⟨⟨(-1), (), rfl, rfl, by rw [ht]; exact hP9, va_K.moved hW.alike hK9, hD9⟩, hS.F ht⟩) hS.2.2 dX8_walk_31
def zo_x_pull : List Cond := [.code yX8_pull cX8_pull 2 (some .int), .fieldLink RX8 68 "BowWalk" "tied" "Z"]
def zw_x_pull : List Cond := zo_x_pull ++ (wsX80 ++ [])
theorem gz_x_pull : zw_x_pull.all goodWord = true := p1_ga (by decide +kernel) (p1_ga gk_X8 p1_g0)
theorem iz_x_pull : ∀ w ∈ zw_x_pull, w ∈ lw_tbl := p1_ia (p1_all [797, 510] (by decide +kernel)) (p1_ia ik_X8 p1_i0)
set_option maxHeartbeats 4000000 in
set_option maxRecDepth 100000 in
theorem x_pull (l : Launch) (dC : Nat → ClassId) (dI : Nat → Nat → Nat) (sz : Nat) (x : Nat) (xs : List Value) (a1 : Int32) (f_xs_11 : xs[11]? = some (.int 0)) : Met l yX8_pull zw_x_pull ({ frames := 0, cells := 0, slots := 0, locals := 0 }) (va_Pc [.ref x, .int a1] (fun U => U.heap.size = sz ∧ va_P (dC, dI) vwCl [(x, .inr (7, xs))] U.heap ∧ va_K (dC, dI) vwCl [] U ∧ va_D (fun _ => True) [(x, .inr (7, xs))])) (va_Qi (fun (r : Int32) (_ : Unit) => r = (-1)) (fun _ t => va_P (dC, dI) vwCl [] t.heap ∧ va_K (dC, dI) vwCl [] t ∧ va_D (va_A [(x, .inr (7, xs))] sz) []) (va_A [(x, .inr (7, xs))] sz)) 0 0 (va_A [(x, .inr (7, xs))] sz) := by
  refine Met.ofW (cc := cX8_pull) (maxL := 2) (ret := (some .int)) (by decide) rfl ?_
  intro p e s m args below meth c s₁ B hml hv
  obtain ⟨rfl, hsz, hP, hK, hD0⟩ := hv
  have hx := B.exec
  have hb := B.bytes
  have hr := B.returns
  have hts := atoms_spec (ws := zw_x_pull) B.pre
  have hown : s.vm.findClass RX8 = some m.cls := findClass_of_methodNamed B.named
  have hlocks := B.notSynchronized
  subst hsz
  have hD := hD0.self (sz := s.heap.size)
  generalize hAe : va_A [(x, .inr (7, xs))] s.heap.size = A at hD ⊢
  have hA : ∀ q : Nat, s.heap.size ≤ q → A q := fun q h => by rw [← hAe]; exact Or.inr h
  have hS : va_S A s.heap s.heap [] := va_S.rf
  have hP : va_P (dC, dI) vwCl [(x, .inr (7, xs))] s.heap := hP
  have m_0 : (.fieldLink RX8 68 "BowWalk" "tied" "Z" : Cond) ∈ zw_x_pull := List.mem_append_left _ (List.mem_of_getElem? (i := 1) rfl)
  have k_0 := hts _ m_0
  have i_X8 : ∀ w ∈ u_ws RX8 TX8 14, w ∈ zw_x_pull := fun w h => List.mem_append_right _ (List.mem_append_left _ h)
  have hl := lv_entry ([.ref x, .int a1]) (n := 2) (Nat.le_of_ble_eq_true rfl)
  rw [lg_entry_eq]
  generalize (lg_sl ([.ref x, .int a1]) ++ List.replicate (2 - (lg_sl ([.ref x, .int a1])).length) Slot.unset).toArray = ls at hl ⊢
  have hl : lv_has ls 2 [(0, .ref x), (1, .int a1)] := hl
  refine lv_aload_n hx hb dX8_pull_0 rfl (lv_at hl 0 rfl) ?_
  refine va_get (D := (dC, dI)) (ci := 7) (v := .int 0) (C := RX8) (T := TX8) (N := 14) hx hb hts i_X8 hown hK hP 0 rfl rfl 11 (by decide) k_0 (fun _ h9 => h9) f_xs_11 dX8_pull_1 ?_
  refine lv_if_eq (tgt := 28) hx hb dX8_pull_4 (by decide) (fun _ => ?_) (fun c9 => absurd c9 (by decide))
  refine lv_iconst (v := (-1)) hx hb dX8_pull_28 (by decide) ?_
  have hP9 := hP.sub (ws' := []) [] rfl
  have hD9 := hD.sub (ws' := []) [] (by decide) rfl
  have hK9 := hK.sub (tys' := []) [] rfl
  exact W.iret (v := (-1)) hx hb hr (fun t ht hW => ⟨⟨(-1), (), rfl, rfl, by rw [ht]; exact hP9, va_K.moved hW.alike hK9, hD9⟩, hS.F ht⟩) hS.2.2 dX8_pull_29
def zo_x_bow : List Cond := [.code yX8_bow cX8_bow 2 (some .int), .fieldLink RX8 68 "BowWalk" "tied" "Z"]
def zw_x_bow : List Cond := zo_x_bow ++ (wsX80 ++ [])
theorem gz_x_bow : zw_x_bow.all goodWord = true := p1_ga (by decide +kernel) (p1_ga gk_X8 p1_g0)
theorem iz_x_bow : ∀ w ∈ zw_x_bow, w ∈ lw_tbl := p1_ia (p1_all [805, 510] (by decide +kernel)) (p1_ia ik_X8 p1_i0)
set_option maxHeartbeats 4000000 in
set_option maxRecDepth 100000 in
theorem x_bow (l : Launch) (dC : Nat → ClassId) (dI : Nat → Nat → Nat) (sz : Nat) (x : Nat) (xs : List Value) (a1 : Int32) (f_xs_11 : xs[11]? = some (.int 0)) : Met l yX8_bow zw_x_bow ({ frames := 0, cells := 0, slots := 0, locals := 0 }) (va_Pc [.ref x, .int a1] (fun U => U.heap.size = sz ∧ va_P (dC, dI) vwCl [(x, .inr (7, xs))] U.heap ∧ va_K (dC, dI) vwCl [] U ∧ va_D (fun _ => True) [(x, .inr (7, xs))])) (va_Qi (fun (r : Int32) (_ : Unit) => r = (-1)) (fun _ t => va_P (dC, dI) vwCl [] t.heap ∧ va_K (dC, dI) vwCl [] t ∧ va_D (va_A [(x, .inr (7, xs))] sz) []) (va_A [(x, .inr (7, xs))] sz)) 0 0 (va_A [(x, .inr (7, xs))] sz) := by
  refine Met.ofW (cc := cX8_bow) (maxL := 2) (ret := (some .int)) (by decide) rfl ?_
  intro p e s m args below meth c s₁ B hml hv
  obtain ⟨rfl, hsz, hP, hK, hD0⟩ := hv
  have hx := B.exec
  have hb := B.bytes
  have hr := B.returns
  have hts := atoms_spec (ws := zw_x_bow) B.pre
  have hown : s.vm.findClass RX8 = some m.cls := findClass_of_methodNamed B.named
  have hlocks := B.notSynchronized
  subst hsz
  have hD := hD0.self (sz := s.heap.size)
  generalize hAe : va_A [(x, .inr (7, xs))] s.heap.size = A at hD ⊢
  have hA : ∀ q : Nat, s.heap.size ≤ q → A q := fun q h => by rw [← hAe]; exact Or.inr h
  have hS : va_S A s.heap s.heap [] := va_S.rf
  have hP : va_P (dC, dI) vwCl [(x, .inr (7, xs))] s.heap := hP
  have m_0 : (.fieldLink RX8 68 "BowWalk" "tied" "Z" : Cond) ∈ zw_x_bow := List.mem_append_left _ (List.mem_of_getElem? (i := 1) rfl)
  have k_0 := hts _ m_0
  have i_X8 : ∀ w ∈ u_ws RX8 TX8 14, w ∈ zw_x_bow := fun w h => List.mem_append_right _ (List.mem_append_left _ h)
  have hl := lv_entry ([.ref x, .int a1]) (n := 2) (Nat.le_of_ble_eq_true rfl)
  rw [lg_entry_eq]
  generalize (lg_sl ([.ref x, .int a1]) ++ List.replicate (2 - (lg_sl ([.ref x, .int a1])).length) Slot.unset).toArray = ls at hl ⊢
  have hl : lv_has ls 2 [(0, .ref x), (1, .int a1)] := hl
  refine lv_aload_n hx hb dX8_bow_0 rfl (lv_at hl 0 rfl) ?_
  refine va_get (D := (dC, dI)) (ci := 7) (v := .int 0) (C := RX8) (T := TX8) (N := 14) hx hb hts i_X8 hown hK hP 0 rfl rfl 11 (by decide) k_0 (fun _ h9 => h9) f_xs_11 dX8_bow_1 ?_
  refine lv_if_ne (tgt := 9) hx hb dX8_bow_4 (by decide) (fun c9 => absurd c9 (by decide)) (fun _ => ?_)
  refine lv_iconst (v := (-1)) hx hb dX8_bow_7 (by decide) ?_
  have hP9 := hP.sub (ws' := []) [] rfl
  have hD9 := hD.sub (ws' := []) [] (by decide) rfl
  have hK9 := hK.sub (tys' := []) [] rfl
  exact W.iret (v := (-1)) hx hb hr (fun t ht hW => ⟨⟨(-1), (), rfl, rfl, by rw [ht]; exact hP9, va_K.moved hW.alike hK9, hD9⟩, hS.F ht⟩) hS.2.2 dX8_bow_8
def zo_x_image : List Cond := [.code yX8_image cX8_image 2 (some .int), .fieldLink RX8 68 "BowWalk" "tied" "Z"]
def zw_x_image : List Cond := zo_x_image ++ (wsX80 ++ [])
theorem gz_x_image : zw_x_image.all goodWord = true := p1_ga (by decide +kernel) (p1_ga gk_X8 p1_g0)
theorem iz_x_image : ∀ w ∈ zw_x_image, w ∈ lw_tbl := p1_ia (p1_all [1012, 510] (by decide +kernel)) (p1_ia ik_X8 p1_i0)
set_option maxHeartbeats 4000000 in
set_option maxRecDepth 100000 in
theorem x_image (l : Launch) (dC : Nat → ClassId) (dI : Nat → Nat → Nat) (sz : Nat) (x : Nat) (xs : List Value) (a1 : Int32) (f_xs_11 : xs[11]? = some (.int 0)) : Met l yX8_image zw_x_image ({ frames := 0, cells := 0, slots := 0, locals := 0 }) (va_Pc [.ref x, .int a1] (fun U => U.heap.size = sz ∧ va_P (dC, dI) vwCl [(x, .inr (7, xs))] U.heap ∧ va_K (dC, dI) vwCl [] U ∧ va_D (fun _ => True) [(x, .inr (7, xs))])) (va_Qi (fun (r : Int32) (_ : Unit) => r = (-1)) (fun _ t => va_P (dC, dI) vwCl [] t.heap ∧ va_K (dC, dI) vwCl [] t ∧ va_D (va_A [(x, .inr (7, xs))] sz) []) (va_A [(x, .inr (7, xs))] sz)) 0 0 (va_A [(x, .inr (7, xs))] sz) := by
  refine Met.ofW (cc := cX8_image) (maxL := 2) (ret := (some .int)) (by decide) rfl ?_
  intro p e s m args below meth c s₁ B hml hv
  obtain ⟨rfl, hsz, hP, hK, hD0⟩ := hv
  have hx := B.exec
  have hb := B.bytes
  have hr := B.returns
  have hts := atoms_spec (ws := zw_x_image) B.pre
  have hown : s.vm.findClass RX8 = some m.cls := findClass_of_methodNamed B.named
  have hlocks := B.notSynchronized
  subst hsz
  have hD := hD0.self (sz := s.heap.size)
  generalize hAe : va_A [(x, .inr (7, xs))] s.heap.size = A at hD ⊢
  have hA : ∀ q : Nat, s.heap.size ≤ q → A q := fun q h => by rw [← hAe]; exact Or.inr h
  have hS : va_S A s.heap s.heap [] := va_S.rf
  have hP : va_P (dC, dI) vwCl [(x, .inr (7, xs))] s.heap := hP
  have m_0 : (.fieldLink RX8 68 "BowWalk" "tied" "Z" : Cond) ∈ zw_x_image := List.mem_append_left _ (List.mem_of_getElem? (i := 1) rfl)
  have k_0 := hts _ m_0
  have i_X8 : ∀ w ∈ u_ws RX8 TX8 14, w ∈ zw_x_image := fun w h => List.mem_append_right _ (List.mem_append_left _ h)
  have hl := lv_entry ([.ref x, .int a1]) (n := 2) (Nat.le_of_ble_eq_true rfl)
  rw [lg_entry_eq]
  generalize (lg_sl ([.ref x, .int a1]) ++ List.replicate (2 - (lg_sl ([.ref x, .int a1])).length) Slot.unset).toArray = ls at hl ⊢
  have hl : lv_has ls 2 [(0, .ref x), (1, .int a1)] := hl
  refine lv_aload_n hx hb dX8_image_0 rfl (lv_at hl 0 rfl) ?_
  refine va_get (D := (dC, dI)) (ci := 7) (v := .int 0) (C := RX8) (T := TX8) (N := 14) hx hb hts i_X8 hown hK hP 0 rfl rfl 11 (by decide) k_0 (fun _ h9 => h9) f_xs_11 dX8_image_1 ?_
  refine lv_if_eq (tgt := 16) hx hb dX8_image_4 (by decide) (fun _ => ?_) (fun c9 => absurd c9 (by decide))
  refine lv_iconst (v := (-1)) hx hb dX8_image_16 (by decide) ?_
  have hP9 := hP.sub (ws' := []) [] rfl
  have hD9 := hD.sub (ws' := []) [] (by decide) rfl
  have hK9 := hK.sub (tys' := []) [] rfl
  exact W.iret (v := (-1)) hx hb hr (fun t ht hW => ⟨⟨(-1), (), rfl, rfl, by rw [ht]; exact hP9, va_K.moved hW.alike hK9, hD9⟩, hS.F ht⟩) hS.2.2 dX8_image_17
def zo_x_holds : List Cond := [.code yX8_holds cX8_holds 5 (some .int), .methodLink RX8 208 yX8_canTry, .instanceMethod yX8_canTry, .selects RX8 yX8_canTry yX8_canTry, .initialized RX8]
def zw_x_holds : List Cond := zo_x_holds ++ (zw_c_canTry ++ [])
theorem gz_x_holds : zw_x_holds.all goodWord = true := p1_ga (by decide +kernel) (p1_ga gz_c_canTry p1_g0)
theorem iz_x_holds : ∀ w ∈ zw_x_holds, w ∈ lw_tbl := p1_ia (p1_all [809, 810, 812, 28, 104] (by decide +kernel)) (p1_ia iz_c_canTry p1_i0)
set_option maxHeartbeats 4000000 in
set_option maxRecDepth 100000 in
theorem x_holds (l : Launch) (dC : Nat → ClassId) (dI : Nat → Nat → Nat) (sz : Nat) (x : Nat) (xs : List Value) (sh : Nat) (ss : List Value) (sc : Nat) (cS : ClassId) (a1 : Int32) (a2 : Int32) (a3 : Int32) (a4 : Int32) (f_xs_9 : xs[9]? = some (.ref sh)) (f_ss_0 : ss[0]? = some (.ref sc)) : Met l yX8_holds zw_x_holds ({ frames := 2, cells := 0, slots := 0, locals := 45 }) (va_Pc [.ref x, .int a1, .int a2, .int a3, .int a4] (fun U => U.heap.size = sz ∧ va_P (dC, dI) vwCl [(x, .inr (7, xs)), (sh, .inr (5, ss)), (sc, .inl (cS, 5, .inl (fun _ => 0)))] U.heap ∧ va_K (dC, dI) vwCl [(cS, .int)] U ∧ va_D (fun _ => True) [(x, .inr (7, xs)), (sh, .inr (5, ss)), (sc, .inl (cS, 5, .inl (fun _ => 0)))])) (va_Qi (fun (r : Int32) (_ : Unit) => r = (-1)) (fun _ t => va_P (dC, dI) vwCl [] t.heap ∧ va_K (dC, dI) vwCl [] t ∧ va_D (va_A [(x, .inr (7, xs)), (sh, .inr (5, ss)), (sc, .inl (cS, 5, .inl (fun _ => 0)))] sz) []) (va_A [(x, .inr (7, xs)), (sh, .inr (5, ss)), (sc, .inl (cS, 5, .inl (fun _ => 0)))] sz)) 0 0 (va_A [(x, .inr (7, xs)), (sh, .inr (5, ss)), (sc, .inl (cS, 5, .inl (fun _ => 0)))] sz) := by
  refine Met.ofW (cc := cX8_holds) (maxL := 5) (ret := (some .int)) (by decide) rfl ?_
  intro p e s m args below meth c s₁ B hml hv
  obtain ⟨rfl, hsz, hP, hK, hD0⟩ := hv
  have hx := B.exec
  have hb := B.bytes
  have hr := B.returns
  have hts := atoms_spec (ws := zw_x_holds) B.pre
  have hown : s.vm.findClass RX8 = some m.cls := findClass_of_methodNamed B.named
  have hlocks := B.notSynchronized
  subst hsz
  have hD := hD0.self (sz := s.heap.size)
  generalize hAe : va_A [(x, .inr (7, xs)), (sh, .inr (5, ss)), (sc, .inl (cS, 5, .inl (fun _ => 0)))] s.heap.size = A at hD ⊢
  have hA : ∀ q : Nat, s.heap.size ≤ q → A q := fun q h => by rw [← hAe]; exact Or.inr h
  have hS : va_S A s.heap s.heap [] := va_S.rf
  have hP : va_P (dC, dI) vwCl [(x, .inr (7, xs)), (sh, .inr (5, ss)), (sc, .inl (cS, 5, .inl (fun _ => 0)))] s.heap := hP
  have m_0 : (.methodLink RX8 208 yX8_canTry : Cond) ∈ zw_x_holds := List.mem_append_left _ (List.mem_of_getElem? (i := 1) rfl)
  have k_0 := hts _ m_0
  have m_1 : (.instanceMethod yX8_canTry : Cond) ∈ zw_x_holds := List.mem_append_left _ (List.mem_of_getElem? (i := 2) rfl)
  have k_1 := hts _ m_1
  have m_2 : (.selects RX8 yX8_canTry yX8_canTry : Cond) ∈ zw_x_holds := List.mem_append_left _ (List.mem_of_getElem? (i := 3) rfl)
  have k_2 := hts _ m_2
  have m_3 : (.initialized RX8 : Cond) ∈ zw_x_holds := List.mem_append_left _ (List.mem_of_getElem? (i := 4) rfl)
  have k_3 := hts _ m_3
  have g_c_canTry : ∀ w ∈ zw_c_canTry, w ∈ zw_x_holds := fun w h => List.mem_append_right _ (List.mem_append_left _ h)
  have hl := lv_entry ([.ref x, .int a1, .int a2, .int a3, .int a4]) (n := 5) (Nat.le_of_ble_eq_true rfl)
  rw [lg_entry_eq]
  generalize (lg_sl ([.ref x, .int a1, .int a2, .int a3, .int a4]) ++ List.replicate (5 - (lg_sl ([.ref x, .int a1, .int a2, .int a3, .int a4])).length) Slot.unset).toArray = ls at hl ⊢
  have hl : lv_has ls 5 [(0, .ref x), (1, .int a1), (2, .int a2), (3, .int a3), (4, .int a4)] := hl
  refine lv_aload_n hx hb dX8_holds_0 rfl (lv_at hl 0 rfl) ?_
  refine lv_iload_n hx hb dX8_holds_1 rfl (lv_at hl 1 rfl) ?_
  refine lv_iload_n hx hb dX8_holds_2 rfl (lv_at hl 2 rfl) ?_
  refine lv_iload_n hx hb dX8_holds_3 rfl (lv_at hl 3 rfl) ?_
  have hPc := hP.sub (ws' := [(x, .inr (7, xs)), (sh, .inr (5, ss)), (sc, .inl (cS, 5, .inl (fun _ => 0)))]) [0, 1, 2] rfl
  have hDc := hD.sub (ws' := [(x, .inr (7, xs)), (sh, .inr (5, ss)), (sc, .inl (cS, 5, .inl (fun _ => 0)))]) [0, 1, 2] (by decide) rfl
  have hKc := hK.sub (tys' := [(cS, .int)]) [0] rfl
  have hFc := va_free (wc := [(x, .inr (7, xs)), (sh, .inr (5, ss)), (sc, .inl (cS, 5, .inl (fun _ => 0)))]) hD hS hA [0, 1, 2] rfl
  refine va_calli (va_runV (As := [.int a1, .int a2, .int a3]) (rest := []) ⟨hx, hb, hml, hown, hts⟩ (c_canTry l dC dI s.heap.size x xs sh ss sc cS a1 a2 a3 f_xs_9 f_ss_0) (cwV 3 hts (p1_gV m_0 m_1 m_2 m_3 g_c_canTry gz_c_canTry) rfl rfl rfl (by decide +kernel) ⟨by decide, by decide⟩) ⟨fun a U g mk q => by obtain ⟨q0, q1, qP, qK, qD⟩ := q; exact ⟨q0, q1, qP, va_K.moved (u := U) (U := U.calling g mk a) (Vm.Alike.refl U.vm) qK, qD⟩, va_recv hKc hPc (ci := 7) (q0 := 0) rfl rfl, fun U hU hW => ⟨rfl, by rw [hU], by rw [hU]; exact hPc, va_K.moved hW.alike hKc, hDc.weaken (fun _ _ _ _ => trivial)⟩⟩ rfl rfl hl.1 rfl (lv_room (Nat.le_of_ble_eq_true rfl)) dX8_holds_4 ⟨by decide, by decide⟩) hS (fun q _ h => hFc q h) hFc (fun r_1 u t H1 locs ht hvm hw hB hz1 hk1 hS => ?_)
  obtain ⟨hP1, hK1, hD1⟩ := hB
  rw [ht] at hP1
  obtain ⟨hP, hD⟩ := va_join (wr := []) (w1 := [(x, .inr (7, xs)), (sh, .inr (5, ss)), (sc, .inl (cS, 5, .inl (fun _ => 0)))]) hP hD [0, 1, 2] [] rfl rfl (by decide) (by decide) hk1 hFc hP1 hD1
  generalize H1 = H at hP hS ⊢
  have hP : va_P (dC, dI) vwCl [(x, .inr (7, xs)), (sh, .inr (5, ss)), (sc, .inl (cS, 5, .inl (fun _ => 0)))] H := hP
  have hD : va_D A [(x, .inr (7, xs)), (sh, .inr (5, ss)), (sc, .inl (cS, 5, .inl (fun _ => 0)))] := hD
  try dsimp only at hw
  obtain rfl : r_1 = 0 := hw
  refine lv_if_eq (tgt := 28) hx hb dX8_holds_7 (by decide) (fun _ => ?_) (fun c9 => absurd c9 (by decide))
  refine lv_iconst (v := (-1)) hx hb dX8_holds_28 (by decide) ?_
  have hP9 := hP.sub (ws' := []) [] rfl
  have hD9 := hD.sub (ws' := []) [] (by decide) rfl
  have hK9 := hK.sub (tys' := []) [] rfl
  exact W.iret (v := (-1)) hx hb hr (fun t ht hW => ⟨⟨(-1), (), rfl, rfl, by rw [ht]; exact hP9, va_K.moved hW.alike hK9, hD9⟩, hS.F ht⟩) hS.2.2 dX8_holds_29
def zo_x_begins : List Cond := [.code yX8_begins cX8_begins 4 (some .int), .methodLink RX8 208 yX8_canTry, .instanceMethod yX8_canTry, .selects RX8 yX8_canTry yX8_canTry, .initialized RX8]
def zw_x_begins : List Cond := zo_x_begins ++ (zw_c_canTry ++ [])
theorem gz_x_begins : zw_x_begins.all goodWord = true := p1_ga (by decide +kernel) (p1_ga gz_c_canTry p1_g0)
theorem iz_x_begins : ∀ w ∈ zw_x_begins, w ∈ lw_tbl := p1_ia (p1_all [852, 810, 812, 28, 104] (by decide +kernel)) (p1_ia iz_c_canTry p1_i0)
set_option maxHeartbeats 4000000 in
set_option maxRecDepth 100000 in
theorem x_begins (l : Launch) (dC : Nat → ClassId) (dI : Nat → Nat → Nat) (sz : Nat) (x : Nat) (xs : List Value) (sh : Nat) (ss : List Value) (sc : Nat) (cS : ClassId) (a1 : Int32) (a2 : Int32) (a3 : Int32) (f_xs_9 : xs[9]? = some (.ref sh)) (f_ss_0 : ss[0]? = some (.ref sc)) : Met l yX8_begins zw_x_begins ({ frames := 2, cells := 0, slots := 0, locals := 45 }) (va_Pc [.ref x, .int a1, .int a2, .int a3] (fun U => U.heap.size = sz ∧ va_P (dC, dI) vwCl [(x, .inr (7, xs)), (sh, .inr (5, ss)), (sc, .inl (cS, 5, .inl (fun _ => 0)))] U.heap ∧ va_K (dC, dI) vwCl [(cS, .int)] U ∧ va_D (fun _ => True) [(x, .inr (7, xs)), (sh, .inr (5, ss)), (sc, .inl (cS, 5, .inl (fun _ => 0)))])) (va_Qi (fun (r : Int32) (_ : Unit) => r = (-1)) (fun _ t => va_P (dC, dI) vwCl [] t.heap ∧ va_K (dC, dI) vwCl [] t ∧ va_D (va_A [(x, .inr (7, xs)), (sh, .inr (5, ss)), (sc, .inl (cS, 5, .inl (fun _ => 0)))] sz) []) (va_A [(x, .inr (7, xs)), (sh, .inr (5, ss)), (sc, .inl (cS, 5, .inl (fun _ => 0)))] sz)) 0 0 (va_A [(x, .inr (7, xs)), (sh, .inr (5, ss)), (sc, .inl (cS, 5, .inl (fun _ => 0)))] sz) := by
  refine Met.ofW (cc := cX8_begins) (maxL := 4) (ret := (some .int)) (by decide) rfl ?_
  intro p e s m args below meth c s₁ B hml hv
  obtain ⟨rfl, hsz, hP, hK, hD0⟩ := hv
  have hx := B.exec
  have hb := B.bytes
  have hr := B.returns
  have hts := atoms_spec (ws := zw_x_begins) B.pre
  have hown : s.vm.findClass RX8 = some m.cls := findClass_of_methodNamed B.named
  have hlocks := B.notSynchronized
  subst hsz
  have hD := hD0.self (sz := s.heap.size)
  generalize hAe : va_A [(x, .inr (7, xs)), (sh, .inr (5, ss)), (sc, .inl (cS, 5, .inl (fun _ => 0)))] s.heap.size = A at hD ⊢
  have hA : ∀ q : Nat, s.heap.size ≤ q → A q := fun q h => by rw [← hAe]; exact Or.inr h
  have hS : va_S A s.heap s.heap [] := va_S.rf
  have hP : va_P (dC, dI) vwCl [(x, .inr (7, xs)), (sh, .inr (5, ss)), (sc, .inl (cS, 5, .inl (fun _ => 0)))] s.heap := hP
  have m_0 : (.methodLink RX8 208 yX8_canTry : Cond) ∈ zw_x_begins := List.mem_append_left _ (List.mem_of_getElem? (i := 1) rfl)
  have k_0 := hts _ m_0
  have m_1 : (.instanceMethod yX8_canTry : Cond) ∈ zw_x_begins := List.mem_append_left _ (List.mem_of_getElem? (i := 2) rfl)
  have k_1 := hts _ m_1
  have m_2 : (.selects RX8 yX8_canTry yX8_canTry : Cond) ∈ zw_x_begins := List.mem_append_left _ (List.mem_of_getElem? (i := 3) rfl)
  have k_2 := hts _ m_2
  have m_3 : (.initialized RX8 : Cond) ∈ zw_x_begins := List.mem_append_left _ (List.mem_of_getElem? (i := 4) rfl)
  have k_3 := hts _ m_3
  have g_c_canTry : ∀ w ∈ zw_c_canTry, w ∈ zw_x_begins := fun w h => List.mem_append_right _ (List.mem_append_left _ h)
  have hl := lv_entry ([.ref x, .int a1, .int a2, .int a3]) (n := 4) (Nat.le_of_ble_eq_true rfl)
  rw [lg_entry_eq]
  generalize (lg_sl ([.ref x, .int a1, .int a2, .int a3]) ++ List.replicate (4 - (lg_sl ([.ref x, .int a1, .int a2, .int a3])).length) Slot.unset).toArray = ls at hl ⊢
  have hl : lv_has ls 4 [(0, .ref x), (1, .int a1), (2, .int a2), (3, .int a3)] := hl
  refine lv_aload_n hx hb dX8_begins_0 rfl (lv_at hl 0 rfl) ?_
  refine lv_iload_n hx hb dX8_begins_1 rfl (lv_at hl 1 rfl) ?_
  refine lv_iload_n hx hb dX8_begins_2 rfl (lv_at hl 2 rfl) ?_
  refine lv_iload_n hx hb dX8_begins_3 rfl (lv_at hl 3 rfl) ?_
  have hPc := hP.sub (ws' := [(x, .inr (7, xs)), (sh, .inr (5, ss)), (sc, .inl (cS, 5, .inl (fun _ => 0)))]) [0, 1, 2] rfl
  have hDc := hD.sub (ws' := [(x, .inr (7, xs)), (sh, .inr (5, ss)), (sc, .inl (cS, 5, .inl (fun _ => 0)))]) [0, 1, 2] (by decide) rfl
  have hKc := hK.sub (tys' := [(cS, .int)]) [0] rfl
  have hFc := va_free (wc := [(x, .inr (7, xs)), (sh, .inr (5, ss)), (sc, .inl (cS, 5, .inl (fun _ => 0)))]) hD hS hA [0, 1, 2] rfl
  refine va_calli (va_runV (As := [.int a1, .int a2, .int a3]) (rest := []) ⟨hx, hb, hml, hown, hts⟩ (c_canTry l dC dI s.heap.size x xs sh ss sc cS a1 a2 a3 f_xs_9 f_ss_0) (cwV 3 hts (p1_gV m_0 m_1 m_2 m_3 g_c_canTry gz_c_canTry) rfl rfl rfl (by decide +kernel) ⟨by decide, by decide⟩) ⟨fun a U g mk q => by obtain ⟨q0, q1, qP, qK, qD⟩ := q; exact ⟨q0, q1, qP, va_K.moved (u := U) (U := U.calling g mk a) (Vm.Alike.refl U.vm) qK, qD⟩, va_recv hKc hPc (ci := 7) (q0 := 0) rfl rfl, fun U hU hW => ⟨rfl, by rw [hU], by rw [hU]; exact hPc, va_K.moved hW.alike hKc, hDc.weaken (fun _ _ _ _ => trivial)⟩⟩ rfl rfl hl.1 rfl (lv_room (Nat.le_of_ble_eq_true rfl)) dX8_begins_4 ⟨by decide, by decide⟩) hS (fun q _ h => hFc q h) hFc (fun r_1 u t H1 locs ht hvm hw hB hz1 hk1 hS => ?_)
  obtain ⟨hP1, hK1, hD1⟩ := hB
  rw [ht] at hP1
  obtain ⟨hP, hD⟩ := va_join (wr := []) (w1 := [(x, .inr (7, xs)), (sh, .inr (5, ss)), (sc, .inl (cS, 5, .inl (fun _ => 0)))]) hP hD [0, 1, 2] [] rfl rfl (by decide) (by decide) hk1 hFc hP1 hD1
  generalize H1 = H at hP hS ⊢
  have hP : va_P (dC, dI) vwCl [(x, .inr (7, xs)), (sh, .inr (5, ss)), (sc, .inl (cS, 5, .inl (fun _ => 0)))] H := hP
  have hD : va_D A [(x, .inr (7, xs)), (sh, .inr (5, ss)), (sc, .inl (cS, 5, .inl (fun _ => 0)))] := hD
  try dsimp only at hw
  obtain rfl : r_1 = 0 := hw
  refine lv_if_ne (tgt := 12) hx hb dX8_begins_7 (by decide) (fun c9 => absurd c9 (by decide)) (fun _ => ?_)
  refine lv_iconst (v := (-1)) hx hb dX8_begins_10 (by decide) ?_
  have hP9 := hP.sub (ws' := []) [] rfl
  have hD9 := hD.sub (ws' := []) [] (by decide) rfl
  have hK9 := hK.sub (tys' := []) [] rfl
  exact W.iret (v := (-1)) hx hb hr (fun t ht hW => ⟨⟨(-1), (), rfl, rfl, by rw [ht]; exact hP9, va_K.moved hW.alike hK9, hD9⟩, hS.F ht⟩) hS.2.2 dX8_begins_11
def zo_x_alone : List Cond := [.code yX8_alone cX8_alone 5 (some .int), .methodLink RX8 208 yX8_canTry, .instanceMethod yX8_canTry, .selects RX8 yX8_canTry yX8_canTry, .initialized RX8]
def zw_x_alone : List Cond := zo_x_alone ++ (zw_c_canTry ++ [])
theorem gz_x_alone : zw_x_alone.all goodWord = true := p1_ga (by decide +kernel) (p1_ga gz_c_canTry p1_g0)
theorem iz_x_alone : ∀ w ∈ zw_x_alone, w ∈ lw_tbl := p1_ia (p1_all [860, 810, 812, 28, 104] (by decide +kernel)) (p1_ia iz_c_canTry p1_i0)
set_option maxHeartbeats 4000000 in
set_option maxRecDepth 100000 in
theorem x_alone (l : Launch) (dC : Nat → ClassId) (dI : Nat → Nat → Nat) (sz : Nat) (x : Nat) (xs : List Value) (sh : Nat) (ss : List Value) (sc : Nat) (cS : ClassId) (a1 : Int32) (a2 : Int32) (a3 : Int32) (a4 : Int32) (f_xs_9 : xs[9]? = some (.ref sh)) (f_ss_0 : ss[0]? = some (.ref sc)) : Met l yX8_alone zw_x_alone ({ frames := 2, cells := 0, slots := 0, locals := 45 }) (va_Pc [.ref x, .int a1, .int a2, .int a3, .int a4] (fun U => U.heap.size = sz ∧ va_P (dC, dI) vwCl [(x, .inr (7, xs)), (sh, .inr (5, ss)), (sc, .inl (cS, 5, .inl (fun _ => 0)))] U.heap ∧ va_K (dC, dI) vwCl [(cS, .int)] U ∧ va_D (fun _ => True) [(x, .inr (7, xs)), (sh, .inr (5, ss)), (sc, .inl (cS, 5, .inl (fun _ => 0)))])) (va_Qi (fun (r : Int32) (_ : Unit) => r = (-1)) (fun _ t => va_P (dC, dI) vwCl [] t.heap ∧ va_K (dC, dI) vwCl [] t ∧ va_D (va_A [(x, .inr (7, xs)), (sh, .inr (5, ss)), (sc, .inl (cS, 5, .inl (fun _ => 0)))] sz) []) (va_A [(x, .inr (7, xs)), (sh, .inr (5, ss)), (sc, .inl (cS, 5, .inl (fun _ => 0)))] sz)) 0 0 (va_A [(x, .inr (7, xs)), (sh, .inr (5, ss)), (sc, .inl (cS, 5, .inl (fun _ => 0)))] sz) := by
  refine Met.ofW (cc := cX8_alone) (maxL := 5) (ret := (some .int)) (by decide) rfl ?_
  intro p e s m args below meth c s₁ B hml hv
  obtain ⟨rfl, hsz, hP, hK, hD0⟩ := hv
  have hx := B.exec
  have hb := B.bytes
  have hr := B.returns
  have hts := atoms_spec (ws := zw_x_alone) B.pre
  have hown : s.vm.findClass RX8 = some m.cls := findClass_of_methodNamed B.named
  have hlocks := B.notSynchronized
  subst hsz
  have hD := hD0.self (sz := s.heap.size)
  generalize hAe : va_A [(x, .inr (7, xs)), (sh, .inr (5, ss)), (sc, .inl (cS, 5, .inl (fun _ => 0)))] s.heap.size = A at hD ⊢
  have hA : ∀ q : Nat, s.heap.size ≤ q → A q := fun q h => by rw [← hAe]; exact Or.inr h
  have hS : va_S A s.heap s.heap [] := va_S.rf
  have hP : va_P (dC, dI) vwCl [(x, .inr (7, xs)), (sh, .inr (5, ss)), (sc, .inl (cS, 5, .inl (fun _ => 0)))] s.heap := hP
  have m_0 : (.methodLink RX8 208 yX8_canTry : Cond) ∈ zw_x_alone := List.mem_append_left _ (List.mem_of_getElem? (i := 1) rfl)
  have k_0 := hts _ m_0
  have m_1 : (.instanceMethod yX8_canTry : Cond) ∈ zw_x_alone := List.mem_append_left _ (List.mem_of_getElem? (i := 2) rfl)
  have k_1 := hts _ m_1
  have m_2 : (.selects RX8 yX8_canTry yX8_canTry : Cond) ∈ zw_x_alone := List.mem_append_left _ (List.mem_of_getElem? (i := 3) rfl)
  have k_2 := hts _ m_2
  have m_3 : (.initialized RX8 : Cond) ∈ zw_x_alone := List.mem_append_left _ (List.mem_of_getElem? (i := 4) rfl)
  have k_3 := hts _ m_3
  have g_c_canTry : ∀ w ∈ zw_c_canTry, w ∈ zw_x_alone := fun w h => List.mem_append_right _ (List.mem_append_left _ h)
  have hl := lv_entry ([.ref x, .int a1, .int a2, .int a3, .int a4]) (n := 5) (Nat.le_of_ble_eq_true rfl)
  rw [lg_entry_eq]
  generalize (lg_sl ([.ref x, .int a1, .int a2, .int a3, .int a4]) ++ List.replicate (5 - (lg_sl ([.ref x, .int a1, .int a2, .int a3, .int a4])).length) Slot.unset).toArray = ls at hl ⊢
  have hl : lv_has ls 5 [(0, .ref x), (1, .int a1), (2, .int a2), (3, .int a3), (4, .int a4)] := hl
  refine lv_aload_n hx hb dX8_alone_0 rfl (lv_at hl 0 rfl) ?_
  refine lv_iload_n hx hb dX8_alone_1 rfl (lv_at hl 1 rfl) ?_
  refine lv_iload_n hx hb dX8_alone_2 rfl (lv_at hl 2 rfl) ?_
  refine lv_iload_n hx hb dX8_alone_3 rfl (lv_at hl 3 rfl) ?_
  have hPc := hP.sub (ws' := [(x, .inr (7, xs)), (sh, .inr (5, ss)), (sc, .inl (cS, 5, .inl (fun _ => 0)))]) [0, 1, 2] rfl
  have hDc := hD.sub (ws' := [(x, .inr (7, xs)), (sh, .inr (5, ss)), (sc, .inl (cS, 5, .inl (fun _ => 0)))]) [0, 1, 2] (by decide) rfl
  have hKc := hK.sub (tys' := [(cS, .int)]) [0] rfl
  have hFc := va_free (wc := [(x, .inr (7, xs)), (sh, .inr (5, ss)), (sc, .inl (cS, 5, .inl (fun _ => 0)))]) hD hS hA [0, 1, 2] rfl
  refine va_calli (va_runV (As := [.int a1, .int a2, .int a3]) (rest := []) ⟨hx, hb, hml, hown, hts⟩ (c_canTry l dC dI s.heap.size x xs sh ss sc cS a1 a2 a3 f_xs_9 f_ss_0) (cwV 3 hts (p1_gV m_0 m_1 m_2 m_3 g_c_canTry gz_c_canTry) rfl rfl rfl (by decide +kernel) ⟨by decide, by decide⟩) ⟨fun a U g mk q => by obtain ⟨q0, q1, qP, qK, qD⟩ := q; exact ⟨q0, q1, qP, va_K.moved (u := U) (U := U.calling g mk a) (Vm.Alike.refl U.vm) qK, qD⟩, va_recv hKc hPc (ci := 7) (q0 := 0) rfl rfl, fun U hU hW => ⟨rfl, by rw [hU], by rw [hU]; exact hPc, va_K.moved hW.alike hKc, hDc.weaken (fun _ _ _ _ => trivial)⟩⟩ rfl rfl hl.1 rfl (lv_room (Nat.le_of_ble_eq_true rfl)) dX8_alone_4 ⟨by decide, by decide⟩) hS (fun q _ h => hFc q h) hFc (fun r_1 u t H1 locs ht hvm hw hB hz1 hk1 hS => ?_)
  obtain ⟨hP1, hK1, hD1⟩ := hB
  rw [ht] at hP1
  obtain ⟨hP, hD⟩ := va_join (wr := []) (w1 := [(x, .inr (7, xs)), (sh, .inr (5, ss)), (sc, .inl (cS, 5, .inl (fun _ => 0)))]) hP hD [0, 1, 2] [] rfl rfl (by decide) (by decide) hk1 hFc hP1 hD1
  generalize H1 = H at hP hS ⊢
  have hP : va_P (dC, dI) vwCl [(x, .inr (7, xs)), (sh, .inr (5, ss)), (sc, .inl (cS, 5, .inl (fun _ => 0)))] H := hP
  have hD : va_D A [(x, .inr (7, xs)), (sh, .inr (5, ss)), (sc, .inl (cS, 5, .inl (fun _ => 0)))] := hD
  try dsimp only at hw
  obtain rfl : r_1 = 0 := hw
  refine lv_if_eq (tgt := 20) hx hb dX8_alone_7 (by decide) (fun _ => ?_) (fun c9 => absurd c9 (by decide))
  refine lv_iconst (v := (-1)) hx hb dX8_alone_20 (by decide) ?_
  have hP9 := hP.sub (ws' := []) [] rfl
  have hD9 := hD.sub (ws' := []) [] (by decide) rfl
  have hK9 := hK.sub (tys' := []) [] rfl
  exact W.iret (v := (-1)) hx hb hr (fun t ht hW => ⟨⟨(-1), (), rfl, rfl, by rw [ht]; exact hP9, va_K.moved hW.alike hK9, hD9⟩, hS.F ht⟩) hS.2.2 dX8_alone_21
def zo_x_undone : List Cond := [.code yX8_undone cX8_undone 3 (some .int), .fieldLink RX8 60 "BowWalk" "shop" "LBowWalk$Shop;", .methodLink RX8 104 yX5_has, .instanceMethod yX5_has, .selects RX5 yX5_has yX5_has, .initialized RX5]
def zw_x_undone : List Cond := zo_x_undone ++ (zw_c_has0 ++ (wsX80 ++ []))
theorem gz_x_undone : zw_x_undone.all goodWord = true := p1_ga (by decide +kernel) (p1_ga gz_c_has0 (p1_ga gk_X8 p1_g0))
theorem iz_x_undone : ∀ w ∈ zw_x_undone, w ∈ lw_tbl := p1_ia (p1_all [869, 508, 714, 715, 716, 106] (by decide +kernel)) (p1_ia iz_c_has0 (p1_ia ik_X8 p1_i0))
set_option maxHeartbeats 4000000 in
set_option maxRecDepth 100000 in
theorem x_undone (l : Launch) (dC : Nat → ClassId) (dI : Nat → Nat → Nat) (sz : Nat) (x : Nat) (xs : List Value) (sh : Nat) (ss : List Value) (sc : Nat) (cS : ClassId) (a1 : Int32) (a2 : Int32) (f_xs_9 : xs[9]? = some (.ref sh)) (f_ss_0 : ss[0]? = some (.ref sc)) : Met l yX8_undone zw_x_undone ({ frames := 1, cells := 0, slots := 0, locals := 22 }) (va_Pc [.ref x, .int a1, .int a2] (fun U => U.heap.size = sz ∧ va_P (dC, dI) vwCl [(x, .inr (7, xs)), (sh, .inr (5, ss)), (sc, .inl (cS, 5, .inl (fun _ => 0)))] U.heap ∧ va_K (dC, dI) vwCl [(cS, .int)] U ∧ va_D (fun _ => True) [(x, .inr (7, xs)), (sh, .inr (5, ss)), (sc, .inl (cS, 5, .inl (fun _ => 0)))])) (va_Qi (fun (r : Int32) (_ : Unit) => r = (-1)) (fun _ t => va_P (dC, dI) vwCl [] t.heap ∧ va_K (dC, dI) vwCl [] t ∧ va_D (va_A [(x, .inr (7, xs)), (sh, .inr (5, ss)), (sc, .inl (cS, 5, .inl (fun _ => 0)))] sz) []) (va_A [(x, .inr (7, xs)), (sh, .inr (5, ss)), (sc, .inl (cS, 5, .inl (fun _ => 0)))] sz)) 0 0 (va_A [(x, .inr (7, xs)), (sh, .inr (5, ss)), (sc, .inl (cS, 5, .inl (fun _ => 0)))] sz) := by
  refine Met.ofW (cc := cX8_undone) (maxL := 3) (ret := (some .int)) (by decide) rfl ?_
  intro p e s m args below meth c s₁ B hml hv
  obtain ⟨rfl, hsz, hP, hK, hD0⟩ := hv
  have hx := B.exec
  have hb := B.bytes
  have hr := B.returns
  have hts := atoms_spec (ws := zw_x_undone) B.pre
  have hown : s.vm.findClass RX8 = some m.cls := findClass_of_methodNamed B.named
  have hlocks := B.notSynchronized
  subst hsz
  have hD := hD0.self (sz := s.heap.size)
  generalize hAe : va_A [(x, .inr (7, xs)), (sh, .inr (5, ss)), (sc, .inl (cS, 5, .inl (fun _ => 0)))] s.heap.size = A at hD ⊢
  have hA : ∀ q : Nat, s.heap.size ≤ q → A q := fun q h => by rw [← hAe]; exact Or.inr h
  have hS : va_S A s.heap s.heap [] := va_S.rf
  have hP : va_P (dC, dI) vwCl [(x, .inr (7, xs)), (sh, .inr (5, ss)), (sc, .inl (cS, 5, .inl (fun _ => 0)))] s.heap := hP
  have m_0 : (.fieldLink RX8 60 "BowWalk" "shop" "LBowWalk$Shop;" : Cond) ∈ zw_x_undone := List.mem_append_left _ (List.mem_of_getElem? (i := 1) rfl)
  have k_0 := hts _ m_0
  have m_1 : (.methodLink RX8 104 yX5_has : Cond) ∈ zw_x_undone := List.mem_append_left _ (List.mem_of_getElem? (i := 2) rfl)
  have k_1 := hts _ m_1
  have m_2 : (.instanceMethod yX5_has : Cond) ∈ zw_x_undone := List.mem_append_left _ (List.mem_of_getElem? (i := 3) rfl)
  have k_2 := hts _ m_2
  have m_3 : (.selects RX5 yX5_has yX5_has : Cond) ∈ zw_x_undone := List.mem_append_left _ (List.mem_of_getElem? (i := 4) rfl)
  have k_3 := hts _ m_3
  have m_4 : (.initialized RX5 : Cond) ∈ zw_x_undone := List.mem_append_left _ (List.mem_of_getElem? (i := 5) rfl)
  have k_4 := hts _ m_4
  have g_c_has0 : ∀ w ∈ zw_c_has0, w ∈ zw_x_undone := fun w h => List.mem_append_right _ (List.mem_append_left _ h)
  have i_X8 : ∀ w ∈ u_ws RX8 TX8 14, w ∈ zw_x_undone := fun w h => List.mem_append_right _ (List.mem_append_right _ (List.mem_append_left _ h))
  have hl := lv_entry ([.ref x, .int a1, .int a2]) (n := 3) (Nat.le_of_ble_eq_true rfl)
  rw [lg_entry_eq]
  generalize (lg_sl ([.ref x, .int a1, .int a2]) ++ List.replicate (3 - (lg_sl ([.ref x, .int a1, .int a2])).length) Slot.unset).toArray = ls at hl ⊢
  have hl : lv_has ls 3 [(0, .ref x), (1, .int a1), (2, .int a2)] := hl
  refine lv_aload_n hx hb dX8_undone_0 rfl (lv_at hl 0 rfl) ?_
  refine va_get (D := (dC, dI)) (ci := 7) (v := .ref sh) (C := RX8) (T := TX8) (N := 14) hx hb hts i_X8 hown hK hP 0 rfl rfl 9 (by decide) k_0 (fun _ h9 => h9) f_xs_9 dX8_undone_1 ?_
  refine lv_iconst (v := 0) hx hb dX8_undone_4 (by decide) ?_
  refine lv_iload_n hx hb dX8_undone_5 rfl (lv_at hl 1 rfl) ?_
  have hPc := hP.sub (ws' := [(sh, .inr (5, ss)), (sc, .inl (cS, 5, .inl (fun _ => 0)))]) [1, 2] rfl
  have hDc := hD.sub (ws' := [(sh, .inr (5, ss)), (sc, .inl (cS, 5, .inl (fun _ => 0)))]) [1, 2] (by decide) rfl
  have hKc := hK.sub (tys' := [(cS, .int)]) [0] rfl
  have hFc := va_free (wc := [(sh, .inr (5, ss)), (sc, .inl (cS, 5, .inl (fun _ => 0)))]) hD hS hA [1, 2] rfl
  refine va_calli (va_runV (As := [.int 0, .int a1]) (rest := []) ⟨hx, hb, hml, hown, hts⟩ (c_has0 l dC dI s.heap.size sh ss sc cS 0 a1 f_ss_0 (p1_in (i := 0) (n := 5) (by decide))) (cwV 2 hts (p1_gV m_1 m_2 m_3 m_4 g_c_has0 gz_c_has0) rfl rfl rfl (by decide +kernel) ⟨by decide, by decide⟩) ⟨fun a U g mk q => by obtain ⟨q0, q1, qP, qK, qD⟩ := q; exact ⟨q0, q1, qP, va_K.moved (u := U) (U := U.calling g mk a) (Vm.Alike.refl U.vm) qK, qD⟩, va_recv hKc hPc (ci := 5) (q0 := 0) rfl rfl, fun U hU hW => ⟨rfl, by rw [hU], by rw [hU]; exact hPc, va_K.moved hW.alike hKc, hDc.weaken (fun _ _ _ _ => trivial)⟩⟩ rfl rfl hl.1 rfl (lv_room (Nat.le_of_ble_eq_true rfl)) dX8_undone_6 ⟨by decide, by decide⟩) hS (fun q _ h => hFc q h) hFc (fun r_1 u t H1 locs ht hvm hw hB hz1 hk1 hS => ?_)
  obtain ⟨hP1, hK1, hD1⟩ := hB
  rw [ht] at hP1
  obtain ⟨hP, hD⟩ := va_join (wr := [(x, .inr (7, xs))]) (w1 := [(sh, .inr (5, ss)), (sc, .inl (cS, 5, .inl (fun _ => 0)))]) hP hD [1, 2] [0] rfl rfl (by decide) (by decide) hk1 hFc hP1 hD1
  generalize H1 = H at hP hS ⊢
  have hP : va_P (dC, dI) vwCl [(x, .inr (7, xs)), (sh, .inr (5, ss)), (sc, .inl (cS, 5, .inl (fun _ => 0)))] H := hP
  have hD : va_D A [(x, .inr (7, xs)), (sh, .inr (5, ss)), (sc, .inl (cS, 5, .inl (fun _ => 0)))] := hD
  try dsimp only at hw
  obtain rfl : r_1 = 0 := hw
  refine lv_if_eq (tgt := 24) hx hb dX8_undone_9 (by decide) (fun _ => ?_) (fun c9 => absurd c9 (by decide))
  refine lv_iconst (v := (-1)) hx hb dX8_undone_24 (by decide) ?_
  have hP9 := hP.sub (ws' := []) [] rfl
  have hD9 := hD.sub (ws' := []) [] (by decide) rfl
  have hK9 := hK.sub (tys' := []) [] rfl
  exact W.iret (v := (-1)) hx hb hr (fun t ht hW => ⟨⟨(-1), (), rfl, rfl, by rw [ht]; exact hP9, va_K.moved hW.alike hK9, hD9⟩, hS.F ht⟩) hS.2.2 dX8_undone_25
def zo_x_met : List Cond := [.code yX8_met cX8_met 5 (some .int), .fieldLink RX8 60 "BowWalk" "shop" "LBowWalk$Shop;", .methodLink RX8 104 yX5_has, .instanceMethod yX5_has, .selects RX5 yX5_has yX5_has, .initialized RX5]
def zw_x_met : List Cond := zo_x_met ++ (zw_c_has0 ++ (wsX80 ++ []))
theorem gz_x_met : zw_x_met.all goodWord = true := p1_ga (by decide +kernel) (p1_ga gz_c_has0 (p1_ga gk_X8 p1_g0))
theorem iz_x_met : ∀ w ∈ zw_x_met, w ∈ lw_tbl := p1_ia (p1_all [882, 508, 714, 715, 716, 106] (by decide +kernel)) (p1_ia iz_c_has0 (p1_ia ik_X8 p1_i0))
set_option maxHeartbeats 4000000 in
set_option maxRecDepth 100000 in
theorem x_met (l : Launch) (dC : Nat → ClassId) (dI : Nat → Nat → Nat) (sz : Nat) (x : Nat) (xs : List Value) (sh : Nat) (ss : List Value) (sc : Nat) (cS : ClassId) (a1 : Int32) (a2 : Int32) (a3 : Int32) (a4 : Int32) (f_xs_9 : xs[9]? = some (.ref sh)) (f_ss_0 : ss[0]? = some (.ref sc)) : Met l yX8_met zw_x_met ({ frames := 1, cells := 0, slots := 0, locals := 22 }) (va_Pc [.ref x, .int a1, .int a2, .int a3, .int a4] (fun U => U.heap.size = sz ∧ va_P (dC, dI) vwCl [(x, .inr (7, xs)), (sh, .inr (5, ss)), (sc, .inl (cS, 5, .inl (fun _ => 0)))] U.heap ∧ va_K (dC, dI) vwCl [(cS, .int)] U ∧ va_D (fun _ => True) [(x, .inr (7, xs)), (sh, .inr (5, ss)), (sc, .inl (cS, 5, .inl (fun _ => 0)))])) (va_Qi (fun (r : Int32) (_ : Unit) => r = (-1)) (fun _ t => va_P (dC, dI) vwCl [] t.heap ∧ va_K (dC, dI) vwCl [] t ∧ va_D (va_A [(x, .inr (7, xs)), (sh, .inr (5, ss)), (sc, .inl (cS, 5, .inl (fun _ => 0)))] sz) []) (va_A [(x, .inr (7, xs)), (sh, .inr (5, ss)), (sc, .inl (cS, 5, .inl (fun _ => 0)))] sz)) 0 0 (va_A [(x, .inr (7, xs)), (sh, .inr (5, ss)), (sc, .inl (cS, 5, .inl (fun _ => 0)))] sz) := by
  refine Met.ofW (cc := cX8_met) (maxL := 5) (ret := (some .int)) (by decide) rfl ?_
  intro p e s m args below meth c s₁ B hml hv
  obtain ⟨rfl, hsz, hP, hK, hD0⟩ := hv
  have hx := B.exec
  have hb := B.bytes
  have hr := B.returns
  have hts := atoms_spec (ws := zw_x_met) B.pre
  have hown : s.vm.findClass RX8 = some m.cls := findClass_of_methodNamed B.named
  have hlocks := B.notSynchronized
  subst hsz
  have hD := hD0.self (sz := s.heap.size)
  generalize hAe : va_A [(x, .inr (7, xs)), (sh, .inr (5, ss)), (sc, .inl (cS, 5, .inl (fun _ => 0)))] s.heap.size = A at hD ⊢
  have hA : ∀ q : Nat, s.heap.size ≤ q → A q := fun q h => by rw [← hAe]; exact Or.inr h
  have hS : va_S A s.heap s.heap [] := va_S.rf
  have hP : va_P (dC, dI) vwCl [(x, .inr (7, xs)), (sh, .inr (5, ss)), (sc, .inl (cS, 5, .inl (fun _ => 0)))] s.heap := hP
  have m_0 : (.fieldLink RX8 60 "BowWalk" "shop" "LBowWalk$Shop;" : Cond) ∈ zw_x_met := List.mem_append_left _ (List.mem_of_getElem? (i := 1) rfl)
  have k_0 := hts _ m_0
  have m_1 : (.methodLink RX8 104 yX5_has : Cond) ∈ zw_x_met := List.mem_append_left _ (List.mem_of_getElem? (i := 2) rfl)
  have k_1 := hts _ m_1
  have m_2 : (.instanceMethod yX5_has : Cond) ∈ zw_x_met := List.mem_append_left _ (List.mem_of_getElem? (i := 3) rfl)
  have k_2 := hts _ m_2
  have m_3 : (.selects RX5 yX5_has yX5_has : Cond) ∈ zw_x_met := List.mem_append_left _ (List.mem_of_getElem? (i := 4) rfl)
  have k_3 := hts _ m_3
  have m_4 : (.initialized RX5 : Cond) ∈ zw_x_met := List.mem_append_left _ (List.mem_of_getElem? (i := 5) rfl)
  have k_4 := hts _ m_4
  have g_c_has0 : ∀ w ∈ zw_c_has0, w ∈ zw_x_met := fun w h => List.mem_append_right _ (List.mem_append_left _ h)
  have i_X8 : ∀ w ∈ u_ws RX8 TX8 14, w ∈ zw_x_met := fun w h => List.mem_append_right _ (List.mem_append_right _ (List.mem_append_left _ h))
  have hl := lv_entry ([.ref x, .int a1, .int a2, .int a3, .int a4]) (n := 5) (Nat.le_of_ble_eq_true rfl)
  rw [lg_entry_eq]
  generalize (lg_sl ([.ref x, .int a1, .int a2, .int a3, .int a4]) ++ List.replicate (5 - (lg_sl ([.ref x, .int a1, .int a2, .int a3, .int a4])).length) Slot.unset).toArray = ls at hl ⊢
  have hl : lv_has ls 5 [(0, .ref x), (1, .int a1), (2, .int a2), (3, .int a3), (4, .int a4)] := hl
  refine lv_aload_n hx hb dX8_met_0 rfl (lv_at hl 0 rfl) ?_
  refine va_get (D := (dC, dI)) (ci := 7) (v := .ref sh) (C := RX8) (T := TX8) (N := 14) hx hb hts i_X8 hown hK hP 0 rfl rfl 9 (by decide) k_0 (fun _ h9 => h9) f_xs_9 dX8_met_1 ?_
  refine lv_iconst (v := 4) hx hb dX8_met_4 (by decide) ?_
  refine lv_iload_n hx hb dX8_met_5 rfl (lv_at hl 1 rfl) ?_
  have hPc := hP.sub (ws' := [(sh, .inr (5, ss)), (sc, .inl (cS, 5, .inl (fun _ => 0)))]) [1, 2] rfl
  have hDc := hD.sub (ws' := [(sh, .inr (5, ss)), (sc, .inl (cS, 5, .inl (fun _ => 0)))]) [1, 2] (by decide) rfl
  have hKc := hK.sub (tys' := [(cS, .int)]) [0] rfl
  have hFc := va_free (wc := [(sh, .inr (5, ss)), (sc, .inl (cS, 5, .inl (fun _ => 0)))]) hD hS hA [1, 2] rfl
  refine va_calli (va_runV (As := [.int 4, .int a1]) (rest := []) ⟨hx, hb, hml, hown, hts⟩ (c_has0 l dC dI s.heap.size sh ss sc cS 4 a1 f_ss_0 (p1_in (i := 4) (n := 5) (by decide))) (cwV 2 hts (p1_gV m_1 m_2 m_3 m_4 g_c_has0 gz_c_has0) rfl rfl rfl (by decide +kernel) ⟨by decide, by decide⟩) ⟨fun a U g mk q => by obtain ⟨q0, q1, qP, qK, qD⟩ := q; exact ⟨q0, q1, qP, va_K.moved (u := U) (U := U.calling g mk a) (Vm.Alike.refl U.vm) qK, qD⟩, va_recv hKc hPc (ci := 5) (q0 := 0) rfl rfl, fun U hU hW => ⟨rfl, by rw [hU], by rw [hU]; exact hPc, va_K.moved hW.alike hKc, hDc.weaken (fun _ _ _ _ => trivial)⟩⟩ rfl rfl hl.1 rfl (lv_room (Nat.le_of_ble_eq_true rfl)) dX8_met_6 ⟨by decide, by decide⟩) hS (fun q _ h => hFc q h) hFc (fun r_1 u t H1 locs ht hvm hw hB hz1 hk1 hS => ?_)
  obtain ⟨hP1, hK1, hD1⟩ := hB
  rw [ht] at hP1
  obtain ⟨hP, hD⟩ := va_join (wr := [(x, .inr (7, xs))]) (w1 := [(sh, .inr (5, ss)), (sc, .inl (cS, 5, .inl (fun _ => 0)))]) hP hD [1, 2] [0] rfl rfl (by decide) (by decide) hk1 hFc hP1 hD1
  generalize H1 = H at hP hS ⊢
  have hP : va_P (dC, dI) vwCl [(x, .inr (7, xs)), (sh, .inr (5, ss)), (sc, .inl (cS, 5, .inl (fun _ => 0)))] H := hP
  have hD : va_D A [(x, .inr (7, xs)), (sh, .inr (5, ss)), (sc, .inl (cS, 5, .inl (fun _ => 0)))] := hD
  try dsimp only at hw
  obtain rfl : r_1 = 0 := hw
  refine lv_if_eq (tgt := 23) hx hb dX8_met_9 (by decide) (fun _ => ?_) (fun c9 => absurd c9 (by decide))
  refine lv_iconst (v := (-1)) hx hb dX8_met_23 (by decide) ?_
  have hP9 := hP.sub (ws' := []) [] rfl
  have hD9 := hD.sub (ws' := []) [] (by decide) rfl
  have hK9 := hK.sub (tys' := []) [] rfl
  exact W.iret (v := (-1)) hx hb hr (fun t ht hW => ⟨⟨(-1), (), rfl, rfl, by rw [ht]; exact hP9, va_K.moved hW.alike hK9, hD9⟩, hS.F ht⟩) hS.2.2 dX8_met_24
def zo_x_meets : List Cond := [.code yX8_meets cX8_meets 6 (some .int), .fieldLink RX8 60 "BowWalk" "shop" "LBowWalk$Shop;", .methodLink RX8 104 yX5_has, .instanceMethod yX5_has, .selects RX5 yX5_has yX5_has, .initialized RX5]
def zw_x_meets : List Cond := zo_x_meets ++ (zw_c_has0 ++ (wsX80 ++ []))
theorem gz_x_meets : zw_x_meets.all goodWord = true := p1_ga (by decide +kernel) (p1_ga gz_c_has0 (p1_ga gk_X8 p1_g0))
theorem iz_x_meets : ∀ w ∈ zw_x_meets, w ∈ lw_tbl := p1_ia (p1_all [890, 508, 714, 715, 716, 106] (by decide +kernel)) (p1_ia iz_c_has0 (p1_ia ik_X8 p1_i0))
set_option maxHeartbeats 4000000 in
set_option maxRecDepth 100000 in
theorem x_meets (l : Launch) (dC : Nat → ClassId) (dI : Nat → Nat → Nat) (sz : Nat) (x : Nat) (xs : List Value) (sh : Nat) (ss : List Value) (sc : Nat) (cS : ClassId) (a1 : Int32) (a2 : Int32) (a3 : Int32) (f_xs_9 : xs[9]? = some (.ref sh)) (f_ss_0 : ss[0]? = some (.ref sc)) : Met l yX8_meets zw_x_meets ({ frames := 1, cells := 0, slots := 0, locals := 22 }) (va_Pc [.ref x, .int a1, .int a2, .int a3] (fun U => U.heap.size = sz ∧ va_P (dC, dI) vwCl [(x, .inr (7, xs)), (sh, .inr (5, ss)), (sc, .inl (cS, 5, .inl (fun _ => 0)))] U.heap ∧ va_K (dC, dI) vwCl [(cS, .int)] U ∧ va_D (fun _ => True) [(x, .inr (7, xs)), (sh, .inr (5, ss)), (sc, .inl (cS, 5, .inl (fun _ => 0)))])) (va_Qi (fun (r : Int32) (_ : Unit) => r = (-1)) (fun _ t => va_P (dC, dI) vwCl [] t.heap ∧ va_K (dC, dI) vwCl [] t ∧ va_D (va_A [(x, .inr (7, xs)), (sh, .inr (5, ss)), (sc, .inl (cS, 5, .inl (fun _ => 0)))] sz) []) (va_A [(x, .inr (7, xs)), (sh, .inr (5, ss)), (sc, .inl (cS, 5, .inl (fun _ => 0)))] sz)) 0 0 (va_A [(x, .inr (7, xs)), (sh, .inr (5, ss)), (sc, .inl (cS, 5, .inl (fun _ => 0)))] sz) := by
  refine Met.ofW (cc := cX8_meets) (maxL := 6) (ret := (some .int)) (by decide) rfl ?_
  intro p e s m args below meth c s₁ B hml hv
  obtain ⟨rfl, hsz, hP, hK, hD0⟩ := hv
  have hx := B.exec
  have hb := B.bytes
  have hr := B.returns
  have hts := atoms_spec (ws := zw_x_meets) B.pre
  have hown : s.vm.findClass RX8 = some m.cls := findClass_of_methodNamed B.named
  have hlocks := B.notSynchronized
  subst hsz
  have hD := hD0.self (sz := s.heap.size)
  generalize hAe : va_A [(x, .inr (7, xs)), (sh, .inr (5, ss)), (sc, .inl (cS, 5, .inl (fun _ => 0)))] s.heap.size = A at hD ⊢
  have hA : ∀ q : Nat, s.heap.size ≤ q → A q := fun q h => by rw [← hAe]; exact Or.inr h
  have hS : va_S A s.heap s.heap [] := va_S.rf
  have hP : va_P (dC, dI) vwCl [(x, .inr (7, xs)), (sh, .inr (5, ss)), (sc, .inl (cS, 5, .inl (fun _ => 0)))] s.heap := hP
  have m_0 : (.fieldLink RX8 60 "BowWalk" "shop" "LBowWalk$Shop;" : Cond) ∈ zw_x_meets := List.mem_append_left _ (List.mem_of_getElem? (i := 1) rfl)
  have k_0 := hts _ m_0
  have m_1 : (.methodLink RX8 104 yX5_has : Cond) ∈ zw_x_meets := List.mem_append_left _ (List.mem_of_getElem? (i := 2) rfl)
  have k_1 := hts _ m_1
  have m_2 : (.instanceMethod yX5_has : Cond) ∈ zw_x_meets := List.mem_append_left _ (List.mem_of_getElem? (i := 3) rfl)
  have k_2 := hts _ m_2
  have m_3 : (.selects RX5 yX5_has yX5_has : Cond) ∈ zw_x_meets := List.mem_append_left _ (List.mem_of_getElem? (i := 4) rfl)
  have k_3 := hts _ m_3
  have m_4 : (.initialized RX5 : Cond) ∈ zw_x_meets := List.mem_append_left _ (List.mem_of_getElem? (i := 5) rfl)
  have k_4 := hts _ m_4
  have g_c_has0 : ∀ w ∈ zw_c_has0, w ∈ zw_x_meets := fun w h => List.mem_append_right _ (List.mem_append_left _ h)
  have i_X8 : ∀ w ∈ u_ws RX8 TX8 14, w ∈ zw_x_meets := fun w h => List.mem_append_right _ (List.mem_append_right _ (List.mem_append_left _ h))
  have hl := lv_entry ([.ref x, .int a1, .int a2, .int a3]) (n := 6) (Nat.le_of_ble_eq_true rfl)
  rw [lg_entry_eq]
  generalize (lg_sl ([.ref x, .int a1, .int a2, .int a3]) ++ List.replicate (6 - (lg_sl ([.ref x, .int a1, .int a2, .int a3])).length) Slot.unset).toArray = ls at hl ⊢
  have hl : lv_has ls 6 [(0, .ref x), (1, .int a1), (2, .int a2), (3, .int a3)] := hl
  refine lv_aload_n hx hb dX8_meets_0 rfl (lv_at hl 0 rfl) ?_
  refine va_get (D := (dC, dI)) (ci := 7) (v := .ref sh) (C := RX8) (T := TX8) (N := 14) hx hb hts i_X8 hown hK hP 0 rfl rfl 9 (by decide) k_0 (fun _ h9 => h9) f_xs_9 dX8_meets_1 ?_
  refine lv_iconst (v := 4) hx hb dX8_meets_4 (by decide) ?_
  refine lv_iload_n hx hb dX8_meets_5 rfl (lv_at hl 1 rfl) ?_
  have hPc := hP.sub (ws' := [(sh, .inr (5, ss)), (sc, .inl (cS, 5, .inl (fun _ => 0)))]) [1, 2] rfl
  have hDc := hD.sub (ws' := [(sh, .inr (5, ss)), (sc, .inl (cS, 5, .inl (fun _ => 0)))]) [1, 2] (by decide) rfl
  have hKc := hK.sub (tys' := [(cS, .int)]) [0] rfl
  have hFc := va_free (wc := [(sh, .inr (5, ss)), (sc, .inl (cS, 5, .inl (fun _ => 0)))]) hD hS hA [1, 2] rfl
  refine va_calli (va_runV (As := [.int 4, .int a1]) (rest := []) ⟨hx, hb, hml, hown, hts⟩ (c_has0 l dC dI s.heap.size sh ss sc cS 4 a1 f_ss_0 (p1_in (i := 4) (n := 5) (by decide))) (cwV 2 hts (p1_gV m_1 m_2 m_3 m_4 g_c_has0 gz_c_has0) rfl rfl rfl (by decide +kernel) ⟨by decide, by decide⟩) ⟨fun a U g mk q => by obtain ⟨q0, q1, qP, qK, qD⟩ := q; exact ⟨q0, q1, qP, va_K.moved (u := U) (U := U.calling g mk a) (Vm.Alike.refl U.vm) qK, qD⟩, va_recv hKc hPc (ci := 5) (q0 := 0) rfl rfl, fun U hU hW => ⟨rfl, by rw [hU], by rw [hU]; exact hPc, va_K.moved hW.alike hKc, hDc.weaken (fun _ _ _ _ => trivial)⟩⟩ rfl rfl hl.1 rfl (lv_room (Nat.le_of_ble_eq_true rfl)) dX8_meets_6 ⟨by decide, by decide⟩) hS (fun q _ h => hFc q h) hFc (fun r_1 u t H1 locs ht hvm hw hB hz1 hk1 hS => ?_)
  obtain ⟨hP1, hK1, hD1⟩ := hB
  rw [ht] at hP1
  obtain ⟨hP, hD⟩ := va_join (wr := [(x, .inr (7, xs))]) (w1 := [(sh, .inr (5, ss)), (sc, .inl (cS, 5, .inl (fun _ => 0)))]) hP hD [1, 2] [0] rfl rfl (by decide) (by decide) hk1 hFc hP1 hD1
  generalize H1 = H at hP hS ⊢
  have hP : va_P (dC, dI) vwCl [(x, .inr (7, xs)), (sh, .inr (5, ss)), (sc, .inl (cS, 5, .inl (fun _ => 0)))] H := hP
  have hD : va_D A [(x, .inr (7, xs)), (sh, .inr (5, ss)), (sc, .inl (cS, 5, .inl (fun _ => 0)))] := hD
  try dsimp only at hw
  obtain rfl : r_1 = 0 := hw
  refine lv_if_eq (tgt := 21) hx hb dX8_meets_9 (by decide) (fun _ => ?_) (fun c9 => absurd c9 (by decide))
  refine lv_iconst (v := (-1)) hx hb dX8_meets_21 (by decide) ?_
  have hP9 := hP.sub (ws' := []) [] rfl
  have hD9 := hD.sub (ws' := []) [] (by decide) rfl
  have hK9 := hK.sub (tys' := []) [] rfl
  exact W.iret (v := (-1)) hx hb hr (fun t ht hW => ⟨⟨(-1), (), rfl, rfl, by rw [ht]; exact hP9, va_K.moved hW.alike hK9, hD9⟩, hS.F ht⟩) hS.2.2 dX8_meets_22
def zo_x_odds : List Cond := [.code yX8_odds cX8_odds 8 (some .int), .fieldLink RX8 60 "BowWalk" "shop" "LBowWalk$Shop;", .fieldLink RX8 96 "BowWalk$Shop" "count" "[I", .methodLink RX8 104 yX5_has, .instanceMethod yX5_has, .selects RX5 yX5_has yX5_has, .initialized RX5]
def zw_x_odds : List Cond := zo_x_odds ++ (zw_c_has0 ++ (wsX80 ++ (wsX50 ++ [])))
theorem gz_x_odds : zw_x_odds.all goodWord = true := p1_ga (by decide +kernel) (p1_ga gz_c_has0 (p1_ga gk_X8 (p1_ga gk_X5 p1_g0)))
theorem iz_x_odds : ∀ w ∈ zw_x_odds, w ∈ lw_tbl := p1_ia (p1_all [894, 508, 176, 714, 715, 716, 106] (by decide +kernel)) (p1_ia iz_c_has0 (p1_ia ik_X8 (p1_ia ik_X5 p1_i0)))
set_option maxHeartbeats 4000000 in
set_option maxRecDepth 100000 in
theorem x_odds (l : Launch) (dC : Nat → ClassId) (dI : Nat → Nat → Nat) (sz : Nat) (x : Nat) (xs : List Value) (sh : Nat) (ss : List Value) (sc : Nat) (cS : ClassId) (a1 : Int32) (a2 : Int32) (a3 : Int32) (f_xs_9 : xs[9]? = some (.ref sh)) (f_ss_0 : ss[0]? = some (.ref sc)) : Met l yX8_odds zw_x_odds ({ frames := 1, cells := 0, slots := 0, locals := 22 }) (va_Pc [.ref x, .int a1, .int a2, .int a3] (fun U => U.heap.size = sz ∧ va_P (dC, dI) vwCl [(x, .inr (7, xs)), (sh, .inr (5, ss)), (sc, .inl (cS, 5, .inl (fun _ => 0)))] U.heap ∧ va_K (dC, dI) vwCl [(cS, .int)] U ∧ va_D (fun _ => True) [(x, .inr (7, xs)), (sh, .inr (5, ss)), (sc, .inl (cS, 5, .inl (fun _ => 0)))])) (va_Qi (fun (r : Int32) (_ : Unit) => r = (-1)) (fun _ t => va_P (dC, dI) vwCl [] t.heap ∧ va_K (dC, dI) vwCl [] t ∧ va_D (va_A [(x, .inr (7, xs)), (sh, .inr (5, ss)), (sc, .inl (cS, 5, .inl (fun _ => 0)))] sz) []) (va_A [(x, .inr (7, xs)), (sh, .inr (5, ss)), (sc, .inl (cS, 5, .inl (fun _ => 0)))] sz)) 0 0 (va_A [(x, .inr (7, xs)), (sh, .inr (5, ss)), (sc, .inl (cS, 5, .inl (fun _ => 0)))] sz) := by
  refine Met.ofW (cc := cX8_odds) (maxL := 8) (ret := (some .int)) (by decide) rfl ?_
  intro p e s m args below meth c s₁ B hml hv
  obtain ⟨rfl, hsz, hP, hK, hD0⟩ := hv
  have hx := B.exec
  have hb := B.bytes
  have hr := B.returns
  have hts := atoms_spec (ws := zw_x_odds) B.pre
  have hown : s.vm.findClass RX8 = some m.cls := findClass_of_methodNamed B.named
  have hlocks := B.notSynchronized
  subst hsz
  have hD := hD0.self (sz := s.heap.size)
  generalize hAe : va_A [(x, .inr (7, xs)), (sh, .inr (5, ss)), (sc, .inl (cS, 5, .inl (fun _ => 0)))] s.heap.size = A at hD ⊢
  have hA : ∀ q : Nat, s.heap.size ≤ q → A q := fun q h => by rw [← hAe]; exact Or.inr h
  have hS : va_S A s.heap s.heap [] := va_S.rf
  have hP : va_P (dC, dI) vwCl [(x, .inr (7, xs)), (sh, .inr (5, ss)), (sc, .inl (cS, 5, .inl (fun _ => 0)))] s.heap := hP
  have m_0 : (.fieldLink RX8 60 "BowWalk" "shop" "LBowWalk$Shop;" : Cond) ∈ zw_x_odds := List.mem_append_left _ (List.mem_of_getElem? (i := 1) rfl)
  have k_0 := hts _ m_0
  have m_1 : (.fieldLink RX8 96 "BowWalk$Shop" "count" "[I" : Cond) ∈ zw_x_odds := List.mem_append_left _ (List.mem_of_getElem? (i := 2) rfl)
  have k_1 := hts _ m_1
  have m_2 : (.methodLink RX8 104 yX5_has : Cond) ∈ zw_x_odds := List.mem_append_left _ (List.mem_of_getElem? (i := 3) rfl)
  have k_2 := hts _ m_2
  have m_3 : (.instanceMethod yX5_has : Cond) ∈ zw_x_odds := List.mem_append_left _ (List.mem_of_getElem? (i := 4) rfl)
  have k_3 := hts _ m_3
  have m_4 : (.selects RX5 yX5_has yX5_has : Cond) ∈ zw_x_odds := List.mem_append_left _ (List.mem_of_getElem? (i := 5) rfl)
  have k_4 := hts _ m_4
  have m_5 : (.initialized RX5 : Cond) ∈ zw_x_odds := List.mem_append_left _ (List.mem_of_getElem? (i := 6) rfl)
  have k_5 := hts _ m_5
  have g_c_has0 : ∀ w ∈ zw_c_has0, w ∈ zw_x_odds := fun w h => List.mem_append_right _ (List.mem_append_left _ h)
  have i_X8 : ∀ w ∈ u_ws RX8 TX8 14, w ∈ zw_x_odds := fun w h => List.mem_append_right _ (List.mem_append_right _ (List.mem_append_left _ h))
  have i_X5 : ∀ w ∈ u_ws RX5 TX5 15, w ∈ zw_x_odds := fun w h => List.mem_append_right _ (List.mem_append_right _ (List.mem_append_right _ (List.mem_append_left _ h)))
  have hl := lv_entry ([.ref x, .int a1, .int a2, .int a3]) (n := 8) (Nat.le_of_ble_eq_true rfl)
  rw [lg_entry_eq]
  generalize (lg_sl ([.ref x, .int a1, .int a2, .int a3]) ++ List.replicate (8 - (lg_sl ([.ref x, .int a1, .int a2, .int a3])).length) Slot.unset).toArray = ls at hl ⊢
  have hl : lv_has ls 8 [(0, .ref x), (1, .int a1), (2, .int a2), (3, .int a3)] := hl
  refine lv_aload_n hx hb dX8_odds_0 rfl (lv_at hl 0 rfl) ?_
  refine va_get (D := (dC, dI)) (ci := 7) (v := .ref sh) (C := RX8) (T := TX8) (N := 14) hx hb hts i_X8 hown hK hP 0 rfl rfl 9 (by decide) k_0 (fun _ h9 => h9) f_xs_9 dX8_odds_1 ?_
  refine va_get (D := (dC, dI)) (ci := 5) (v := .ref sc) (C := RX5) (T := TX5) (N := 15) hx hb hts i_X5 hown hK hP 1 rfl rfl 0 (by decide) k_1 (fun _ h9 => h9) f_ss_0 dX8_odds_4 ?_
  refine lv_iconst (v := 1) hx hb dX8_odds_7 (by decide) ?_
  refine va_iald hx hb hK hP 2 0 rfl rfl (p1_in (i := 1) (n := 5) (by decide)) dX8_odds_8 ?_
  refine lv_topi (fun v_1 ev_1 => ?_)
  obtain rfl : v_1 = 0 := ev_1.trans rfl
  refine lv_aload_n hx hb dX8_odds_9 rfl (lv_at hl 0 rfl) ?_
  refine va_get (D := (dC, dI)) (ci := 7) (v := .ref sh) (C := RX8) (T := TX8) (N := 14) hx hb hts i_X8 hown hK hP 0 rfl rfl 9 (by decide) k_0 (fun _ h9 => h9) f_xs_9 dX8_odds_10 ?_
  refine va_get (D := (dC, dI)) (ci := 5) (v := .ref sc) (C := RX5) (T := TX5) (N := 15) hx hb hts i_X5 hown hK hP 1 rfl rfl 0 (by decide) k_1 (fun _ h9 => h9) f_ss_0 dX8_odds_13 ?_
  refine lv_iconst (v := 2) hx hb dX8_odds_16 (by decide) ?_
  refine va_iald hx hb hK hP 2 0 rfl rfl (p1_in (i := 2) (n := 5) (by decide)) dX8_odds_17 ?_
  refine lv_topi (fun v_2 ev_2 => ?_)
  obtain rfl : v_2 = 0 := ev_2.trans rfl
  refine lv_imul hx hb dX8_odds_18 ?_
  refine lv_topi (fun v_3 ev_3 => ?_)
  obtain rfl : v_3 = 0 := ev_3.trans (by decide)
  refine lv_istore (lv' := [(4, .int 0), (0, .ref x), (1, .int a1), (2, .int a2), (3, .int a3)]) hx hb dX8_odds_19 hl (by decide) rfl (fun ls hl => ?_)
  refine lv_aload_n hx hb dX8_odds_21 rfl (lv_at hl 1 rfl) ?_
  refine va_get (D := (dC, dI)) (ci := 7) (v := .ref sh) (C := RX8) (T := TX8) (N := 14) hx hb hts i_X8 hown hK hP 0 rfl rfl 9 (by decide) k_0 (fun _ h9 => h9) f_xs_9 dX8_odds_22 ?_
  refine lv_iconst (v := 0) hx hb dX8_odds_25 (by decide) ?_
  refine lv_iload_n hx hb dX8_odds_26 rfl (lv_at hl 2 rfl) ?_
  have hPc := hP.sub (ws' := [(sh, .inr (5, ss)), (sc, .inl (cS, 5, .inl (fun _ => 0)))]) [1, 2] rfl
  have hDc := hD.sub (ws' := [(sh, .inr (5, ss)), (sc, .inl (cS, 5, .inl (fun _ => 0)))]) [1, 2] (by decide) rfl
  have hKc := hK.sub (tys' := [(cS, .int)]) [0] rfl
  have hFc := va_free (wc := [(sh, .inr (5, ss)), (sc, .inl (cS, 5, .inl (fun _ => 0)))]) hD hS hA [1, 2] rfl
  refine va_calli (va_runV (As := [.int 0, .int a1]) (rest := []) ⟨hx, hb, hml, hown, hts⟩ (c_has0 l dC dI s.heap.size sh ss sc cS 0 a1 f_ss_0 (p1_in (i := 0) (n := 5) (by decide))) (cwV 2 hts (p1_gV m_2 m_3 m_4 m_5 g_c_has0 gz_c_has0) rfl rfl rfl (by decide +kernel) ⟨by decide, by decide⟩) ⟨fun a U g mk q => by obtain ⟨q0, q1, qP, qK, qD⟩ := q; exact ⟨q0, q1, qP, va_K.moved (u := U) (U := U.calling g mk a) (Vm.Alike.refl U.vm) qK, qD⟩, va_recv hKc hPc (ci := 5) (q0 := 0) rfl rfl, fun U hU hW => ⟨rfl, by rw [hU], by rw [hU]; exact hPc, va_K.moved hW.alike hKc, hDc.weaken (fun _ _ _ _ => trivial)⟩⟩ rfl rfl hl.1 rfl (lv_room (Nat.le_of_ble_eq_true rfl)) dX8_odds_27 ⟨by decide, by decide⟩) hS (fun q _ h => hFc q h) hFc (fun r_4 u t H1 locs ht hvm hw hB hz1 hk1 hS => ?_)
  obtain ⟨hP1, hK1, hD1⟩ := hB
  rw [ht] at hP1
  obtain ⟨hP, hD⟩ := va_join (wr := [(x, .inr (7, xs))]) (w1 := [(sh, .inr (5, ss)), (sc, .inl (cS, 5, .inl (fun _ => 0)))]) hP hD [1, 2] [0] rfl rfl (by decide) (by decide) hk1 hFc hP1 hD1
  generalize H1 = H at hP hS ⊢
  have hP : va_P (dC, dI) vwCl [(x, .inr (7, xs)), (sh, .inr (5, ss)), (sc, .inl (cS, 5, .inl (fun _ => 0)))] H := hP
  have hD : va_D A [(x, .inr (7, xs)), (sh, .inr (5, ss)), (sc, .inl (cS, 5, .inl (fun _ => 0)))] := hD
  try dsimp only at hw
  obtain rfl : r_4 = 0 := hw
  refine lv_if_eq (tgt := 58) hx hb dX8_odds_30 (by decide) (fun _ => ?_) (fun c9 => absurd c9 (by decide))
  refine lv_iconst (v := (-1)) hx hb dX8_odds_58 (by decide) ?_
  have hP9 := hP.sub (ws' := []) [] rfl
  have hD9 := hD.sub (ws' := []) [] (by decide) rfl
  have hK9 := hK.sub (tys' := []) [] rfl
  exact W.iret (v := (-1)) hx hb hr (fun t ht hW => ⟨⟨(-1), (), rfl, rfl, by rw [ht]; exact hP9, va_K.moved hW.alike hK9, hD9⟩, hS.F ht⟩) hS.2.2 dX8_odds_59
def zo_x_worse : List Cond := [.code yX8_worse cX8_worse 5 (some .int), .methodLink RX8 208 yX8_canTry, .instanceMethod yX8_canTry, .selects RX8 yX8_canTry yX8_canTry, .initialized RX8]
def zw_x_worse : List Cond := zo_x_worse ++ (zw_c_canTry ++ [])
theorem gz_x_worse : zw_x_worse.all goodWord = true := p1_ga (by decide +kernel) (p1_ga gz_c_canTry p1_g0)
theorem iz_x_worse : ∀ w ∈ zw_x_worse, w ∈ lw_tbl := p1_ia (p1_all [901, 810, 812, 28, 104] (by decide +kernel)) (p1_ia iz_c_canTry p1_i0)
set_option maxHeartbeats 4000000 in
set_option maxRecDepth 100000 in
theorem x_worse (l : Launch) (dC : Nat → ClassId) (dI : Nat → Nat → Nat) (sz : Nat) (x : Nat) (xs : List Value) (sh : Nat) (ss : List Value) (sc : Nat) (cS : ClassId) (a1 : Int32) (a2 : Int32) (a3 : Int32) (a4 : Int32) (f_xs_9 : xs[9]? = some (.ref sh)) (f_ss_0 : ss[0]? = some (.ref sc)) : Met l yX8_worse zw_x_worse ({ frames := 2, cells := 0, slots := 0, locals := 45 }) (va_Pc [.ref x, .int a1, .int a2, .int a3, .int a4] (fun U => U.heap.size = sz ∧ va_P (dC, dI) vwCl [(x, .inr (7, xs)), (sh, .inr (5, ss)), (sc, .inl (cS, 5, .inl (fun _ => 0)))] U.heap ∧ va_K (dC, dI) vwCl [(cS, .int)] U ∧ va_D (fun _ => True) [(x, .inr (7, xs)), (sh, .inr (5, ss)), (sc, .inl (cS, 5, .inl (fun _ => 0)))])) (va_Qi (fun (r : Int32) (_ : Unit) => r = (-10000)) (fun _ t => va_P (dC, dI) vwCl [] t.heap ∧ va_K (dC, dI) vwCl [] t ∧ va_D (va_A [(x, .inr (7, xs)), (sh, .inr (5, ss)), (sc, .inl (cS, 5, .inl (fun _ => 0)))] sz) []) (va_A [(x, .inr (7, xs)), (sh, .inr (5, ss)), (sc, .inl (cS, 5, .inl (fun _ => 0)))] sz)) 0 0 (va_A [(x, .inr (7, xs)), (sh, .inr (5, ss)), (sc, .inl (cS, 5, .inl (fun _ => 0)))] sz) := by
  refine Met.ofW (cc := cX8_worse) (maxL := 5) (ret := (some .int)) (by decide) rfl ?_
  intro p e s m args below meth c s₁ B hml hv
  obtain ⟨rfl, hsz, hP, hK, hD0⟩ := hv
  have hx := B.exec
  have hb := B.bytes
  have hr := B.returns
  have hts := atoms_spec (ws := zw_x_worse) B.pre
  have hown : s.vm.findClass RX8 = some m.cls := findClass_of_methodNamed B.named
  have hlocks := B.notSynchronized
  subst hsz
  have hD := hD0.self (sz := s.heap.size)
  generalize hAe : va_A [(x, .inr (7, xs)), (sh, .inr (5, ss)), (sc, .inl (cS, 5, .inl (fun _ => 0)))] s.heap.size = A at hD ⊢
  have hA : ∀ q : Nat, s.heap.size ≤ q → A q := fun q h => by rw [← hAe]; exact Or.inr h
  have hS : va_S A s.heap s.heap [] := va_S.rf
  have hP : va_P (dC, dI) vwCl [(x, .inr (7, xs)), (sh, .inr (5, ss)), (sc, .inl (cS, 5, .inl (fun _ => 0)))] s.heap := hP
  have m_0 : (.methodLink RX8 208 yX8_canTry : Cond) ∈ zw_x_worse := List.mem_append_left _ (List.mem_of_getElem? (i := 1) rfl)
  have k_0 := hts _ m_0
  have m_1 : (.instanceMethod yX8_canTry : Cond) ∈ zw_x_worse := List.mem_append_left _ (List.mem_of_getElem? (i := 2) rfl)
  have k_1 := hts _ m_1
  have m_2 : (.selects RX8 yX8_canTry yX8_canTry : Cond) ∈ zw_x_worse := List.mem_append_left _ (List.mem_of_getElem? (i := 3) rfl)
  have k_2 := hts _ m_2
  have m_3 : (.initialized RX8 : Cond) ∈ zw_x_worse := List.mem_append_left _ (List.mem_of_getElem? (i := 4) rfl)
  have k_3 := hts _ m_3
  have g_c_canTry : ∀ w ∈ zw_c_canTry, w ∈ zw_x_worse := fun w h => List.mem_append_right _ (List.mem_append_left _ h)
  have hl := lv_entry ([.ref x, .int a1, .int a2, .int a3, .int a4]) (n := 5) (Nat.le_of_ble_eq_true rfl)
  rw [lg_entry_eq]
  generalize (lg_sl ([.ref x, .int a1, .int a2, .int a3, .int a4]) ++ List.replicate (5 - (lg_sl ([.ref x, .int a1, .int a2, .int a3, .int a4])).length) Slot.unset).toArray = ls at hl ⊢
  have hl : lv_has ls 5 [(0, .ref x), (1, .int a1), (2, .int a2), (3, .int a3), (4, .int a4)] := hl
  refine lv_aload_n hx hb dX8_worse_0 rfl (lv_at hl 0 rfl) ?_
  refine lv_iload_n hx hb dX8_worse_1 rfl (lv_at hl 1 rfl) ?_
  refine lv_iload_n hx hb dX8_worse_2 rfl (lv_at hl 2 rfl) ?_
  refine lv_iload_n hx hb dX8_worse_3 rfl (lv_at hl 3 rfl) ?_
  have hPc := hP.sub (ws' := [(x, .inr (7, xs)), (sh, .inr (5, ss)), (sc, .inl (cS, 5, .inl (fun _ => 0)))]) [0, 1, 2] rfl
  have hDc := hD.sub (ws' := [(x, .inr (7, xs)), (sh, .inr (5, ss)), (sc, .inl (cS, 5, .inl (fun _ => 0)))]) [0, 1, 2] (by decide) rfl
  have hKc := hK.sub (tys' := [(cS, .int)]) [0] rfl
  have hFc := va_free (wc := [(x, .inr (7, xs)), (sh, .inr (5, ss)), (sc, .inl (cS, 5, .inl (fun _ => 0)))]) hD hS hA [0, 1, 2] rfl
  refine va_calli (va_runV (As := [.int a1, .int a2, .int a3]) (rest := []) ⟨hx, hb, hml, hown, hts⟩ (c_canTry l dC dI s.heap.size x xs sh ss sc cS a1 a2 a3 f_xs_9 f_ss_0) (cwV 3 hts (p1_gV m_0 m_1 m_2 m_3 g_c_canTry gz_c_canTry) rfl rfl rfl (by decide +kernel) ⟨by decide, by decide⟩) ⟨fun a U g mk q => by obtain ⟨q0, q1, qP, qK, qD⟩ := q; exact ⟨q0, q1, qP, va_K.moved (u := U) (U := U.calling g mk a) (Vm.Alike.refl U.vm) qK, qD⟩, va_recv hKc hPc (ci := 7) (q0 := 0) rfl rfl, fun U hU hW => ⟨rfl, by rw [hU], by rw [hU]; exact hPc, va_K.moved hW.alike hKc, hDc.weaken (fun _ _ _ _ => trivial)⟩⟩ rfl rfl hl.1 rfl (lv_room (Nat.le_of_ble_eq_true rfl)) dX8_worse_4 ⟨by decide, by decide⟩) hS (fun q _ h => hFc q h) hFc (fun r_1 u t H1 locs ht hvm hw hB hz1 hk1 hS => ?_)
  obtain ⟨hP1, hK1, hD1⟩ := hB
  rw [ht] at hP1
  obtain ⟨hP, hD⟩ := va_join (wr := []) (w1 := [(x, .inr (7, xs)), (sh, .inr (5, ss)), (sc, .inl (cS, 5, .inl (fun _ => 0)))]) hP hD [0, 1, 2] [] rfl rfl (by decide) (by decide) hk1 hFc hP1 hD1
  generalize H1 = H at hP hS ⊢
  have hP : va_P (dC, dI) vwCl [(x, .inr (7, xs)), (sh, .inr (5, ss)), (sc, .inl (cS, 5, .inl (fun _ => 0)))] H := hP
  have hD : va_D A [(x, .inr (7, xs)), (sh, .inr (5, ss)), (sc, .inl (cS, 5, .inl (fun _ => 0)))] := hD
  try dsimp only at hw
  obtain rfl : r_1 = 0 := hw
  refine lv_if_eq (tgt := 30) hx hb dX8_worse_7 (by decide) (fun _ => ?_) (fun c9 => absurd c9 (by decide))
  refine lv_sipush (v := (-10000)) hx hb dX8_worse_30 (by decide) ?_
  have hP9 := hP.sub (ws' := []) [] rfl
  have hD9 := hD.sub (ws' := []) [] (by decide) rfl
  have hK9 := hK.sub (tys' := []) [] rfl
  exact W.iret (v := (-10000)) hx hb hr (fun t ht hW => ⟨⟨(-10000), (), rfl, rfl, by rw [ht]; exact hP9, va_K.moved hW.alike hK9, hD9⟩, hS.F ht⟩) hS.2.2 dX8_worse_33
def zo_x_which : List Cond := [.code yX8_which cX8_which 8 (some .int), .methodLink RX8 208 yX8_canTry, .instanceMethod yX8_canTry, .selects RX8 yX8_canTry yX8_canTry, .initialized RX8]
def zw_x_which : List Cond := zo_x_which ++ (zw_c_canTry ++ [])
theorem gz_x_which : zw_x_which.all goodWord = true := p1_ga (by decide +kernel) (p1_ga gz_c_canTry p1_g0)
theorem iz_x_which : ∀ w ∈ zw_x_which, w ∈ lw_tbl := p1_ia (p1_all [909, 810, 812, 28, 104] (by decide +kernel)) (p1_ia iz_c_canTry p1_i0)
set_option maxHeartbeats 4000000 in
set_option maxRecDepth 100000 in
theorem x_which (l : Launch) (dC : Nat → ClassId) (dI : Nat → Nat → Nat) (sz : Nat) (x : Nat) (xs : List Value) (sh : Nat) (ss : List Value) (sc : Nat) (cS : ClassId) (a1 : Int32) (a2 : Int32) (a3 : Int32) (f_xs_9 : xs[9]? = some (.ref sh)) (f_ss_0 : ss[0]? = some (.ref sc)) : Met l yX8_which zw_x_which ({ frames := 2, cells := 0, slots := 0, locals := 45 }) (va_Pc [.ref x, .int a1, .int a2, .int a3] (fun U => U.heap.size = sz ∧ va_P (dC, dI) vwCl [(x, .inr (7, xs)), (sh, .inr (5, ss)), (sc, .inl (cS, 5, .inl (fun _ => 0)))] U.heap ∧ va_K (dC, dI) vwCl [(cS, .int)] U ∧ va_D (fun _ => True) [(x, .inr (7, xs)), (sh, .inr (5, ss)), (sc, .inl (cS, 5, .inl (fun _ => 0)))])) (va_Qi (fun (r : Int32) (_ : Unit) => r = (-1)) (fun _ t => va_P (dC, dI) vwCl [] t.heap ∧ va_K (dC, dI) vwCl [] t ∧ va_D (va_A [(x, .inr (7, xs)), (sh, .inr (5, ss)), (sc, .inl (cS, 5, .inl (fun _ => 0)))] sz) []) (va_A [(x, .inr (7, xs)), (sh, .inr (5, ss)), (sc, .inl (cS, 5, .inl (fun _ => 0)))] sz)) 0 0 (va_A [(x, .inr (7, xs)), (sh, .inr (5, ss)), (sc, .inl (cS, 5, .inl (fun _ => 0)))] sz) := by
  refine Met.ofW (cc := cX8_which) (maxL := 8) (ret := (some .int)) (by decide) rfl ?_
  intro p e s m args below meth c s₁ B hml hv
  obtain ⟨rfl, hsz, hP, hK, hD0⟩ := hv
  have hx := B.exec
  have hb := B.bytes
  have hr := B.returns
  have hts := atoms_spec (ws := zw_x_which) B.pre
  have hown : s.vm.findClass RX8 = some m.cls := findClass_of_methodNamed B.named
  have hlocks := B.notSynchronized
  subst hsz
  have hD := hD0.self (sz := s.heap.size)
  generalize hAe : va_A [(x, .inr (7, xs)), (sh, .inr (5, ss)), (sc, .inl (cS, 5, .inl (fun _ => 0)))] s.heap.size = A at hD ⊢
  have hA : ∀ q : Nat, s.heap.size ≤ q → A q := fun q h => by rw [← hAe]; exact Or.inr h
  have hS : va_S A s.heap s.heap [] := va_S.rf
  have hP : va_P (dC, dI) vwCl [(x, .inr (7, xs)), (sh, .inr (5, ss)), (sc, .inl (cS, 5, .inl (fun _ => 0)))] s.heap := hP
  have m_0 : (.methodLink RX8 208 yX8_canTry : Cond) ∈ zw_x_which := List.mem_append_left _ (List.mem_of_getElem? (i := 1) rfl)
  have k_0 := hts _ m_0
  have m_1 : (.instanceMethod yX8_canTry : Cond) ∈ zw_x_which := List.mem_append_left _ (List.mem_of_getElem? (i := 2) rfl)
  have k_1 := hts _ m_1
  have m_2 : (.selects RX8 yX8_canTry yX8_canTry : Cond) ∈ zw_x_which := List.mem_append_left _ (List.mem_of_getElem? (i := 3) rfl)
  have k_2 := hts _ m_2
  have m_3 : (.initialized RX8 : Cond) ∈ zw_x_which := List.mem_append_left _ (List.mem_of_getElem? (i := 4) rfl)
  have k_3 := hts _ m_3
  have g_c_canTry : ∀ w ∈ zw_c_canTry, w ∈ zw_x_which := fun w h => List.mem_append_right _ (List.mem_append_left _ h)
  have hl := lv_entry ([.ref x, .int a1, .int a2, .int a3]) (n := 8) (Nat.le_of_ble_eq_true rfl)
  rw [lg_entry_eq]
  generalize (lg_sl ([.ref x, .int a1, .int a2, .int a3]) ++ List.replicate (8 - (lg_sl ([.ref x, .int a1, .int a2, .int a3])).length) Slot.unset).toArray = ls at hl ⊢
  have hl : lv_has ls 8 [(0, .ref x), (1, .int a1), (2, .int a2), (3, .int a3)] := hl
  refine lv_aload_n hx hb dX8_which_0 rfl (lv_at hl 0 rfl) ?_
  refine lv_iload_n hx hb dX8_which_1 rfl (lv_at hl 1 rfl) ?_
  refine lv_iload_n hx hb dX8_which_2 rfl (lv_at hl 2 rfl) ?_
  refine lv_iload_n hx hb dX8_which_3 rfl (lv_at hl 3 rfl) ?_
  have hPc := hP.sub (ws' := [(x, .inr (7, xs)), (sh, .inr (5, ss)), (sc, .inl (cS, 5, .inl (fun _ => 0)))]) [0, 1, 2] rfl
  have hDc := hD.sub (ws' := [(x, .inr (7, xs)), (sh, .inr (5, ss)), (sc, .inl (cS, 5, .inl (fun _ => 0)))]) [0, 1, 2] (by decide) rfl
  have hKc := hK.sub (tys' := [(cS, .int)]) [0] rfl
  have hFc := va_free (wc := [(x, .inr (7, xs)), (sh, .inr (5, ss)), (sc, .inl (cS, 5, .inl (fun _ => 0)))]) hD hS hA [0, 1, 2] rfl
  refine va_calli (va_runV (As := [.int a1, .int a2, .int a3]) (rest := []) ⟨hx, hb, hml, hown, hts⟩ (c_canTry l dC dI s.heap.size x xs sh ss sc cS a1 a2 a3 f_xs_9 f_ss_0) (cwV 3 hts (p1_gV m_0 m_1 m_2 m_3 g_c_canTry gz_c_canTry) rfl rfl rfl (by decide +kernel) ⟨by decide, by decide⟩) ⟨fun a U g mk q => by obtain ⟨q0, q1, qP, qK, qD⟩ := q; exact ⟨q0, q1, qP, va_K.moved (u := U) (U := U.calling g mk a) (Vm.Alike.refl U.vm) qK, qD⟩, va_recv hKc hPc (ci := 7) (q0 := 0) rfl rfl, fun U hU hW => ⟨rfl, by rw [hU], by rw [hU]; exact hPc, va_K.moved hW.alike hKc, hDc.weaken (fun _ _ _ _ => trivial)⟩⟩ rfl rfl hl.1 rfl (lv_room (Nat.le_of_ble_eq_true rfl)) dX8_which_4 ⟨by decide, by decide⟩) hS (fun q _ h => hFc q h) hFc (fun r_1 u t H1 locs ht hvm hw hB hz1 hk1 hS => ?_)
  obtain ⟨hP1, hK1, hD1⟩ := hB
  rw [ht] at hP1
  obtain ⟨hP, hD⟩ := va_join (wr := []) (w1 := [(x, .inr (7, xs)), (sh, .inr (5, ss)), (sc, .inl (cS, 5, .inl (fun _ => 0)))]) hP hD [0, 1, 2] [] rfl rfl (by decide) (by decide) hk1 hFc hP1 hD1
  generalize H1 = H at hP hS ⊢
  have hP : va_P (dC, dI) vwCl [(x, .inr (7, xs)), (sh, .inr (5, ss)), (sc, .inl (cS, 5, .inl (fun _ => 0)))] H := hP
  have hD : va_D A [(x, .inr (7, xs)), (sh, .inr (5, ss)), (sc, .inl (cS, 5, .inl (fun _ => 0)))] := hD
  try dsimp only at hw
  obtain rfl : r_1 = 0 := hw
  refine lv_if_ne (tgt := 12) hx hb dX8_which_7 (by decide) (fun c9 => absurd c9 (by decide)) (fun _ => ?_)
  refine lv_iconst (v := (-1)) hx hb dX8_which_10 (by decide) ?_
  have hP9 := hP.sub (ws' := []) [] rfl
  have hD9 := hD.sub (ws' := []) [] (by decide) rfl
  have hK9 := hK.sub (tys' := []) [] rfl
  exact W.iret (v := (-1)) hx hb hr (fun t ht hW => ⟨⟨(-1), (), rfl, rfl, by rw [ht]; exact hP9, va_K.moved hW.alike hK9, hD9⟩, hS.F ht⟩) hS.2.2 dX8_which_11
def zo_x_best : List Cond := [.code yX8_best cX8_best 12 (some .int), .methodLink RX8 150 yX8_within, .static yX8_within, .initialized RX8, .methodLink RX8 244 yX8_canWalkIn, .instanceMethod yX8_canWalkIn, .selects RX8 yX8_canWalkIn yX8_canWalkIn]
def zw_x_best : List Cond := zo_x_best ++ (zw_c_within ++ (zw_c_canWalkIn ++ []))
theorem gz_x_best : zw_x_best.all goodWord = true := p1_ga (by decide +kernel) (p1_ga gz_c_within (p1_ga gz_c_canWalkIn p1_g0))
theorem iz_x_best : ∀ w ∈ zw_x_best, w ∈ lw_tbl := p1_ia (p1_all [913, 749, 750, 104, 814, 816, 29] (by decide +kernel)) (p1_ia iz_c_within (p1_ia iz_c_canWalkIn p1_i0))
set_option maxHeartbeats 4000000 in
set_option maxRecDepth 100000 in
theorem x_best (l : Launch) (dC : Nat → ClassId) (dI : Nat → Nat → Nat) (sz : Nat) (x : Nat) (xs : List Value) (sh : Nat) (ss : List Value) (sc : Nat) (cS : ClassId) (a1 : Int32) (a2 : Int32) (a3 : Int32) (a4 : Int32) (a5 : Int32) (f_xs_9 : xs[9]? = some (.ref sh)) (f_ss_0 : ss[0]? = some (.ref sc)) : Met l yX8_best zw_x_best ({ frames := 2, cells := 0, slots := 0, locals := 44 }) (va_Pc [.ref x, .int a1, .int a2, .int a3, .int a4, .int a5] (fun U => U.heap.size = sz ∧ va_P (dC, dI) vwCl [(x, .inr (7, xs)), (sh, .inr (5, ss)), (sc, .inl (cS, 5, .inl (fun _ => 0)))] U.heap ∧ va_K (dC, dI) vwCl [(cS, .int)] U ∧ va_D (fun _ => True) [(x, .inr (7, xs)), (sh, .inr (5, ss)), (sc, .inl (cS, 5, .inl (fun _ => 0)))])) (va_Qi (fun (r : Int32) (_ : Unit) => r = (-1)) (fun _ t => va_P (dC, dI) vwCl [] t.heap ∧ va_K (dC, dI) vwCl [] t ∧ va_D (va_A [(x, .inr (7, xs)), (sh, .inr (5, ss)), (sc, .inl (cS, 5, .inl (fun _ => 0)))] sz) []) (va_A [(x, .inr (7, xs)), (sh, .inr (5, ss)), (sc, .inl (cS, 5, .inl (fun _ => 0)))] sz)) 0 0 (va_A [(x, .inr (7, xs)), (sh, .inr (5, ss)), (sc, .inl (cS, 5, .inl (fun _ => 0)))] sz) := by
  refine Met.ofW (cc := cX8_best) (maxL := 12) (ret := (some .int)) (by decide) rfl ?_
  intro p e s m args below meth c s₁ B hml hv
  obtain ⟨rfl, hsz, hP, hK, hD0⟩ := hv
  have hx := B.exec
  have hb := B.bytes
  have hr := B.returns
  have hts := atoms_spec (ws := zw_x_best) B.pre
  have hown : s.vm.findClass RX8 = some m.cls := findClass_of_methodNamed B.named
  have hlocks := B.notSynchronized
  subst hsz
  have hD := hD0.self (sz := s.heap.size)
  generalize hAe : va_A [(x, .inr (7, xs)), (sh, .inr (5, ss)), (sc, .inl (cS, 5, .inl (fun _ => 0)))] s.heap.size = A at hD ⊢
  have hA : ∀ q : Nat, s.heap.size ≤ q → A q := fun q h => by rw [← hAe]; exact Or.inr h
  have hS : va_S A s.heap s.heap [] := va_S.rf
  have hP : va_P (dC, dI) vwCl [(x, .inr (7, xs)), (sh, .inr (5, ss)), (sc, .inl (cS, 5, .inl (fun _ => 0)))] s.heap := hP
  have m_0 : (.methodLink RX8 150 yX8_within : Cond) ∈ zw_x_best := List.mem_append_left _ (List.mem_of_getElem? (i := 1) rfl)
  have k_0 := hts _ m_0
  have m_1 : (.static yX8_within : Cond) ∈ zw_x_best := List.mem_append_left _ (List.mem_of_getElem? (i := 2) rfl)
  have k_1 := hts _ m_1
  have m_2 : (.initialized RX8 : Cond) ∈ zw_x_best := List.mem_append_left _ (List.mem_of_getElem? (i := 3) rfl)
  have k_2 := hts _ m_2
  have m_3 : (.methodLink RX8 244 yX8_canWalkIn : Cond) ∈ zw_x_best := List.mem_append_left _ (List.mem_of_getElem? (i := 4) rfl)
  have k_3 := hts _ m_3
  have m_4 : (.instanceMethod yX8_canWalkIn : Cond) ∈ zw_x_best := List.mem_append_left _ (List.mem_of_getElem? (i := 5) rfl)
  have k_4 := hts _ m_4
  have m_5 : (.selects RX8 yX8_canWalkIn yX8_canWalkIn : Cond) ∈ zw_x_best := List.mem_append_left _ (List.mem_of_getElem? (i := 6) rfl)
  have k_5 := hts _ m_5
  have g_c_within : ∀ w ∈ zw_c_within, w ∈ zw_x_best := fun w h => List.mem_append_right _ (List.mem_append_left _ h)
  have g_c_canWalkIn : ∀ w ∈ zw_c_canWalkIn, w ∈ zw_x_best := fun w h => List.mem_append_right _ (List.mem_append_right _ (List.mem_append_left _ h))
  have hl := lv_entry ([.ref x, .int a1, .int a2, .int a3, .int a4, .int a5]) (n := 12) (Nat.le_of_ble_eq_true rfl)
  rw [lg_entry_eq]
  generalize (lg_sl ([.ref x, .int a1, .int a2, .int a3, .int a4, .int a5]) ++ List.replicate (12 - (lg_sl ([.ref x, .int a1, .int a2, .int a3, .int a4, .int a5])).length) Slot.unset).toArray = ls at hl ⊢
  have hl : lv_has ls 12 [(0, .ref x), (1, .int a1), (2, .int a2), (3, .int a3), (4, .int a4), (5, .int a5)] := hl
  refine lv_iload_n hx hb dX8_best_0 rfl (lv_at hl 1 rfl) ?_
  refine lv_iconst (v := 1) hx hb dX8_best_1 (by decide) ?_
  refine lv_bipush (v := 6) hx hb dX8_best_2 (by decide) ?_
  have hPc := hP.sub (ws' := []) [] rfl
  have hDc := hD.sub (ws' := []) [] (by decide) rfl
  have hKc := hK.sub (tys' := []) [] rfl
  have hFc := va_free (wc := []) hD hS hA [] rfl
  refine va_calli (va_runS (As := [.int a1, .int 1, .int 6]) (rest := []) ⟨hx, hb, hml, hown, hts⟩ (c_within l dC dI s.heap.size a1 1 6) (va_cwS 3 hts (p1_gS m_0 m_1 m_2 g_c_within gz_c_within) rfl rfl rfl (by decide +kernel) ⟨by decide, by decide⟩) ⟨fun a U g mk q => by obtain ⟨q0, q1, qP, qK, qD⟩ := q; exact ⟨q0, q1, qP, va_K.moved (u := U) (U := U.calling g mk a) (Vm.Alike.refl U.vm) qK, qD⟩, fun U hU hW => ⟨rfl, by rw [hU], by rw [hU]; exact hPc, va_K.moved hW.alike hKc, hDc.weaken (fun _ _ _ _ => trivial)⟩⟩ rfl rfl hl.1 rfl (lv_room (Nat.le_of_ble_eq_true rfl)) dX8_best_4 ⟨by decide, by decide⟩) hS (fun q _ h => hFc q h) hFc (fun r_1 u t H1 locs ht hvm hw hB hz1 hk1 hS => ?_)
  obtain ⟨hP1, hK1, hD1⟩ := hB
  rw [ht] at hP1
  obtain ⟨hP, hD⟩ := va_join (wr := [(x, .inr (7, xs)), (sh, .inr (5, ss)), (sc, .inl (cS, 5, .inl (fun _ => 0)))]) (w1 := []) hP hD [] [0, 1, 2] rfl rfl (by decide) (by decide) hk1 hFc hP1 hD1
  generalize H1 = H at hP hS ⊢
  have hP : va_P (dC, dI) vwCl [(x, .inr (7, xs)), (sh, .inr (5, ss)), (sc, .inl (cS, 5, .inl (fun _ => 0)))] H := hP
  have hD : va_D A [(x, .inr (7, xs)), (sh, .inr (5, ss)), (sc, .inl (cS, 5, .inl (fun _ => 0)))] := hD
  try dsimp only at hw
  rcases hw with ⟨rfl, hw_2⟩ | ⟨rfl, hw_2⟩
  · refine lv_if_eq (tgt := 19) hx hb dX8_best_7 (by decide) (fun c9 => absurd c9 (by decide)) (fun _ => ?_)
    refine lv_aload_n hx hb dX8_best_10 rfl (lv_at hl 0 rfl) ?_
    refine lv_iload_n hx hb dX8_best_11 rfl (lv_at hl 2 rfl) ?_
    refine lv_iload_n hx hb dX8_best_12 rfl (lv_at hl 3 rfl) ?_
    have hPc := hP.sub (ws' := [(x, .inr (7, xs)), (sh, .inr (5, ss)), (sc, .inl (cS, 5, .inl (fun _ => 0)))]) [0, 1, 2] rfl
    have hDc := hD.sub (ws' := [(x, .inr (7, xs)), (sh, .inr (5, ss)), (sc, .inl (cS, 5, .inl (fun _ => 0)))]) [0, 1, 2] (by decide) rfl
    have hKc := hK.sub (tys' := [(cS, .int)]) [0] rfl
    have hFc := va_free (wc := [(x, .inr (7, xs)), (sh, .inr (5, ss)), (sc, .inl (cS, 5, .inl (fun _ => 0)))]) hD hS hA [0, 1, 2] rfl
    refine va_calli (va_runV (As := [.int a2, .int a3]) (rest := []) ⟨hx, hb, hml, hown, hts⟩ (c_canWalkIn l dC dI H.size x xs sh ss sc cS a2 a3 f_xs_9 f_ss_0) (cwV 2 hts (p1_gV m_3 m_4 m_5 m_2 g_c_canWalkIn gz_c_canWalkIn) rfl rfl rfl (by decide +kernel) ⟨by decide, by decide⟩) ⟨fun a U g mk q => by obtain ⟨q0, q1, qP, qK, qD⟩ := q; exact ⟨q0, q1, qP, va_K.moved (u := U) (U := U.calling g mk a) (Vm.Alike.refl U.vm) qK, qD⟩, va_recv hKc hPc (ci := 7) (q0 := 0) rfl rfl, fun U hU hW => ⟨rfl, by rw [hU], by rw [hU]; exact hPc, va_K.moved hW.alike hKc, hDc.weaken (fun _ _ _ _ => trivial)⟩⟩ rfl rfl hl.1 rfl (lv_room (Nat.le_of_ble_eq_true rfl)) dX8_best_13 ⟨by decide, by decide⟩) hS (fun q _ h => hFc q h) hFc (fun r_3 u t H1 locs ht hvm hw hB hz1 hk1 hS => ?_)
    obtain ⟨hP1, hK1, hD1⟩ := hB
    rw [ht] at hP1
    obtain ⟨hP, hD⟩ := va_join (wr := []) (w1 := [(x, .inr (7, xs)), (sh, .inr (5, ss)), (sc, .inl (cS, 5, .inl (fun _ => 0)))]) hP hD [0, 1, 2] [] rfl rfl (by decide) (by decide) hk1 hFc hP1 hD1
    generalize H1 = H at hP hS ⊢
    have hP : va_P (dC, dI) vwCl [(x, .inr (7, xs)), (sh, .inr (5, ss)), (sc, .inl (cS, 5, .inl (fun _ => 0)))] H := hP
    have hD : va_D A [(x, .inr (7, xs)), (sh, .inr (5, ss)), (sc, .inl (cS, 5, .inl (fun _ => 0)))] := hD
    try dsimp only at hw
    obtain rfl : r_3 = 0 := hw
    refine lv_if_ne (tgt := 21) hx hb dX8_best_16 (by decide) (fun c9 => absurd c9 (by decide)) (fun _ => ?_)
    refine lv_iconst (v := (-1)) hx hb dX8_best_19 (by decide) ?_
    have hP9 := hP.sub (ws' := []) [] rfl
    have hD9 := hD.sub (ws' := []) [] (by decide) rfl
    have hK9 := hK.sub (tys' := []) [] rfl
    exact W.iret (v := (-1)) hx hb hr (fun t ht hW => ⟨⟨(-1), (), rfl, rfl, by rw [ht]; exact hP9, va_K.moved hW.alike hK9, hD9⟩, hS.F ht⟩) hS.2.2 dX8_best_20
  · refine lv_if_eq (tgt := 19) hx hb dX8_best_7 (by decide) (fun _ => ?_) (fun c9 => absurd c9 (by decide))
    refine lv_iconst (v := (-1)) hx hb dX8_best_19 (by decide) ?_
    have hP9 := hP.sub (ws' := []) [] rfl
    have hD9 := hD.sub (ws' := []) [] (by decide) rfl
    have hK9 := hK.sub (tys' := []) [] rfl
    exact W.iret (v := (-1)) hx hb hr (fun t ht hW => ⟨⟨(-1), (), rfl, rfl, by rw [ht]; exact hP9, va_K.moved hW.alike hK9, hD9⟩, hS.F ht⟩) hS.2.2 dX8_best_20
def zo_x_both : List Cond := [.code yX8_both cX8_both 6 (some .int), .methodLink RX8 244 yX8_canWalkIn, .instanceMethod yX8_canWalkIn, .selects RX8 yX8_canWalkIn yX8_canWalkIn, .initialized RX8]
def zw_x_both : List Cond := zo_x_both ++ (zw_c_canWalkIn ++ [])
theorem gz_x_both : zw_x_both.all goodWord = true := p1_ga (by decide +kernel) (p1_ga gz_c_canWalkIn p1_g0)
theorem iz_x_both : ∀ w ∈ zw_x_both, w ∈ lw_tbl := p1_ia (p1_all [921, 814, 816, 29, 104] (by decide +kernel)) (p1_ia iz_c_canWalkIn p1_i0)
set_option maxHeartbeats 4000000 in
set_option maxRecDepth 100000 in
theorem x_both (l : Launch) (dC : Nat → ClassId) (dI : Nat → Nat → Nat) (sz : Nat) (x : Nat) (xs : List Value) (sh : Nat) (ss : List Value) (sc : Nat) (cS : ClassId) (a1 : Int32) (a2 : Int32) (f_xs_9 : xs[9]? = some (.ref sh)) (f_ss_0 : ss[0]? = some (.ref sc)) : Met l yX8_both zw_x_both ({ frames := 2, cells := 0, slots := 0, locals := 44 }) (va_Pc [.ref x, .int a1, .int a2] (fun U => U.heap.size = sz ∧ va_P (dC, dI) vwCl [(x, .inr (7, xs)), (sh, .inr (5, ss)), (sc, .inl (cS, 5, .inl (fun _ => 0)))] U.heap ∧ va_K (dC, dI) vwCl [(cS, .int)] U ∧ va_D (fun _ => True) [(x, .inr (7, xs)), (sh, .inr (5, ss)), (sc, .inl (cS, 5, .inl (fun _ => 0)))])) (va_Qi (fun (r : Int32) (_ : Unit) => r = (-1)) (fun _ t => va_P (dC, dI) vwCl [] t.heap ∧ va_K (dC, dI) vwCl [] t ∧ va_D (va_A [(x, .inr (7, xs)), (sh, .inr (5, ss)), (sc, .inl (cS, 5, .inl (fun _ => 0)))] sz) []) (va_A [(x, .inr (7, xs)), (sh, .inr (5, ss)), (sc, .inl (cS, 5, .inl (fun _ => 0)))] sz)) 0 0 (va_A [(x, .inr (7, xs)), (sh, .inr (5, ss)), (sc, .inl (cS, 5, .inl (fun _ => 0)))] sz) := by
  refine Met.ofW (cc := cX8_both) (maxL := 6) (ret := (some .int)) (by decide) rfl ?_
  intro p e s m args below meth c s₁ B hml hv
  obtain ⟨rfl, hsz, hP, hK, hD0⟩ := hv
  have hx := B.exec
  have hb := B.bytes
  have hr := B.returns
  have hts := atoms_spec (ws := zw_x_both) B.pre
  have hown : s.vm.findClass RX8 = some m.cls := findClass_of_methodNamed B.named
  have hlocks := B.notSynchronized
  subst hsz
  have hD := hD0.self (sz := s.heap.size)
  generalize hAe : va_A [(x, .inr (7, xs)), (sh, .inr (5, ss)), (sc, .inl (cS, 5, .inl (fun _ => 0)))] s.heap.size = A at hD ⊢
  have hA : ∀ q : Nat, s.heap.size ≤ q → A q := fun q h => by rw [← hAe]; exact Or.inr h
  have hS : va_S A s.heap s.heap [] := va_S.rf
  have hP : va_P (dC, dI) vwCl [(x, .inr (7, xs)), (sh, .inr (5, ss)), (sc, .inl (cS, 5, .inl (fun _ => 0)))] s.heap := hP
  have m_0 : (.methodLink RX8 244 yX8_canWalkIn : Cond) ∈ zw_x_both := List.mem_append_left _ (List.mem_of_getElem? (i := 1) rfl)
  have k_0 := hts _ m_0
  have m_1 : (.instanceMethod yX8_canWalkIn : Cond) ∈ zw_x_both := List.mem_append_left _ (List.mem_of_getElem? (i := 2) rfl)
  have k_1 := hts _ m_1
  have m_2 : (.selects RX8 yX8_canWalkIn yX8_canWalkIn : Cond) ∈ zw_x_both := List.mem_append_left _ (List.mem_of_getElem? (i := 3) rfl)
  have k_2 := hts _ m_2
  have m_3 : (.initialized RX8 : Cond) ∈ zw_x_both := List.mem_append_left _ (List.mem_of_getElem? (i := 4) rfl)
  have k_3 := hts _ m_3
  have g_c_canWalkIn : ∀ w ∈ zw_c_canWalkIn, w ∈ zw_x_both := fun w h => List.mem_append_right _ (List.mem_append_left _ h)
  have hl := lv_entry ([.ref x, .int a1, .int a2]) (n := 6) (Nat.le_of_ble_eq_true rfl)
  rw [lg_entry_eq]
  generalize (lg_sl ([.ref x, .int a1, .int a2]) ++ List.replicate (6 - (lg_sl ([.ref x, .int a1, .int a2])).length) Slot.unset).toArray = ls at hl ⊢
  have hl : lv_has ls 6 [(0, .ref x), (1, .int a1), (2, .int a2)] := hl
  refine lv_aload_n hx hb dX8_both_0 rfl (lv_at hl 0 rfl) ?_
  refine lv_iload_n hx hb dX8_both_1 rfl (lv_at hl 1 rfl) ?_
  refine lv_iload_n hx hb dX8_both_2 rfl (lv_at hl 2 rfl) ?_
  have hPc := hP.sub (ws' := [(x, .inr (7, xs)), (sh, .inr (5, ss)), (sc, .inl (cS, 5, .inl (fun _ => 0)))]) [0, 1, 2] rfl
  have hDc := hD.sub (ws' := [(x, .inr (7, xs)), (sh, .inr (5, ss)), (sc, .inl (cS, 5, .inl (fun _ => 0)))]) [0, 1, 2] (by decide) rfl
  have hKc := hK.sub (tys' := [(cS, .int)]) [0] rfl
  have hFc := va_free (wc := [(x, .inr (7, xs)), (sh, .inr (5, ss)), (sc, .inl (cS, 5, .inl (fun _ => 0)))]) hD hS hA [0, 1, 2] rfl
  refine va_calli (va_runV (As := [.int a1, .int a2]) (rest := []) ⟨hx, hb, hml, hown, hts⟩ (c_canWalkIn l dC dI s.heap.size x xs sh ss sc cS a1 a2 f_xs_9 f_ss_0) (cwV 2 hts (p1_gV m_0 m_1 m_2 m_3 g_c_canWalkIn gz_c_canWalkIn) rfl rfl rfl (by decide +kernel) ⟨by decide, by decide⟩) ⟨fun a U g mk q => by obtain ⟨q0, q1, qP, qK, qD⟩ := q; exact ⟨q0, q1, qP, va_K.moved (u := U) (U := U.calling g mk a) (Vm.Alike.refl U.vm) qK, qD⟩, va_recv hKc hPc (ci := 7) (q0 := 0) rfl rfl, fun U hU hW => ⟨rfl, by rw [hU], by rw [hU]; exact hPc, va_K.moved hW.alike hKc, hDc.weaken (fun _ _ _ _ => trivial)⟩⟩ rfl rfl hl.1 rfl (lv_room (Nat.le_of_ble_eq_true rfl)) dX8_both_3 ⟨by decide, by decide⟩) hS (fun q _ h => hFc q h) hFc (fun r_1 u t H1 locs ht hvm hw hB hz1 hk1 hS => ?_)
  obtain ⟨hP1, hK1, hD1⟩ := hB
  rw [ht] at hP1
  obtain ⟨hP, hD⟩ := va_join (wr := []) (w1 := [(x, .inr (7, xs)), (sh, .inr (5, ss)), (sc, .inl (cS, 5, .inl (fun _ => 0)))]) hP hD [0, 1, 2] [] rfl rfl (by decide) (by decide) hk1 hFc hP1 hD1
  generalize H1 = H at hP hS ⊢
  have hP : va_P (dC, dI) vwCl [(x, .inr (7, xs)), (sh, .inr (5, ss)), (sc, .inl (cS, 5, .inl (fun _ => 0)))] H := hP
  have hD : va_D A [(x, .inr (7, xs)), (sh, .inr (5, ss)), (sc, .inl (cS, 5, .inl (fun _ => 0)))] := hD
  try dsimp only at hw
  obtain rfl : r_1 = 0 := hw
  refine lv_if_ne (tgt := 11) hx hb dX8_both_6 (by decide) (fun c9 => absurd c9 (by decide)) (fun _ => ?_)
  refine lv_iconst (v := (-1)) hx hb dX8_both_9 (by decide) ?_
  have hP9 := hP.sub (ws' := []) [] rfl
  have hD9 := hD.sub (ws' := []) [] (by decide) rfl
  have hK9 := hK.sub (tys' := []) [] rfl
  exact W.iret (v := (-1)) hx hb hr (fun t ht hW => ⟨⟨(-1), (), rfl, rfl, by rw [ht]; exact hP9, va_K.moved hW.alike hK9, hD9⟩, hS.F ht⟩) hS.2.2 dX8_both_10
def zo_x_ends : List Cond := [.code yX8_ends cX8_ends 6 (some .int), .methodLink RX8 208 yX8_canTry, .instanceMethod yX8_canTry, .selects RX8 yX8_canTry yX8_canTry, .initialized RX8]
def zw_x_ends : List Cond := zo_x_ends ++ (zw_c_canTry ++ [])
theorem gz_x_ends : zw_x_ends.all goodWord = true := p1_ga (by decide +kernel) (p1_ga gz_c_canTry p1_g0)
theorem iz_x_ends : ∀ w ∈ zw_x_ends, w ∈ lw_tbl := p1_ia (p1_all [929, 810, 812, 28, 104] (by decide +kernel)) (p1_ia iz_c_canTry p1_i0)
set_option maxHeartbeats 4000000 in
set_option maxRecDepth 100000 in
theorem x_ends (l : Launch) (dC : Nat → ClassId) (dI : Nat → Nat → Nat) (sz : Nat) (x : Nat) (xs : List Value) (sh : Nat) (ss : List Value) (sc : Nat) (cS : ClassId) (a1 : Int32) (a2 : Int32) (a3 : Int32) (a4 : Int32) (f_xs_9 : xs[9]? = some (.ref sh)) (f_ss_0 : ss[0]? = some (.ref sc)) : Met l yX8_ends zw_x_ends ({ frames := 2, cells := 0, slots := 0, locals := 45 }) (va_Pc [.ref x, .int a1, .int a2, .int a3, .int a4] (fun U => U.heap.size = sz ∧ va_P (dC, dI) vwCl [(x, .inr (7, xs)), (sh, .inr (5, ss)), (sc, .inl (cS, 5, .inl (fun _ => 0)))] U.heap ∧ va_K (dC, dI) vwCl [(cS, .int)] U ∧ va_D (fun _ => True) [(x, .inr (7, xs)), (sh, .inr (5, ss)), (sc, .inl (cS, 5, .inl (fun _ => 0)))])) (va_Qi (fun (r : Int32) (_ : Unit) => r = (-1)) (fun _ t => va_P (dC, dI) vwCl [] t.heap ∧ va_K (dC, dI) vwCl [] t ∧ va_D (va_A [(x, .inr (7, xs)), (sh, .inr (5, ss)), (sc, .inl (cS, 5, .inl (fun _ => 0)))] sz) []) (va_A [(x, .inr (7, xs)), (sh, .inr (5, ss)), (sc, .inl (cS, 5, .inl (fun _ => 0)))] sz)) 0 0 (va_A [(x, .inr (7, xs)), (sh, .inr (5, ss)), (sc, .inl (cS, 5, .inl (fun _ => 0)))] sz) := by
  refine Met.ofW (cc := cX8_ends) (maxL := 6) (ret := (some .int)) (by decide) rfl ?_
  intro p e s m args below meth c s₁ B hml hv
  obtain ⟨rfl, hsz, hP, hK, hD0⟩ := hv
  have hx := B.exec
  have hb := B.bytes
  have hr := B.returns
  have hts := atoms_spec (ws := zw_x_ends) B.pre
  have hown : s.vm.findClass RX8 = some m.cls := findClass_of_methodNamed B.named
  have hlocks := B.notSynchronized
  subst hsz
  have hD := hD0.self (sz := s.heap.size)
  generalize hAe : va_A [(x, .inr (7, xs)), (sh, .inr (5, ss)), (sc, .inl (cS, 5, .inl (fun _ => 0)))] s.heap.size = A at hD ⊢
  have hA : ∀ q : Nat, s.heap.size ≤ q → A q := fun q h => by rw [← hAe]; exact Or.inr h
  have hS : va_S A s.heap s.heap [] := va_S.rf
  have hP : va_P (dC, dI) vwCl [(x, .inr (7, xs)), (sh, .inr (5, ss)), (sc, .inl (cS, 5, .inl (fun _ => 0)))] s.heap := hP
  have m_0 : (.methodLink RX8 208 yX8_canTry : Cond) ∈ zw_x_ends := List.mem_append_left _ (List.mem_of_getElem? (i := 1) rfl)
  have k_0 := hts _ m_0
  have m_1 : (.instanceMethod yX8_canTry : Cond) ∈ zw_x_ends := List.mem_append_left _ (List.mem_of_getElem? (i := 2) rfl)
  have k_1 := hts _ m_1
  have m_2 : (.selects RX8 yX8_canTry yX8_canTry : Cond) ∈ zw_x_ends := List.mem_append_left _ (List.mem_of_getElem? (i := 3) rfl)
  have k_2 := hts _ m_2
  have m_3 : (.initialized RX8 : Cond) ∈ zw_x_ends := List.mem_append_left _ (List.mem_of_getElem? (i := 4) rfl)
  have k_3 := hts _ m_3
  have g_c_canTry : ∀ w ∈ zw_c_canTry, w ∈ zw_x_ends := fun w h => List.mem_append_right _ (List.mem_append_left _ h)
  have hl := lv_entry ([.ref x, .int a1, .int a2, .int a3, .int a4]) (n := 6) (Nat.le_of_ble_eq_true rfl)
  rw [lg_entry_eq]
  generalize (lg_sl ([.ref x, .int a1, .int a2, .int a3, .int a4]) ++ List.replicate (6 - (lg_sl ([.ref x, .int a1, .int a2, .int a3, .int a4])).length) Slot.unset).toArray = ls at hl ⊢
  have hl : lv_has ls 6 [(0, .ref x), (1, .int a1), (2, .int a2), (3, .int a3), (4, .int a4)] := hl
  refine lv_aload_n hx hb dX8_ends_0 rfl (lv_at hl 0 rfl) ?_
  refine lv_iload_n hx hb dX8_ends_1 rfl (lv_at hl 1 rfl) ?_
  refine lv_iload_n hx hb dX8_ends_2 rfl (lv_at hl 2 rfl) ?_
  refine lv_iload_n hx hb dX8_ends_3 rfl (lv_at hl 3 rfl) ?_
  have hPc := hP.sub (ws' := [(x, .inr (7, xs)), (sh, .inr (5, ss)), (sc, .inl (cS, 5, .inl (fun _ => 0)))]) [0, 1, 2] rfl
  have hDc := hD.sub (ws' := [(x, .inr (7, xs)), (sh, .inr (5, ss)), (sc, .inl (cS, 5, .inl (fun _ => 0)))]) [0, 1, 2] (by decide) rfl
  have hKc := hK.sub (tys' := [(cS, .int)]) [0] rfl
  have hFc := va_free (wc := [(x, .inr (7, xs)), (sh, .inr (5, ss)), (sc, .inl (cS, 5, .inl (fun _ => 0)))]) hD hS hA [0, 1, 2] rfl
  refine va_calli (va_runV (As := [.int a1, .int a2, .int a3]) (rest := []) ⟨hx, hb, hml, hown, hts⟩ (c_canTry l dC dI s.heap.size x xs sh ss sc cS a1 a2 a3 f_xs_9 f_ss_0) (cwV 3 hts (p1_gV m_0 m_1 m_2 m_3 g_c_canTry gz_c_canTry) rfl rfl rfl (by decide +kernel) ⟨by decide, by decide⟩) ⟨fun a U g mk q => by obtain ⟨q0, q1, qP, qK, qD⟩ := q; exact ⟨q0, q1, qP, va_K.moved (u := U) (U := U.calling g mk a) (Vm.Alike.refl U.vm) qK, qD⟩, va_recv hKc hPc (ci := 7) (q0 := 0) rfl rfl, fun U hU hW => ⟨rfl, by rw [hU], by rw [hU]; exact hPc, va_K.moved hW.alike hKc, hDc.weaken (fun _ _ _ _ => trivial)⟩⟩ rfl rfl hl.1 rfl (lv_room (Nat.le_of_ble_eq_true rfl)) dX8_ends_4 ⟨by decide, by decide⟩) hS (fun q _ h => hFc q h) hFc (fun r_1 u t H1 locs ht hvm hw hB hz1 hk1 hS => ?_)
  obtain ⟨hP1, hK1, hD1⟩ := hB
  rw [ht] at hP1
  obtain ⟨hP, hD⟩ := va_join (wr := []) (w1 := [(x, .inr (7, xs)), (sh, .inr (5, ss)), (sc, .inl (cS, 5, .inl (fun _ => 0)))]) hP hD [0, 1, 2] [] rfl rfl (by decide) (by decide) hk1 hFc hP1 hD1
  generalize H1 = H at hP hS ⊢
  have hP : va_P (dC, dI) vwCl [(x, .inr (7, xs)), (sh, .inr (5, ss)), (sc, .inl (cS, 5, .inl (fun _ => 0)))] H := hP
  have hD : va_D A [(x, .inr (7, xs)), (sh, .inr (5, ss)), (sc, .inl (cS, 5, .inl (fun _ => 0)))] := hD
  try dsimp only at hw
  obtain rfl : r_1 = 0 := hw
  refine lv_if_eq (tgt := 22) hx hb dX8_ends_7 (by decide) (fun _ => ?_) (fun c9 => absurd c9 (by decide))
  refine lv_iconst (v := (-1)) hx hb dX8_ends_22 (by decide) ?_
  have hP9 := hP.sub (ws' := []) [] rfl
  have hD9 := hD.sub (ws' := []) [] (by decide) rfl
  have hK9 := hK.sub (tys' := []) [] rfl
  exact W.iret (v := (-1)) hx hb hr (fun t ht hW => ⟨⟨(-1), (), rfl, rfl, by rw [ht]; exact hP9, va_K.moved hW.alike hK9, hD9⟩, hS.F ht⟩) hS.2.2 dX8_ends_23
def zo_x_change : List Cond := [.code yX8_change cX8_change 9 (some .int), .methodLink RX8 208 yX8_canTry, .instanceMethod yX8_canTry, .selects RX8 yX8_canTry yX8_canTry, .initialized RX8]
def zw_x_change : List Cond := zo_x_change ++ (zw_c_canTry ++ [])
theorem gz_x_change : zw_x_change.all goodWord = true := p1_ga (by decide +kernel) (p1_ga gz_c_canTry p1_g0)
theorem iz_x_change : ∀ w ∈ zw_x_change, w ∈ lw_tbl := p1_ia (p1_all [933, 810, 812, 28, 104] (by decide +kernel)) (p1_ia iz_c_canTry p1_i0)
set_option maxHeartbeats 4000000 in
set_option maxRecDepth 100000 in
theorem x_change (l : Launch) (dC : Nat → ClassId) (dI : Nat → Nat → Nat) (sz : Nat) (x : Nat) (xs : List Value) (sh : Nat) (ss : List Value) (sc : Nat) (cS : ClassId) (a1 : Int32) (a2 : Int32) (a3 : Int32) (a4 : Int32) (a5 : Int32) (f_xs_9 : xs[9]? = some (.ref sh)) (f_ss_0 : ss[0]? = some (.ref sc)) : Met l yX8_change zw_x_change ({ frames := 2, cells := 0, slots := 0, locals := 45 }) (va_Pc [.ref x, .int a1, .int a2, .int a3, .int a4, .int a5] (fun U => U.heap.size = sz ∧ va_P (dC, dI) vwCl [(x, .inr (7, xs)), (sh, .inr (5, ss)), (sc, .inl (cS, 5, .inl (fun _ => 0)))] U.heap ∧ va_K (dC, dI) vwCl [(cS, .int)] U ∧ va_D (fun _ => True) [(x, .inr (7, xs)), (sh, .inr (5, ss)), (sc, .inl (cS, 5, .inl (fun _ => 0)))])) (va_Qi (fun (r : Int32) (_ : Unit) => r = (-1)) (fun _ t => va_P (dC, dI) vwCl [] t.heap ∧ va_K (dC, dI) vwCl [] t ∧ va_D (va_A [(x, .inr (7, xs)), (sh, .inr (5, ss)), (sc, .inl (cS, 5, .inl (fun _ => 0)))] sz) []) (va_A [(x, .inr (7, xs)), (sh, .inr (5, ss)), (sc, .inl (cS, 5, .inl (fun _ => 0)))] sz)) 0 0 (va_A [(x, .inr (7, xs)), (sh, .inr (5, ss)), (sc, .inl (cS, 5, .inl (fun _ => 0)))] sz) := by
  refine Met.ofW (cc := cX8_change) (maxL := 9) (ret := (some .int)) (by decide) rfl ?_
  intro p e s m args below meth c s₁ B hml hv
  obtain ⟨rfl, hsz, hP, hK, hD0⟩ := hv
  have hx := B.exec
  have hb := B.bytes
  have hr := B.returns
  have hts := atoms_spec (ws := zw_x_change) B.pre
  have hown : s.vm.findClass RX8 = some m.cls := findClass_of_methodNamed B.named
  have hlocks := B.notSynchronized
  subst hsz
  have hD := hD0.self (sz := s.heap.size)
  generalize hAe : va_A [(x, .inr (7, xs)), (sh, .inr (5, ss)), (sc, .inl (cS, 5, .inl (fun _ => 0)))] s.heap.size = A at hD ⊢
  have hA : ∀ q : Nat, s.heap.size ≤ q → A q := fun q h => by rw [← hAe]; exact Or.inr h
  have hS : va_S A s.heap s.heap [] := va_S.rf
  have hP : va_P (dC, dI) vwCl [(x, .inr (7, xs)), (sh, .inr (5, ss)), (sc, .inl (cS, 5, .inl (fun _ => 0)))] s.heap := hP
  have m_0 : (.methodLink RX8 208 yX8_canTry : Cond) ∈ zw_x_change := List.mem_append_left _ (List.mem_of_getElem? (i := 1) rfl)
  have k_0 := hts _ m_0
  have m_1 : (.instanceMethod yX8_canTry : Cond) ∈ zw_x_change := List.mem_append_left _ (List.mem_of_getElem? (i := 2) rfl)
  have k_1 := hts _ m_1
  have m_2 : (.selects RX8 yX8_canTry yX8_canTry : Cond) ∈ zw_x_change := List.mem_append_left _ (List.mem_of_getElem? (i := 3) rfl)
  have k_2 := hts _ m_2
  have m_3 : (.initialized RX8 : Cond) ∈ zw_x_change := List.mem_append_left _ (List.mem_of_getElem? (i := 4) rfl)
  have k_3 := hts _ m_3
  have g_c_canTry : ∀ w ∈ zw_c_canTry, w ∈ zw_x_change := fun w h => List.mem_append_right _ (List.mem_append_left _ h)
  have hl := lv_entry ([.ref x, .int a1, .int a2, .int a3, .int a4, .int a5]) (n := 9) (Nat.le_of_ble_eq_true rfl)
  rw [lg_entry_eq]
  generalize (lg_sl ([.ref x, .int a1, .int a2, .int a3, .int a4, .int a5]) ++ List.replicate (9 - (lg_sl ([.ref x, .int a1, .int a2, .int a3, .int a4, .int a5])).length) Slot.unset).toArray = ls at hl ⊢
  have hl : lv_has ls 9 [(0, .ref x), (1, .int a1), (2, .int a2), (3, .int a3), (4, .int a4), (5, .int a5)] := hl
  refine lv_aload_n hx hb dX8_change_0 rfl (lv_at hl 0 rfl) ?_
  refine lv_iload_n hx hb dX8_change_1 rfl (lv_at hl 1 rfl) ?_
  refine lv_iload_n hx hb dX8_change_2 rfl (lv_at hl 2 rfl) ?_
  refine lv_iload_n hx hb dX8_change_3 rfl (lv_at hl 3 rfl) ?_
  have hPc := hP.sub (ws' := [(x, .inr (7, xs)), (sh, .inr (5, ss)), (sc, .inl (cS, 5, .inl (fun _ => 0)))]) [0, 1, 2] rfl
  have hDc := hD.sub (ws' := [(x, .inr (7, xs)), (sh, .inr (5, ss)), (sc, .inl (cS, 5, .inl (fun _ => 0)))]) [0, 1, 2] (by decide) rfl
  have hKc := hK.sub (tys' := [(cS, .int)]) [0] rfl
  have hFc := va_free (wc := [(x, .inr (7, xs)), (sh, .inr (5, ss)), (sc, .inl (cS, 5, .inl (fun _ => 0)))]) hD hS hA [0, 1, 2] rfl
  refine va_calli (va_runV (As := [.int a1, .int a2, .int a3]) (rest := []) ⟨hx, hb, hml, hown, hts⟩ (c_canTry l dC dI s.heap.size x xs sh ss sc cS a1 a2 a3 f_xs_9 f_ss_0) (cwV 3 hts (p1_gV m_0 m_1 m_2 m_3 g_c_canTry gz_c_canTry) rfl rfl rfl (by decide +kernel) ⟨by decide, by decide⟩) ⟨fun a U g mk q => by obtain ⟨q0, q1, qP, qK, qD⟩ := q; exact ⟨q0, q1, qP, va_K.moved (u := U) (U := U.calling g mk a) (Vm.Alike.refl U.vm) qK, qD⟩, va_recv hKc hPc (ci := 7) (q0 := 0) rfl rfl, fun U hU hW => ⟨rfl, by rw [hU], by rw [hU]; exact hPc, va_K.moved hW.alike hKc, hDc.weaken (fun _ _ _ _ => trivial)⟩⟩ rfl rfl hl.1 rfl (lv_room (Nat.le_of_ble_eq_true rfl)) dX8_change_4 ⟨by decide, by decide⟩) hS (fun q _ h => hFc q h) hFc (fun r_1 u t H1 locs ht hvm hw hB hz1 hk1 hS => ?_)
  obtain ⟨hP1, hK1, hD1⟩ := hB
  rw [ht] at hP1
  obtain ⟨hP, hD⟩ := va_join (wr := []) (w1 := [(x, .inr (7, xs)), (sh, .inr (5, ss)), (sc, .inl (cS, 5, .inl (fun _ => 0)))]) hP hD [0, 1, 2] [] rfl rfl (by decide) (by decide) hk1 hFc hP1 hD1
  generalize H1 = H at hP hS ⊢
  have hP : va_P (dC, dI) vwCl [(x, .inr (7, xs)), (sh, .inr (5, ss)), (sc, .inl (cS, 5, .inl (fun _ => 0)))] H := hP
  have hD : va_D A [(x, .inr (7, xs)), (sh, .inr (5, ss)), (sc, .inl (cS, 5, .inl (fun _ => 0)))] := hD
  try dsimp only at hw
  obtain rfl : r_1 = 0 := hw
  refine lv_if_eq (tgt := 32) hx hb dX8_change_7 (by decide) (fun _ => ?_) (fun c9 => absurd c9 (by decide))
  refine lv_iconst (v := (-1)) hx hb dX8_change_32 (by decide) ?_
  have hP9 := hP.sub (ws' := []) [] rfl
  have hD9 := hD.sub (ws' := []) [] (by decide) rfl
  have hK9 := hK.sub (tys' := []) [] rfl
  exact W.iret (v := (-1)) hx hb hr (fun t ht hW => ⟨⟨(-1), (), rfl, rfl, by rw [ht]; exact hP9, va_K.moved hW.alike hK9, hD9⟩, hS.F ht⟩) hS.2.2 dX8_change_33
def zo_x_film : List Cond := [.code yX8_film cX8_film 7 (some .int), .fieldLink RX8 37 "BowWalk" "films" "LBowWalk$Films;", .fieldLink RX8 90 "BowWalk$Films" "count" "I", .fieldLink RX8 60 "BowWalk" "shop" "LBowWalk$Shop;", .methodLink RX8 104 yX5_has, .instanceMethod yX5_has, .selects RX5 yX5_has yX5_has, .initialized RX5]
def zw_x_film : List Cond := zo_x_film ++ (zw_c_has0 ++ (wsX80 ++ (wsX20 ++ [])))
theorem gz_x_film : zw_x_film.all goodWord = true := p1_ga (by decide +kernel) (p1_ga gz_c_has0 (p1_ga gk_X8 (p1_ga gk_X2 p1_g0)))
theorem iz_x_film : ∀ w ∈ zw_x_film, w ∈ lw_tbl := p1_ia (p1_all [941, 503, 457, 508, 714, 715, 716, 106] (by decide +kernel)) (p1_ia iz_c_has0 (p1_ia ik_X8 (p1_ia ik_X2 p1_i0)))
set_option maxHeartbeats 4000000 in
set_option maxRecDepth 100000 in
theorem x_film (l : Launch) (dC : Nat → ClassId) (dI : Nat → Nat → Nat) (sz : Nat) (x : Nat) (xs : List Value) (sh : Nat) (fl : Nat) (ss : List Value) (sc : Nat) (cS : ClassId) (ff : List Value) (a1 : Int32) (a2 : Int32) (a3 : Int32) (a4 : Int32) (a5 : Int32) (f_xs_9 : xs[9]? = some (.ref sh)) (f_xs_4 : xs[4]? = some (.ref fl)) (f_ss_0 : ss[0]? = some (.ref sc)) (f_ff_7 : ff[7]? = some (.int 0)) : Met l yX8_film zw_x_film ({ frames := 1, cells := 0, slots := 0, locals := 22 }) (va_Pc [.ref x, .int a1, .int a2, .int a3, .int a4, .int a5] (fun U => U.heap.size = sz ∧ va_P (dC, dI) vwCl [(x, .inr (7, xs)), (sh, .inr (5, ss)), (sc, .inl (cS, 5, .inl (fun _ => 0))), (fl, .inr (2, ff))] U.heap ∧ va_K (dC, dI) vwCl [(cS, .int)] U ∧ va_D (fun _ => True) [(x, .inr (7, xs)), (sh, .inr (5, ss)), (sc, .inl (cS, 5, .inl (fun _ => 0))), (fl, .inr (2, ff))])) (va_Qi (fun (r : Int32) (_ : Unit) => r = (-1)) (fun _ t => va_P (dC, dI) vwCl [] t.heap ∧ va_K (dC, dI) vwCl [] t ∧ va_D (va_A [(x, .inr (7, xs)), (sh, .inr (5, ss)), (sc, .inl (cS, 5, .inl (fun _ => 0))), (fl, .inr (2, ff))] sz) []) (va_A [(x, .inr (7, xs)), (sh, .inr (5, ss)), (sc, .inl (cS, 5, .inl (fun _ => 0))), (fl, .inr (2, ff))] sz)) 0 0 (va_A [(x, .inr (7, xs)), (sh, .inr (5, ss)), (sc, .inl (cS, 5, .inl (fun _ => 0))), (fl, .inr (2, ff))] sz) := by
  refine Met.ofW (cc := cX8_film) (maxL := 7) (ret := (some .int)) (by decide) rfl ?_
  intro p e s m args below meth c s₁ B hml hv
  obtain ⟨rfl, hsz, hP, hK, hD0⟩ := hv
  have hx := B.exec
  have hb := B.bytes
  have hr := B.returns
  have hts := atoms_spec (ws := zw_x_film) B.pre
  have hown : s.vm.findClass RX8 = some m.cls := findClass_of_methodNamed B.named
  have hlocks := B.notSynchronized
  subst hsz
  have hD := hD0.self (sz := s.heap.size)
  generalize hAe : va_A [(x, .inr (7, xs)), (sh, .inr (5, ss)), (sc, .inl (cS, 5, .inl (fun _ => 0))), (fl, .inr (2, ff))] s.heap.size = A at hD ⊢
  have hA : ∀ q : Nat, s.heap.size ≤ q → A q := fun q h => by rw [← hAe]; exact Or.inr h
  have hS : va_S A s.heap s.heap [] := va_S.rf
  have hP : va_P (dC, dI) vwCl [(x, .inr (7, xs)), (sh, .inr (5, ss)), (sc, .inl (cS, 5, .inl (fun _ => 0))), (fl, .inr (2, ff))] s.heap := hP
  have m_0 : (.fieldLink RX8 37 "BowWalk" "films" "LBowWalk$Films;" : Cond) ∈ zw_x_film := List.mem_append_left _ (List.mem_of_getElem? (i := 1) rfl)
  have k_0 := hts _ m_0
  have m_1 : (.fieldLink RX8 90 "BowWalk$Films" "count" "I" : Cond) ∈ zw_x_film := List.mem_append_left _ (List.mem_of_getElem? (i := 2) rfl)
  have k_1 := hts _ m_1
  have m_2 : (.fieldLink RX8 60 "BowWalk" "shop" "LBowWalk$Shop;" : Cond) ∈ zw_x_film := List.mem_append_left _ (List.mem_of_getElem? (i := 3) rfl)
  have k_2 := hts _ m_2
  have m_3 : (.methodLink RX8 104 yX5_has : Cond) ∈ zw_x_film := List.mem_append_left _ (List.mem_of_getElem? (i := 4) rfl)
  have k_3 := hts _ m_3
  have m_4 : (.instanceMethod yX5_has : Cond) ∈ zw_x_film := List.mem_append_left _ (List.mem_of_getElem? (i := 5) rfl)
  have k_4 := hts _ m_4
  have m_5 : (.selects RX5 yX5_has yX5_has : Cond) ∈ zw_x_film := List.mem_append_left _ (List.mem_of_getElem? (i := 6) rfl)
  have k_5 := hts _ m_5
  have m_6 : (.initialized RX5 : Cond) ∈ zw_x_film := List.mem_append_left _ (List.mem_of_getElem? (i := 7) rfl)
  have k_6 := hts _ m_6
  have g_c_has0 : ∀ w ∈ zw_c_has0, w ∈ zw_x_film := fun w h => List.mem_append_right _ (List.mem_append_left _ h)
  have i_X8 : ∀ w ∈ u_ws RX8 TX8 14, w ∈ zw_x_film := fun w h => List.mem_append_right _ (List.mem_append_right _ (List.mem_append_left _ h))
  have i_X2 : ∀ w ∈ u_ws RX2 TX2 8, w ∈ zw_x_film := fun w h => List.mem_append_right _ (List.mem_append_right _ (List.mem_append_right _ (List.mem_append_left _ h)))
  have hl := lv_entry ([.ref x, .int a1, .int a2, .int a3, .int a4, .int a5]) (n := 7) (Nat.le_of_ble_eq_true rfl)
  rw [lg_entry_eq]
  generalize (lg_sl ([.ref x, .int a1, .int a2, .int a3, .int a4, .int a5]) ++ List.replicate (7 - (lg_sl ([.ref x, .int a1, .int a2, .int a3, .int a4, .int a5])).length) Slot.unset).toArray = ls at hl ⊢
  have hl : lv_has ls 7 [(0, .ref x), (1, .int a1), (2, .int a2), (3, .int a3), (4, .int a4), (5, .int a5)] := hl
  refine lv_aload_n hx hb dX8_film_0 rfl (lv_at hl 0 rfl) ?_
  refine va_get (D := (dC, dI)) (ci := 7) (v := .ref fl) (C := RX8) (T := TX8) (N := 14) hx hb hts i_X8 hown hK hP 0 rfl rfl 4 (by decide) k_0 (fun _ h9 => h9) f_xs_4 dX8_film_1 ?_
  refine va_get (D := (dC, dI)) (ci := 2) (v := .int 0) (C := RX2) (T := TX2) (N := 8) hx hb hts i_X2 hown hK hP 3 rfl rfl 7 (by decide) k_1 (fun _ h9 => h9) f_ff_7 dX8_film_4 ?_
  refine lv_bipush (v := 40) hx hb dX8_film_7 (by decide) ?_
  refine lv_icmp_ge (tgt := 36) hx hb dX8_film_9 (by decide) (fun c9 => absurd c9 (by decide)) (fun _ => ?_)
  refine lv_aload_n hx hb dX8_film_12 rfl (lv_at hl 0 rfl) ?_
  refine va_get (D := (dC, dI)) (ci := 7) (v := .ref sh) (C := RX8) (T := TX8) (N := 14) hx hb hts i_X8 hown hK hP 0 rfl rfl 9 (by decide) k_2 (fun _ h9 => h9) f_xs_9 dX8_film_13 ?_
  refine lv_iconst (v := 0) hx hb dX8_film_16 (by decide) ?_
  refine lv_iload_n hx hb dX8_film_17 rfl (lv_at hl 1 rfl) ?_
  have hPc := hP.sub (ws' := [(sh, .inr (5, ss)), (sc, .inl (cS, 5, .inl (fun _ => 0)))]) [1, 2] rfl
  have hDc := hD.sub (ws' := [(sh, .inr (5, ss)), (sc, .inl (cS, 5, .inl (fun _ => 0)))]) [1, 2] (by decide) rfl
  have hKc := hK.sub (tys' := [(cS, .int)]) [0] rfl
  have hFc := va_free (wc := [(sh, .inr (5, ss)), (sc, .inl (cS, 5, .inl (fun _ => 0)))]) hD hS hA [1, 2] rfl
  refine va_calli (va_runV (As := [.int 0, .int a1]) (rest := []) ⟨hx, hb, hml, hown, hts⟩ (c_has0 l dC dI s.heap.size sh ss sc cS 0 a1 f_ss_0 (p1_in (i := 0) (n := 5) (by decide))) (cwV 2 hts (p1_gV m_3 m_4 m_5 m_6 g_c_has0 gz_c_has0) rfl rfl rfl (by decide +kernel) ⟨by decide, by decide⟩) ⟨fun a U g mk q => by obtain ⟨q0, q1, qP, qK, qD⟩ := q; exact ⟨q0, q1, qP, va_K.moved (u := U) (U := U.calling g mk a) (Vm.Alike.refl U.vm) qK, qD⟩, va_recv hKc hPc (ci := 5) (q0 := 0) rfl rfl, fun U hU hW => ⟨rfl, by rw [hU], by rw [hU]; exact hPc, va_K.moved hW.alike hKc, hDc.weaken (fun _ _ _ _ => trivial)⟩⟩ rfl rfl hl.1 rfl (lv_room (Nat.le_of_ble_eq_true rfl)) dX8_film_18 ⟨by decide, by decide⟩) hS (fun q _ h => hFc q h) hFc (fun r_1 u t H1 locs ht hvm hw hB hz1 hk1 hS => ?_)
  obtain ⟨hP1, hK1, hD1⟩ := hB
  rw [ht] at hP1
  obtain ⟨hP, hD⟩ := va_join (wr := [(x, .inr (7, xs)), (fl, .inr (2, ff))]) (w1 := [(sh, .inr (5, ss)), (sc, .inl (cS, 5, .inl (fun _ => 0)))]) hP hD [1, 2] [0, 3] rfl rfl (by decide) (by decide) hk1 hFc hP1 hD1
  generalize H1 = H at hP hS ⊢
  have hP : va_P (dC, dI) vwCl [(x, .inr (7, xs)), (fl, .inr (2, ff)), (sh, .inr (5, ss)), (sc, .inl (cS, 5, .inl (fun _ => 0)))] H := hP
  have hD : va_D A [(x, .inr (7, xs)), (fl, .inr (2, ff)), (sh, .inr (5, ss)), (sc, .inl (cS, 5, .inl (fun _ => 0)))] := hD
  try dsimp only at hw
  obtain rfl : r_1 = 0 := hw
  refine lv_if_eq (tgt := 36) hx hb dX8_film_21 (by decide) (fun _ => ?_) (fun c9 => absurd c9 (by decide))
  refine lv_iconst (v := (-1)) hx hb dX8_film_36 (by decide) ?_
  have hP9 := hP.sub (ws' := []) [] rfl
  have hD9 := hD.sub (ws' := []) [] (by decide) rfl
  have hK9 := hK.sub (tys' := []) [] rfl
  exact W.iret (v := (-1)) hx hb hr (fun t ht hW => ⟨⟨(-1), (), rfl, rfl, by rw [ht]; exact hP9, va_K.moved hW.alike hK9, hD9⟩, hS.F ht⟩) hS.2.2 dX8_film_37
def zo_x_untell : List Cond := [.code yX8_untell cX8_untell 2 (some .boolean), .fieldLink RX8 37 "BowWalk" "films" "LBowWalk$Films;", .fieldLink RX8 90 "BowWalk$Films" "count" "I", .methodLink RX8 150 yX8_within, .static yX8_within, .initialized RX8]
def zw_x_untell : List Cond := zo_x_untell ++ (zw_c_withinNeg ++ (wsX80 ++ (wsX20 ++ [])))
theorem gz_x_untell : zw_x_untell.all goodWord = true := p1_ga (by decide +kernel) (p1_ga gz_c_withinNeg (p1_ga gk_X8 (p1_ga gk_X2 p1_g0)))
theorem iz_x_untell : ∀ w ∈ zw_x_untell, w ∈ lw_tbl := p1_ia (p1_all [971, 503, 457, 749, 750, 104] (by decide +kernel)) (p1_ia iz_c_withinNeg (p1_ia ik_X8 (p1_ia ik_X2 p1_i0)))
set_option maxHeartbeats 4000000 in
set_option maxRecDepth 100000 in
theorem x_untell (l : Launch) (dC : Nat → ClassId) (dI : Nat → Nat → Nat) (sz : Nat) (x : Nat) (xs : List Value) (fl : Nat) (ff : List Value) (a1 : Int32) (f_xs_4 : xs[4]? = some (.ref fl)) (f_ff_7 : ff[7]? = some (.int 0)) : Met l yX8_untell zw_x_untell ({ frames := 1, cells := 0, slots := 0, locals := 22 }) (va_Pc [.ref x, .int a1] (fun U => U.heap.size = sz ∧ va_P (dC, dI) vwCl [(x, .inr (7, xs)), (fl, .inr (2, ff))] U.heap ∧ va_K (dC, dI) vwCl [] U ∧ va_D (fun _ => True) [(x, .inr (7, xs)), (fl, .inr (2, ff))])) (va_Qi (fun (r : Int32) (_ : Unit) => r = 0) (fun _ t => va_P (dC, dI) vwCl [] t.heap ∧ va_K (dC, dI) vwCl [] t ∧ va_D (va_A [(x, .inr (7, xs)), (fl, .inr (2, ff))] sz) []) (va_A [(x, .inr (7, xs)), (fl, .inr (2, ff))] sz)) 0 0 (va_A [(x, .inr (7, xs)), (fl, .inr (2, ff))] sz) := by
  refine Met.ofW (cc := cX8_untell) (maxL := 2) (ret := (some .boolean)) (by decide) rfl ?_
  intro p e s m args below meth c s₁ B hml hv
  obtain ⟨rfl, hsz, hP, hK, hD0⟩ := hv
  have hx := B.exec
  have hb := B.bytes
  have hr := B.returns
  have hts := atoms_spec (ws := zw_x_untell) B.pre
  have hown : s.vm.findClass RX8 = some m.cls := findClass_of_methodNamed B.named
  have hlocks := B.notSynchronized
  subst hsz
  have hD := hD0.self (sz := s.heap.size)
  generalize hAe : va_A [(x, .inr (7, xs)), (fl, .inr (2, ff))] s.heap.size = A at hD ⊢
  have hA : ∀ q : Nat, s.heap.size ≤ q → A q := fun q h => by rw [← hAe]; exact Or.inr h
  have hS : va_S A s.heap s.heap [] := va_S.rf
  have hP : va_P (dC, dI) vwCl [(x, .inr (7, xs)), (fl, .inr (2, ff))] s.heap := hP
  have m_0 : (.fieldLink RX8 37 "BowWalk" "films" "LBowWalk$Films;" : Cond) ∈ zw_x_untell := List.mem_append_left _ (List.mem_of_getElem? (i := 1) rfl)
  have k_0 := hts _ m_0
  have m_1 : (.fieldLink RX8 90 "BowWalk$Films" "count" "I" : Cond) ∈ zw_x_untell := List.mem_append_left _ (List.mem_of_getElem? (i := 2) rfl)
  have k_1 := hts _ m_1
  have m_2 : (.methodLink RX8 150 yX8_within : Cond) ∈ zw_x_untell := List.mem_append_left _ (List.mem_of_getElem? (i := 3) rfl)
  have k_2 := hts _ m_2
  have m_3 : (.static yX8_within : Cond) ∈ zw_x_untell := List.mem_append_left _ (List.mem_of_getElem? (i := 4) rfl)
  have k_3 := hts _ m_3
  have m_4 : (.initialized RX8 : Cond) ∈ zw_x_untell := List.mem_append_left _ (List.mem_of_getElem? (i := 5) rfl)
  have k_4 := hts _ m_4
  have g_c_withinNeg : ∀ w ∈ zw_c_withinNeg, w ∈ zw_x_untell := fun w h => List.mem_append_right _ (List.mem_append_left _ h)
  have i_X8 : ∀ w ∈ u_ws RX8 TX8 14, w ∈ zw_x_untell := fun w h => List.mem_append_right _ (List.mem_append_right _ (List.mem_append_left _ h))
  have i_X2 : ∀ w ∈ u_ws RX2 TX2 8, w ∈ zw_x_untell := fun w h => List.mem_append_right _ (List.mem_append_right _ (List.mem_append_right _ (List.mem_append_left _ h)))
  have hl := lv_entry ([.ref x, .int a1]) (n := 2) (Nat.le_of_ble_eq_true rfl)
  rw [lg_entry_eq]
  generalize (lg_sl ([.ref x, .int a1]) ++ List.replicate (2 - (lg_sl ([.ref x, .int a1])).length) Slot.unset).toArray = ls at hl ⊢
  have hl : lv_has ls 2 [(0, .ref x), (1, .int a1)] := hl
  refine lv_iload_n hx hb dX8_untell_0 rfl (lv_at hl 1 rfl) ?_
  refine lv_iconst (v := 0) hx hb dX8_untell_1 (by decide) ?_
  refine lv_aload_n hx hb dX8_untell_2 rfl (lv_at hl 0 rfl) ?_
  refine va_get (D := (dC, dI)) (ci := 7) (v := .ref fl) (C := RX8) (T := TX8) (N := 14) hx hb hts i_X8 hown hK hP 0 rfl rfl 4 (by decide) k_0 (fun _ h9 => h9) f_xs_4 dX8_untell_3 ?_
  refine va_get (D := (dC, dI)) (ci := 2) (v := .int 0) (C := RX2) (T := TX2) (N := 8) hx hb hts i_X2 hown hK hP 1 rfl rfl 7 (by decide) k_1 (fun _ h9 => h9) f_ff_7 dX8_untell_6 ?_
  refine lv_iconst (v := 1) hx hb dX8_untell_9 (by decide) ?_
  refine lv_isub hx hb dX8_untell_10 ?_
  refine lv_topi (fun v_1 ev_1 => ?_)
  obtain rfl : v_1 = (-1) := ev_1.trans (by decide)
  have hPc := hP.sub (ws' := []) [] rfl
  have hDc := hD.sub (ws' := []) [] (by decide) rfl
  have hKc := hK.sub (tys' := []) [] rfl
  have hFc := va_free (wc := []) hD hS hA [] rfl
  refine va_calli (va_runS (As := [.int a1, .int 0, .int (-1)]) (rest := []) ⟨hx, hb, hml, hown, hts⟩ (c_withinNeg l dC dI s.heap.size a1) (va_cwS 3 hts (p1_gS m_2 m_3 m_4 g_c_withinNeg gz_c_withinNeg) rfl rfl rfl (by decide +kernel) ⟨by decide, by decide⟩) ⟨fun a U g mk q => by obtain ⟨q0, q1, qP, qK, qD⟩ := q; exact ⟨q0, q1, qP, va_K.moved (u := U) (U := U.calling g mk a) (Vm.Alike.refl U.vm) qK, qD⟩, fun U hU hW => ⟨rfl, by rw [hU], by rw [hU]; exact hPc, va_K.moved hW.alike hKc, hDc.weaken (fun _ _ _ _ => trivial)⟩⟩ rfl rfl hl.1 rfl (lv_room (Nat.le_of_ble_eq_true rfl)) dX8_untell_11 ⟨by decide, by decide⟩) hS (fun q _ h => hFc q h) hFc (fun r_2 u t H1 locs ht hvm hw hB hz1 hk1 hS => ?_)
  obtain ⟨hP1, hK1, hD1⟩ := hB
  rw [ht] at hP1
  obtain ⟨hP, hD⟩ := va_join (wr := [(x, .inr (7, xs)), (fl, .inr (2, ff))]) (w1 := []) hP hD [] [0, 1] rfl rfl (by decide) (by decide) hk1 hFc hP1 hD1
  generalize H1 = H at hP hS ⊢
  have hP : va_P (dC, dI) vwCl [(x, .inr (7, xs)), (fl, .inr (2, ff))] H := hP
  have hD : va_D A [(x, .inr (7, xs)), (fl, .inr (2, ff))] := hD
  try dsimp only at hw
  obtain rfl : r_2 = 0 := hw
  refine lv_if_eq (tgt := 29) hx hb dX8_untell_14 (by decide) (fun _ => ?_) (fun c9 => absurd c9 (by decide))
  refine lv_iconst (v := 0) hx hb dX8_untell_29 (by decide) ?_
  have hP9 := hP.sub (ws' := []) [] rfl
  have hD9 := hD.sub (ws' := []) [] (by decide) rfl
  have hK9 := hK.sub (tys' := []) [] rfl
  exact W.zret (v := 0) hx hb hr (by decide) (fun t ht hW => ⟨⟨0, (), rfl, rfl, by rw [ht]; exact hP9, va_K.moved hW.alike hK9, hD9⟩, hS.F ht⟩) hS.2.2 dX8_untell_30
def zo_x_began : List Cond := [.code yX8_began cX8_began 3 (some .int), .fieldLink RX8 37 "BowWalk" "films" "LBowWalk$Films;", .fieldLink RX8 90 "BowWalk$Films" "count" "I", .methodLink RX8 150 yX8_within, .static yX8_within, .initialized RX8]
def zw_x_began : List Cond := zo_x_began ++ (zw_c_withinNeg ++ (wsX80 ++ (wsX20 ++ [])))
theorem gz_x_began : zw_x_began.all goodWord = true := p1_ga (by decide +kernel) (p1_ga gz_c_withinNeg (p1_ga gk_X8 (p1_ga gk_X2 p1_g0)))
theorem iz_x_began : ∀ w ∈ zw_x_began, w ∈ lw_tbl := p1_ia (p1_all [1000, 503, 457, 749, 750, 104] (by decide +kernel)) (p1_ia iz_c_withinNeg (p1_ia ik_X8 (p1_ia ik_X2 p1_i0)))
set_option maxHeartbeats 4000000 in
set_option maxRecDepth 100000 in
theorem x_began (l : Launch) (dC : Nat → ClassId) (dI : Nat → Nat → Nat) (sz : Nat) (x : Nat) (xs : List Value) (fl : Nat) (ff : List Value) (a1 : Int32) (a2 : Int32) (f_xs_4 : xs[4]? = some (.ref fl)) (f_ff_7 : ff[7]? = some (.int 0)) : Met l yX8_began zw_x_began ({ frames := 1, cells := 0, slots := 0, locals := 22 }) (va_Pc [.ref x, .int a1, .int a2] (fun U => U.heap.size = sz ∧ va_P (dC, dI) vwCl [(x, .inr (7, xs)), (fl, .inr (2, ff))] U.heap ∧ va_K (dC, dI) vwCl [] U ∧ va_D (fun _ => True) [(x, .inr (7, xs)), (fl, .inr (2, ff))])) (va_Qi (fun (r : Int32) (_ : Unit) => r = (-1)) (fun _ t => va_P (dC, dI) vwCl [] t.heap ∧ va_K (dC, dI) vwCl [] t ∧ va_D (va_A [(x, .inr (7, xs)), (fl, .inr (2, ff))] sz) []) (va_A [(x, .inr (7, xs)), (fl, .inr (2, ff))] sz)) 0 0 (va_A [(x, .inr (7, xs)), (fl, .inr (2, ff))] sz) := by
  refine Met.ofW (cc := cX8_began) (maxL := 3) (ret := (some .int)) (by decide) rfl ?_
  intro p e s m args below meth c s₁ B hml hv
  obtain ⟨rfl, hsz, hP, hK, hD0⟩ := hv
  have hx := B.exec
  have hb := B.bytes
  have hr := B.returns
  have hts := atoms_spec (ws := zw_x_began) B.pre
  have hown : s.vm.findClass RX8 = some m.cls := findClass_of_methodNamed B.named
  have hlocks := B.notSynchronized
  subst hsz
  have hD := hD0.self (sz := s.heap.size)
  generalize hAe : va_A [(x, .inr (7, xs)), (fl, .inr (2, ff))] s.heap.size = A at hD ⊢
  have hA : ∀ q : Nat, s.heap.size ≤ q → A q := fun q h => by rw [← hAe]; exact Or.inr h
  have hS : va_S A s.heap s.heap [] := va_S.rf
  have hP : va_P (dC, dI) vwCl [(x, .inr (7, xs)), (fl, .inr (2, ff))] s.heap := hP
  have m_0 : (.fieldLink RX8 37 "BowWalk" "films" "LBowWalk$Films;" : Cond) ∈ zw_x_began := List.mem_append_left _ (List.mem_of_getElem? (i := 1) rfl)
  have k_0 := hts _ m_0
  have m_1 : (.fieldLink RX8 90 "BowWalk$Films" "count" "I" : Cond) ∈ zw_x_began := List.mem_append_left _ (List.mem_of_getElem? (i := 2) rfl)
  have k_1 := hts _ m_1
  have m_2 : (.methodLink RX8 150 yX8_within : Cond) ∈ zw_x_began := List.mem_append_left _ (List.mem_of_getElem? (i := 3) rfl)
  have k_2 := hts _ m_2
  have m_3 : (.static yX8_within : Cond) ∈ zw_x_began := List.mem_append_left _ (List.mem_of_getElem? (i := 4) rfl)
  have k_3 := hts _ m_3
  have m_4 : (.initialized RX8 : Cond) ∈ zw_x_began := List.mem_append_left _ (List.mem_of_getElem? (i := 5) rfl)
  have k_4 := hts _ m_4
  have g_c_withinNeg : ∀ w ∈ zw_c_withinNeg, w ∈ zw_x_began := fun w h => List.mem_append_right _ (List.mem_append_left _ h)
  have i_X8 : ∀ w ∈ u_ws RX8 TX8 14, w ∈ zw_x_began := fun w h => List.mem_append_right _ (List.mem_append_right _ (List.mem_append_left _ h))
  have i_X2 : ∀ w ∈ u_ws RX2 TX2 8, w ∈ zw_x_began := fun w h => List.mem_append_right _ (List.mem_append_right _ (List.mem_append_right _ (List.mem_append_left _ h)))
  have hl := lv_entry ([.ref x, .int a1, .int a2]) (n := 3) (Nat.le_of_ble_eq_true rfl)
  rw [lg_entry_eq]
  generalize (lg_sl ([.ref x, .int a1, .int a2]) ++ List.replicate (3 - (lg_sl ([.ref x, .int a1, .int a2])).length) Slot.unset).toArray = ls at hl ⊢
  have hl : lv_has ls 3 [(0, .ref x), (1, .int a1), (2, .int a2)] := hl
  refine lv_iload_n hx hb dX8_began_0 rfl (lv_at hl 1 rfl) ?_
  refine lv_iconst (v := 0) hx hb dX8_began_1 (by decide) ?_
  refine lv_aload_n hx hb dX8_began_2 rfl (lv_at hl 0 rfl) ?_
  refine va_get (D := (dC, dI)) (ci := 7) (v := .ref fl) (C := RX8) (T := TX8) (N := 14) hx hb hts i_X8 hown hK hP 0 rfl rfl 4 (by decide) k_0 (fun _ h9 => h9) f_xs_4 dX8_began_3 ?_
  refine va_get (D := (dC, dI)) (ci := 2) (v := .int 0) (C := RX2) (T := TX2) (N := 8) hx hb hts i_X2 hown hK hP 1 rfl rfl 7 (by decide) k_1 (fun _ h9 => h9) f_ff_7 dX8_began_6 ?_
  refine lv_iconst (v := 1) hx hb dX8_began_9 (by decide) ?_
  refine lv_isub hx hb dX8_began_10 ?_
  refine lv_topi (fun v_1 ev_1 => ?_)
  obtain rfl : v_1 = (-1) := ev_1.trans (by decide)
  have hPc := hP.sub (ws' := []) [] rfl
  have hDc := hD.sub (ws' := []) [] (by decide) rfl
  have hKc := hK.sub (tys' := []) [] rfl
  have hFc := va_free (wc := []) hD hS hA [] rfl
  refine va_calli (va_runS (As := [.int a1, .int 0, .int (-1)]) (rest := []) ⟨hx, hb, hml, hown, hts⟩ (c_withinNeg l dC dI s.heap.size a1) (va_cwS 3 hts (p1_gS m_2 m_3 m_4 g_c_withinNeg gz_c_withinNeg) rfl rfl rfl (by decide +kernel) ⟨by decide, by decide⟩) ⟨fun a U g mk q => by obtain ⟨q0, q1, qP, qK, qD⟩ := q; exact ⟨q0, q1, qP, va_K.moved (u := U) (U := U.calling g mk a) (Vm.Alike.refl U.vm) qK, qD⟩, fun U hU hW => ⟨rfl, by rw [hU], by rw [hU]; exact hPc, va_K.moved hW.alike hKc, hDc.weaken (fun _ _ _ _ => trivial)⟩⟩ rfl rfl hl.1 rfl (lv_room (Nat.le_of_ble_eq_true rfl)) dX8_began_11 ⟨by decide, by decide⟩) hS (fun q _ h => hFc q h) hFc (fun r_2 u t H1 locs ht hvm hw hB hz1 hk1 hS => ?_)
  obtain ⟨hP1, hK1, hD1⟩ := hB
  rw [ht] at hP1
  obtain ⟨hP, hD⟩ := va_join (wr := [(x, .inr (7, xs)), (fl, .inr (2, ff))]) (w1 := []) hP hD [] [0, 1] rfl rfl (by decide) (by decide) hk1 hFc hP1 hD1
  generalize H1 = H at hP hS ⊢
  have hP : va_P (dC, dI) vwCl [(x, .inr (7, xs)), (fl, .inr (2, ff))] H := hP
  have hD : va_D A [(x, .inr (7, xs)), (fl, .inr (2, ff))] := hD
  try dsimp only at hw
  obtain rfl : r_2 = 0 := hw
  refine lv_if_eq (tgt := 28) hx hb dX8_began_14 (by decide) (fun _ => ?_) (fun c9 => absurd c9 (by decide))
  refine lv_iconst (v := (-1)) hx hb dX8_began_28 (by decide) ?_
  have hP9 := hP.sub (ws' := []) [] rfl
  have hD9 := hD.sub (ws' := []) [] (by decide) rfl
  have hK9 := hK.sub (tys' := []) [] rfl
  exact W.iret (v := (-1)) hx hb hr (fun t ht hW => ⟨⟨(-1), (), rfl, rfl, by rw [ht]; exact hP9, va_K.moved hW.alike hK9, hD9⟩, hS.F ht⟩) hS.2.2 dX8_began_29
def zo_x_parts : List Cond := [.code yX8_parts cX8_parts 10 (some .int), .fieldLink RX8 60 "BowWalk" "shop" "LBowWalk$Shop;", .methodLink RX8 104 yX5_has, .instanceMethod yX5_has, .selects RX5 yX5_has yX5_has, .initialized RX5]
def zw_x_parts : List Cond := zo_x_parts ++ (zw_c_has0 ++ (wsX80 ++ []))
theorem gz_x_parts : zw_x_parts.all goodWord = true := p1_ga (by decide +kernel) (p1_ga gz_c_has0 (p1_ga gk_X8 p1_g0))
theorem iz_x_parts : ∀ w ∈ zw_x_parts, w ∈ lw_tbl := p1_ia (p1_all [987, 508, 714, 715, 716, 106] (by decide +kernel)) (p1_ia iz_c_has0 (p1_ia ik_X8 p1_i0))
set_option maxHeartbeats 4000000 in
set_option maxRecDepth 100000 in
theorem x_parts (l : Launch) (dC : Nat → ClassId) (dI : Nat → Nat → Nat) (sz : Nat) (x : Nat) (xs : List Value) (sh : Nat) (ss : List Value) (sc : Nat) (cS : ClassId) (a1 : Int32) (a2 : Int32) (a3 : Int32) (a4 : Int32) (f_xs_9 : xs[9]? = some (.ref sh)) (f_ss_0 : ss[0]? = some (.ref sc)) : Met l yX8_parts zw_x_parts ({ frames := 1, cells := 0, slots := 0, locals := 22 }) (va_Pc [.ref x, .int a1, .int a2, .int a3, .int a4] (fun U => U.heap.size = sz ∧ va_P (dC, dI) vwCl [(x, .inr (7, xs)), (sh, .inr (5, ss)), (sc, .inl (cS, 5, .inl (fun _ => 0)))] U.heap ∧ va_K (dC, dI) vwCl [(cS, .int)] U ∧ va_D (fun _ => True) [(x, .inr (7, xs)), (sh, .inr (5, ss)), (sc, .inl (cS, 5, .inl (fun _ => 0)))])) (va_Qi (fun (r : Int32) (_ : Unit) => r = (-1)) (fun _ t => va_P (dC, dI) vwCl [] t.heap ∧ va_K (dC, dI) vwCl [] t ∧ va_D (va_A [(x, .inr (7, xs)), (sh, .inr (5, ss)), (sc, .inl (cS, 5, .inl (fun _ => 0)))] sz) []) (va_A [(x, .inr (7, xs)), (sh, .inr (5, ss)), (sc, .inl (cS, 5, .inl (fun _ => 0)))] sz)) 0 0 (va_A [(x, .inr (7, xs)), (sh, .inr (5, ss)), (sc, .inl (cS, 5, .inl (fun _ => 0)))] sz) := by
  refine Met.ofW (cc := cX8_parts) (maxL := 10) (ret := (some .int)) (by decide) rfl ?_
  intro p e s m args below meth c s₁ B hml hv
  obtain ⟨rfl, hsz, hP, hK, hD0⟩ := hv
  have hx := B.exec
  have hb := B.bytes
  have hr := B.returns
  have hts := atoms_spec (ws := zw_x_parts) B.pre
  have hown : s.vm.findClass RX8 = some m.cls := findClass_of_methodNamed B.named
  have hlocks := B.notSynchronized
  subst hsz
  have hD := hD0.self (sz := s.heap.size)
  generalize hAe : va_A [(x, .inr (7, xs)), (sh, .inr (5, ss)), (sc, .inl (cS, 5, .inl (fun _ => 0)))] s.heap.size = A at hD ⊢
  have hA : ∀ q : Nat, s.heap.size ≤ q → A q := fun q h => by rw [← hAe]; exact Or.inr h
  have hS : va_S A s.heap s.heap [] := va_S.rf
  have hP : va_P (dC, dI) vwCl [(x, .inr (7, xs)), (sh, .inr (5, ss)), (sc, .inl (cS, 5, .inl (fun _ => 0)))] s.heap := hP
  have m_0 : (.fieldLink RX8 60 "BowWalk" "shop" "LBowWalk$Shop;" : Cond) ∈ zw_x_parts := List.mem_append_left _ (List.mem_of_getElem? (i := 1) rfl)
  have k_0 := hts _ m_0
  have m_1 : (.methodLink RX8 104 yX5_has : Cond) ∈ zw_x_parts := List.mem_append_left _ (List.mem_of_getElem? (i := 2) rfl)
  have k_1 := hts _ m_1
  have m_2 : (.instanceMethod yX5_has : Cond) ∈ zw_x_parts := List.mem_append_left _ (List.mem_of_getElem? (i := 3) rfl)
  have k_2 := hts _ m_2
  have m_3 : (.selects RX5 yX5_has yX5_has : Cond) ∈ zw_x_parts := List.mem_append_left _ (List.mem_of_getElem? (i := 4) rfl)
  have k_3 := hts _ m_3
  have m_4 : (.initialized RX5 : Cond) ∈ zw_x_parts := List.mem_append_left _ (List.mem_of_getElem? (i := 5) rfl)
  have k_4 := hts _ m_4
  have g_c_has0 : ∀ w ∈ zw_c_has0, w ∈ zw_x_parts := fun w h => List.mem_append_right _ (List.mem_append_left _ h)
  have i_X8 : ∀ w ∈ u_ws RX8 TX8 14, w ∈ zw_x_parts := fun w h => List.mem_append_right _ (List.mem_append_right _ (List.mem_append_left _ h))
  have hl := lv_entry ([.ref x, .int a1, .int a2, .int a3, .int a4]) (n := 10) (Nat.le_of_ble_eq_true rfl)
  rw [lg_entry_eq]
  generalize (lg_sl ([.ref x, .int a1, .int a2, .int a3, .int a4]) ++ List.replicate (10 - (lg_sl ([.ref x, .int a1, .int a2, .int a3, .int a4])).length) Slot.unset).toArray = ls at hl ⊢
  have hl : lv_has ls 10 [(0, .ref x), (1, .int a1), (2, .int a2), (3, .int a3), (4, .int a4)] := hl
  refine lv_aload_n hx hb dX8_parts_0 rfl (lv_at hl 0 rfl) ?_
  refine va_get (D := (dC, dI)) (ci := 7) (v := .ref sh) (C := RX8) (T := TX8) (N := 14) hx hb hts i_X8 hown hK hP 0 rfl rfl 9 (by decide) k_0 (fun _ h9 => h9) f_xs_9 dX8_parts_1 ?_
  refine lv_iconst (v := 0) hx hb dX8_parts_4 (by decide) ?_
  refine lv_iload_n hx hb dX8_parts_5 rfl (lv_at hl 1 rfl) ?_
  have hPc := hP.sub (ws' := [(sh, .inr (5, ss)), (sc, .inl (cS, 5, .inl (fun _ => 0)))]) [1, 2] rfl
  have hDc := hD.sub (ws' := [(sh, .inr (5, ss)), (sc, .inl (cS, 5, .inl (fun _ => 0)))]) [1, 2] (by decide) rfl
  have hKc := hK.sub (tys' := [(cS, .int)]) [0] rfl
  have hFc := va_free (wc := [(sh, .inr (5, ss)), (sc, .inl (cS, 5, .inl (fun _ => 0)))]) hD hS hA [1, 2] rfl
  refine va_calli (va_runV (As := [.int 0, .int a1]) (rest := []) ⟨hx, hb, hml, hown, hts⟩ (c_has0 l dC dI s.heap.size sh ss sc cS 0 a1 f_ss_0 (p1_in (i := 0) (n := 5) (by decide))) (cwV 2 hts (p1_gV m_1 m_2 m_3 m_4 g_c_has0 gz_c_has0) rfl rfl rfl (by decide +kernel) ⟨by decide, by decide⟩) ⟨fun a U g mk q => by obtain ⟨q0, q1, qP, qK, qD⟩ := q; exact ⟨q0, q1, qP, va_K.moved (u := U) (U := U.calling g mk a) (Vm.Alike.refl U.vm) qK, qD⟩, va_recv hKc hPc (ci := 5) (q0 := 0) rfl rfl, fun U hU hW => ⟨rfl, by rw [hU], by rw [hU]; exact hPc, va_K.moved hW.alike hKc, hDc.weaken (fun _ _ _ _ => trivial)⟩⟩ rfl rfl hl.1 rfl (lv_room (Nat.le_of_ble_eq_true rfl)) dX8_parts_6 ⟨by decide, by decide⟩) hS (fun q _ h => hFc q h) hFc (fun r_1 u t H1 locs ht hvm hw hB hz1 hk1 hS => ?_)
  obtain ⟨hP1, hK1, hD1⟩ := hB
  rw [ht] at hP1
  obtain ⟨hP, hD⟩ := va_join (wr := [(x, .inr (7, xs))]) (w1 := [(sh, .inr (5, ss)), (sc, .inl (cS, 5, .inl (fun _ => 0)))]) hP hD [1, 2] [0] rfl rfl (by decide) (by decide) hk1 hFc hP1 hD1
  generalize H1 = H at hP hS ⊢
  have hP : va_P (dC, dI) vwCl [(x, .inr (7, xs)), (sh, .inr (5, ss)), (sc, .inl (cS, 5, .inl (fun _ => 0)))] H := hP
  have hD : va_D A [(x, .inr (7, xs)), (sh, .inr (5, ss)), (sc, .inl (cS, 5, .inl (fun _ => 0)))] := hD
  try dsimp only at hw
  obtain rfl : r_1 = 0 := hw
  refine lv_if_eq (tgt := 32) hx hb dX8_parts_9 (by decide) (fun _ => ?_) (fun c9 => absurd c9 (by decide))
  refine lv_iconst (v := (-1)) hx hb dX8_parts_32 (by decide) ?_
  have hP9 := hP.sub (ws' := []) [] rfl
  have hD9 := hD.sub (ws' := []) [] (by decide) rfl
  have hK9 := hK.sub (tys' := []) [] rfl
  exact W.iret (v := (-1)) hx hb hr (fun t ht hW => ⟨⟨(-1), (), rfl, rfl, by rw [ht]; exact hP9, va_K.moved hW.alike hK9, hD9⟩, hS.F ht⟩) hS.2.2 dX8_parts_33
def zo_x_seed : List Cond := [.code yX8_seed cX8_seed 3 (some .int), .fieldLink RX8 72 "BowWalk" "w" "I"]
def zw_x_seed : List Cond := zo_x_seed ++ (wsX80 ++ [])
theorem gz_x_seed : zw_x_seed.all goodWord = true := p1_ga (by decide +kernel) (p1_ga gk_X8 p1_g0)
theorem iz_x_seed : ∀ w ∈ zw_x_seed, w ∈ lw_tbl := p1_ia (p1_all [1008, 511] (by decide +kernel)) (p1_ia ik_X8 p1_i0)
set_option maxHeartbeats 4000000 in
set_option maxRecDepth 100000 in
theorem x_seed (l : Launch) (dC : Nat → ClassId) (dI : Nat → Nat → Nat) (sz : Nat) (x : Nat) (xs : List Value) (a1 : Int32) (f_xs_12 : xs[12]? = some (.int 1)) (l_xs : xs.length = 14) : Met l yX8_seed zw_x_seed ({ frames := 0, cells := 0, slots := 0, locals := 0 }) (va_Pc [.ref x, .int a1] (fun U => U.heap.size = sz ∧ va_P (dC, dI) vwCl [(x, .inr (7, xs))] U.heap ∧ va_K (dC, dI) vwCl [] U ∧ va_D (fun _ => True) [(x, .inr (7, xs))])) (va_Qi (fun (r : Int32) (_ : Unit) => r = 1) (fun _ t => va_P (dC, dI) vwCl [] t.heap ∧ va_K (dC, dI) vwCl [] t ∧ va_D (va_A [(x, .inr (7, xs))] sz) []) (va_A [(x, .inr (7, xs))] sz)) 0 0 (va_A [(x, .inr (7, xs))] sz) := by
  refine Met.ofW (cc := cX8_seed) (maxL := 3) (ret := (some .int)) (by decide) rfl ?_
  intro p e s m args below meth c s₁ B hml hv
  obtain ⟨rfl, hsz, hP, hK, hD0⟩ := hv
  have hx := B.exec
  have hb := B.bytes
  have hr := B.returns
  have hts := atoms_spec (ws := zw_x_seed) B.pre
  have hown : s.vm.findClass RX8 = some m.cls := findClass_of_methodNamed B.named
  have hlocks := B.notSynchronized
  subst hsz
  have hD := hD0.self (sz := s.heap.size)
  generalize hAe : va_A [(x, .inr (7, xs))] s.heap.size = A at hD ⊢
  have hA : ∀ q : Nat, s.heap.size ≤ q → A q := fun q h => by rw [← hAe]; exact Or.inr h
  have hS : va_S A s.heap s.heap [] := va_S.rf
  have hP : va_P (dC, dI) vwCl [(x, .inr (7, xs))] s.heap := hP
  have m_0 : (.fieldLink RX8 72 "BowWalk" "w" "I" : Cond) ∈ zw_x_seed := List.mem_append_left _ (List.mem_of_getElem? (i := 1) rfl)
  have k_0 := hts _ m_0
  have i_X8 : ∀ w ∈ u_ws RX8 TX8 14, w ∈ zw_x_seed := fun w h => List.mem_append_right _ (List.mem_append_left _ h)
  have hl := lv_entry ([.ref x, .int a1]) (n := 3) (Nat.le_of_ble_eq_true rfl)
  rw [lg_entry_eq]
  generalize (lg_sl ([.ref x, .int a1]) ++ List.replicate (3 - (lg_sl ([.ref x, .int a1])).length) Slot.unset).toArray = ls at hl ⊢
  have hl : lv_has ls 3 [(0, .ref x), (1, .int a1)] := hl
  refine lv_aload_n hx hb dX8_seed_0 rfl (lv_at hl 0 rfl) ?_
  refine va_get (D := (dC, dI)) (ci := 7) (v := .int 1) (C := RX8) (T := TX8) (N := 14) hx hb hts i_X8 hown hK hP 0 rfl rfl 12 (by decide) k_0 (fun _ h9 => h9) f_xs_12 dX8_seed_1 ?_
  refine lv_istore_n (lv' := [(2, .int 1), (0, .ref x), (1, .int a1)]) hx hb dX8_seed_4 rfl hl (by decide) rfl (fun ls hl => ?_)
  refine lv_aload_n hx hb dX8_seed_5 rfl (lv_at hl 1 rfl) ?_
  refine lv_iload_n hx hb dX8_seed_6 rfl (lv_at hl 2 rfl) ?_
  refine va_put (D := (dC, dI)) (ci := 7) (v := .int a1) (ty := .int) (C := RX8) (T := TX8) (N := 14) hx hb hts i_X8 tyX8 tyX8_ok nmX8 hown hK hP hD hS 0 rfl rfl 12 (by decide) k_0 (fun _ h9 => h9) rfl (by decide +kernel) rfl rfl (by rw [l_xs]; decide) dX8_seed_7 (fun H locs hP hD hS => ?_)
  have hP : va_P (dC, dI) vwCl [(x, .inr (7, (xs.set 12 (.int a1))))] H := hP
  have hD : va_D A [(x, .inr (7, (xs.set 12 (.int a1))))] := hD
  generalize efs_1 : (xs.set 12 (.int a1)) = fs_1 at hP hD
  have lfs_1 : fs_1.length = 14 := by rw [← efs_1, List.length_set]; exact l_xs
  have ffs_1_12 : fs_1[12]? = some (.int a1) := by rw [← efs_1]; exact p1_sa l_xs (by decide)
  refine lv_iload_n hx hb dX8_seed_10 rfl (lv_at hl 0 rfl) ?_
  have hP9 := hP.sub (ws' := []) [] rfl
  have hD9 := hD.sub (ws' := []) [] (by decide) rfl
  have hK9 := hK.sub (tys' := []) [] rfl
  exact W.iret (v := 1) hx hb hr (fun t ht hW => ⟨⟨1, (), rfl, rfl, by rw [ht]; exact hP9, va_K.moved hW.alike hK9, hD9⟩, hS.F ht⟩) hS.2.2 dX8_seed_11
def zo_x_end : List Cond := [.code yX8_end cX8_end 2 (some .int), .fieldLink RX8 64 "BowWalk" "tapeLength" "I"]
def zw_x_end : List Cond := zo_x_end ++ (wsX80 ++ [])
theorem gz_x_end : zw_x_end.all goodWord = true := p1_ga (by decide +kernel) (p1_ga gk_X8 p1_g0)
theorem iz_x_end : ∀ w ∈ zw_x_end, w ∈ lw_tbl := p1_ia (p1_all [553, 509] (by decide +kernel)) (p1_ia ik_X8 p1_i0)
set_option maxHeartbeats 4000000 in
set_option maxRecDepth 100000 in
theorem x_end (l : Launch) (dC : Nat → ClassId) (dI : Nat → Nat → Nat) (sz : Nat) (x : Nat) (xs : List Value) (a1 : Int32) (f_xs_10 : xs[10]? = some (.int 0)) (l_xs : xs.length = 14) : Met l yX8_end zw_x_end ({ frames := 0, cells := 0, slots := 0, locals := 0 }) (va_Pc [.ref x, .int a1] (fun U => U.heap.size = sz ∧ va_P (dC, dI) vwCl [(x, .inr (7, xs))] U.heap ∧ va_K (dC, dI) vwCl [] U ∧ va_D (fun _ => True) [(x, .inr (7, xs))])) (va_Qi (fun (r : Int32) (_ : Unit) => r = p1_end a1) (fun _ t => va_P (dC, dI) vwCl [] t.heap ∧ va_K (dC, dI) vwCl [] t ∧ va_D (va_A [(x, .inr (7, xs))] sz) []) (va_A [(x, .inr (7, xs))] sz)) 0 0 (va_A [(x, .inr (7, xs))] sz) := by
  refine Met.ofW (cc := cX8_end) (maxL := 2) (ret := (some .int)) (by decide) rfl ?_
  intro p e s m args below meth c s₁ B hml hv
  obtain ⟨rfl, hsz, hP, hK, hD0⟩ := hv
  have hx := B.exec
  have hb := B.bytes
  have hr := B.returns
  have hts := atoms_spec (ws := zw_x_end) B.pre
  have hown : s.vm.findClass RX8 = some m.cls := findClass_of_methodNamed B.named
  have hlocks := B.notSynchronized
  subst hsz
  have hD := hD0.self (sz := s.heap.size)
  generalize hAe : va_A [(x, .inr (7, xs))] s.heap.size = A at hD ⊢
  have hA : ∀ q : Nat, s.heap.size ≤ q → A q := fun q h => by rw [← hAe]; exact Or.inr h
  have hS : va_S A s.heap s.heap [] := va_S.rf
  have hP : va_P (dC, dI) vwCl [(x, .inr (7, xs))] s.heap := hP
  have m_0 : (.fieldLink RX8 64 "BowWalk" "tapeLength" "I" : Cond) ∈ zw_x_end := List.mem_append_left _ (List.mem_of_getElem? (i := 1) rfl)
  have k_0 := hts _ m_0
  have i_X8 : ∀ w ∈ u_ws RX8 TX8 14, w ∈ zw_x_end := fun w h => List.mem_append_right _ (List.mem_append_left _ h)
  have hl := lv_entry ([.ref x, .int a1]) (n := 2) (Nat.le_of_ble_eq_true rfl)
  rw [lg_entry_eq]
  generalize (lg_sl ([.ref x, .int a1]) ++ List.replicate (2 - (lg_sl ([.ref x, .int a1])).length) Slot.unset).toArray = ls at hl ⊢
  have hl : lv_has ls 2 [(0, .ref x), (1, .int a1)] := hl
  refine lv_iload_n hx hb dX8_end_0 rfl (lv_at hl 1 rfl) ?_
  refine lv_if_lt (tgt := 12) hx hb dX8_end_1 (by decide) (fun c1 => ?_) (fun c1 => ?_)
  · refine lv_iconst (v := (-1)) hx hb dX8_end_12 (by decide) ?_
    have hP9 := hP.sub (ws' := []) [] rfl
    have hD9 := hD.sub (ws' := []) [] (by decide) rfl
    have hK9 := hK.sub (tys' := []) [] rfl
    exact W.iret (v := (-1)) hx hb hr (fun t ht hW => ⟨⟨(-1), (), rfl, by first | exact p1_end_no (by assumption) (by assumption) | exact p1_end_lt (by assumption) | exact p1_end_gt (by assumption), by rw [ht]; exact hP9, va_K.moved hW.alike hK9, hD9⟩, hS.F ht⟩) hS.2.2 dX8_end_13
  · refine lv_iload_n hx hb dX8_end_4 rfl (lv_at hl 1 rfl) ?_
    refine lv_aload_n hx hb dX8_end_5 rfl (lv_at hl 0 rfl) ?_
    refine va_get (D := (dC, dI)) (ci := 7) (v := .int 0) (C := RX8) (T := TX8) (N := 14) hx hb hts i_X8 hown hK hP 0 rfl rfl 10 (by decide) k_0 (fun _ h9 => h9) f_xs_10 dX8_end_6 ?_
    refine lv_icmp_le (tgt := 14) hx hb dX8_end_9 (by decide) (fun c9 => ?_) (fun c9 => ?_)
    · refine lv_aload_n hx hb dX8_end_14 rfl (lv_at hl 0 rfl) ?_
      refine lv_iload_n hx hb dX8_end_15 rfl (lv_at hl 1 rfl) ?_
      refine va_put (D := (dC, dI)) (ci := 7) (v := .int a1) (ty := .int) (C := RX8) (T := TX8) (N := 14) hx hb hts i_X8 tyX8 tyX8_ok nmX8 hown hK hP hD hS 0 rfl rfl 10 (by decide) k_0 (fun _ h9 => h9) rfl (by decide +kernel) rfl rfl (by rw [l_xs]; decide) dX8_end_16 (fun H locs hP hD hS => ?_)
      have hP : va_P (dC, dI) vwCl [(x, .inr (7, (xs.set 10 (.int a1))))] H := hP
      have hD : va_D A [(x, .inr (7, (xs.set 10 (.int a1))))] := hD
      generalize efs_1 : (xs.set 10 (.int a1)) = fs_1 at hP hD
      have lfs_1 : fs_1.length = 14 := by rw [← efs_1, List.length_set]; exact l_xs
      have ffs_1_10 : fs_1[10]? = some (.int a1) := by rw [← efs_1]; exact p1_sa l_xs (by decide)
      refine lv_iload_n hx hb dX8_end_19 rfl (lv_at hl 1 rfl) ?_
      have hP9 := hP.sub (ws' := []) [] rfl
      have hD9 := hD.sub (ws' := []) [] (by decide) rfl
      have hK9 := hK.sub (tys' := []) [] rfl
      exact W.iret (v := a1) hx hb hr (fun t ht hW => ⟨⟨a1, (), rfl, by first | exact p1_end_no (by assumption) (by assumption) | exact p1_end_lt (by assumption) | exact p1_end_gt (by assumption), by rw [ht]; exact hP9, va_K.moved hW.alike hK9, hD9⟩, hS.F ht⟩) hS.2.2 dX8_end_20
    · refine lv_iconst (v := (-1)) hx hb dX8_end_12 (by decide) ?_
      have hP9 := hP.sub (ws' := []) [] rfl
      have hD9 := hD.sub (ws' := []) [] (by decide) rfl
      have hK9 := hK.sub (tys' := []) [] rfl
      exact W.iret (v := (-1)) hx hb hr (fun t ht hW => ⟨⟨(-1), (), rfl, by first | exact p1_end_no (by assumption) (by assumption) | exact p1_end_lt (by assumption) | exact p1_end_gt (by assumption), by rw [ht]; exact hP9, va_K.moved hW.alike hK9, hD9⟩, hS.F ht⟩) hS.2.2 dX8_end_13
def zo_x_later : List Cond := [.code yX8_later cX8_later 2 (some .int), .methodLink RX8 150 yX8_within, .static yX8_within, .initialized RX8, .fieldLink RX8 75 "BowWalk" "time" "I", .constant RX8 157 (100000)]
def zw_x_later : List Cond := zo_x_later ++ (zw_c_within ++ (wsX80 ++ []))
theorem gz_x_later : zw_x_later.all goodWord = true := p1_ga (by decide +kernel) (p1_ga gz_c_within (p1_ga gk_X8 p1_g0))
theorem iz_x_later : ∀ w ∈ zw_x_later, w ∈ lw_tbl := p1_ia (p1_all [975, 749, 750, 104, 512, 752] (by decide +kernel)) (p1_ia iz_c_within (p1_ia ik_X8 p1_i0))
set_option maxHeartbeats 4000000 in
set_option maxRecDepth 100000 in
theorem x_later (l : Launch) (dC : Nat → ClassId) (dI : Nat → Nat → Nat) (sz : Nat) (x : Nat) (xs : List Value) (a1 : Int32) (f_xs_13 : xs[13]? = some (.int 0)) (l_xs : xs.length = 14) : Met l yX8_later zw_x_later ({ frames := 1, cells := 0, slots := 0, locals := 22 }) (va_Pc [.ref x, .int a1] (fun U => U.heap.size = sz ∧ va_P (dC, dI) vwCl [(x, .inr (7, xs))] U.heap ∧ va_K (dC, dI) vwCl [] U ∧ va_D (fun _ => True) [(x, .inr (7, xs))])) (va_Qi (fun (r : Int32) (_ : Unit) => r = p1_later a1) (fun _ t => va_P (dC, dI) vwCl [] t.heap ∧ va_K (dC, dI) vwCl [] t ∧ va_D (va_A [(x, .inr (7, xs))] sz) []) (va_A [(x, .inr (7, xs))] sz)) 0 0 (va_A [(x, .inr (7, xs))] sz) := by
  refine Met.ofW (cc := cX8_later) (maxL := 2) (ret := (some .int)) (by decide) rfl ?_
  intro p e s m args below meth c s₁ B hml hv
  obtain ⟨rfl, hsz, hP, hK, hD0⟩ := hv
  have hx := B.exec
  have hb := B.bytes
  have hr := B.returns
  have hts := atoms_spec (ws := zw_x_later) B.pre
  have hown : s.vm.findClass RX8 = some m.cls := findClass_of_methodNamed B.named
  have hlocks := B.notSynchronized
  subst hsz
  have hD := hD0.self (sz := s.heap.size)
  generalize hAe : va_A [(x, .inr (7, xs))] s.heap.size = A at hD ⊢
  have hA : ∀ q : Nat, s.heap.size ≤ q → A q := fun q h => by rw [← hAe]; exact Or.inr h
  have hS : va_S A s.heap s.heap [] := va_S.rf
  have hP : va_P (dC, dI) vwCl [(x, .inr (7, xs))] s.heap := hP
  have m_0 : (.methodLink RX8 150 yX8_within : Cond) ∈ zw_x_later := List.mem_append_left _ (List.mem_of_getElem? (i := 1) rfl)
  have k_0 := hts _ m_0
  have m_1 : (.static yX8_within : Cond) ∈ zw_x_later := List.mem_append_left _ (List.mem_of_getElem? (i := 2) rfl)
  have k_1 := hts _ m_1
  have m_2 : (.initialized RX8 : Cond) ∈ zw_x_later := List.mem_append_left _ (List.mem_of_getElem? (i := 3) rfl)
  have k_2 := hts _ m_2
  have m_3 : (.fieldLink RX8 75 "BowWalk" "time" "I" : Cond) ∈ zw_x_later := List.mem_append_left _ (List.mem_of_getElem? (i := 4) rfl)
  have k_3 := hts _ m_3
  have m_4 : (.constant RX8 157 (100000) : Cond) ∈ zw_x_later := List.mem_append_left _ (List.mem_of_getElem? (i := 5) rfl)
  have k_4 := hts _ m_4
  have g_c_within : ∀ w ∈ zw_c_within, w ∈ zw_x_later := fun w h => List.mem_append_right _ (List.mem_append_left _ h)
  have i_X8 : ∀ w ∈ u_ws RX8 TX8 14, w ∈ zw_x_later := fun w h => List.mem_append_right _ (List.mem_append_right _ (List.mem_append_left _ h))
  have hl := lv_entry ([.ref x, .int a1]) (n := 2) (Nat.le_of_ble_eq_true rfl)
  rw [lg_entry_eq]
  generalize (lg_sl ([.ref x, .int a1]) ++ List.replicate (2 - (lg_sl ([.ref x, .int a1])).length) Slot.unset).toArray = ls at hl ⊢
  have hl : lv_has ls 2 [(0, .ref x), (1, .int a1)] := hl
  refine lv_iload_n hx hb dX8_later_0 rfl (lv_at hl 1 rfl) ?_
  refine lv_iconst (v := 0) hx hb dX8_later_1 (by decide) ?_
  refine lv_sipush (v := 1000) hx hb dX8_later_2 (by decide) ?_
  have hPc := hP.sub (ws' := []) [] rfl
  have hDc := hD.sub (ws' := []) [] (by decide) rfl
  have hKc := hK.sub (tys' := []) [] rfl
  have hFc := va_free (wc := []) hD hS hA [] rfl
  refine va_calli (va_runS (As := [.int a1, .int 0, .int 1000]) (rest := []) ⟨hx, hb, hml, hown, hts⟩ (c_within l dC dI s.heap.size a1 0 1000) (va_cwS 3 hts (p1_gS m_0 m_1 m_2 g_c_within gz_c_within) rfl rfl rfl (by decide +kernel) ⟨by decide, by decide⟩) ⟨fun a U g mk q => by obtain ⟨q0, q1, qP, qK, qD⟩ := q; exact ⟨q0, q1, qP, va_K.moved (u := U) (U := U.calling g mk a) (Vm.Alike.refl U.vm) qK, qD⟩, fun U hU hW => ⟨rfl, by rw [hU], by rw [hU]; exact hPc, va_K.moved hW.alike hKc, hDc.weaken (fun _ _ _ _ => trivial)⟩⟩ rfl rfl hl.1 rfl (lv_room (Nat.le_of_ble_eq_true rfl)) dX8_later_5 ⟨by decide, by decide⟩) hS (fun q _ h => hFc q h) hFc (fun r_1 u t H1 locs ht hvm hw hB hz1 hk1 hS => ?_)
  obtain ⟨hP1, hK1, hD1⟩ := hB
  rw [ht] at hP1
  obtain ⟨hP, hD⟩ := va_join (wr := [(x, .inr (7, xs))]) (w1 := []) hP hD [] [0] rfl rfl (by decide) (by decide) hk1 hFc hP1 hD1
  generalize H1 = H at hP hS ⊢
  have hP : va_P (dC, dI) vwCl [(x, .inr (7, xs))] H := hP
  have hD : va_D A [(x, .inr (7, xs))] := hD
  try dsimp only at hw
  rcases hw with ⟨rfl, hw_2⟩ | ⟨rfl, hw_2⟩
  · refine lv_if_eq (tgt := 22) hx hb dX8_later_8 (by decide) (fun c9 => absurd c9 (by decide)) (fun _ => ?_)
    refine lv_aload_n hx hb dX8_later_11 rfl (lv_at hl 0 rfl) ?_
    refine va_get (D := (dC, dI)) (ci := 7) (v := .int 0) (C := RX8) (T := TX8) (N := 14) hx hb hts i_X8 hown hK hP 0 rfl rfl 13 (by decide) k_3 (fun _ h9 => h9) f_xs_13 dX8_later_12 ?_
    refine lv_iload_n hx hb dX8_later_15 rfl (lv_at hl 1 rfl) ?_
    refine lv_iadd hx hb dX8_later_16 ?_
    refine lv_topi (fun v_3 ev_3 => ?_)
    refine lv_ldc (v := 100000) hx hb hown k_4 dX8_later_17 ?_
    refine lv_icmp_le (tgt := 24) hx hb dX8_later_19 (by decide) (fun c19 => ?_) (fun c19 => absurd c19 (fun z9 => z9 (p1_late hw_2 ev_3)))
    refine lv_aload_n hx hb dX8_later_24 rfl (lv_at hl 0 rfl) ?_
    refine lv_dup hx hb dX8_later_25 rfl ?_
    refine va_get (D := (dC, dI)) (ci := 7) (v := .int 0) (C := RX8) (T := TX8) (N := 14) hx hb hts i_X8 hown hK hP 0 rfl rfl 13 (by decide) k_3 (fun _ h9 => h9) f_xs_13 dX8_later_26 ?_
    refine lv_iload_n hx hb dX8_later_29 rfl (lv_at hl 1 rfl) ?_
    refine lv_iadd hx hb dX8_later_30 ?_
    refine lv_topi (fun v_4 ev_4 => ?_)
    refine va_put (D := (dC, dI)) (ci := 7) (v := .int v_4) (ty := .int) (C := RX8) (T := TX8) (N := 14) hx hb hts i_X8 tyX8 tyX8_ok nmX8 hown hK hP hD hS 0 rfl rfl 13 (by decide) k_3 (fun _ h9 => h9) rfl (by decide +kernel) rfl rfl (by rw [l_xs]; decide) dX8_later_31 (fun H locs hP hD hS => ?_)
    have hP : va_P (dC, dI) vwCl [(x, .inr (7, (xs.set 13 (.int v_4))))] H := hP
    have hD : va_D A [(x, .inr (7, (xs.set 13 (.int v_4))))] := hD
    generalize efs_5 : (xs.set 13 (.int v_4)) = fs_5 at hP hD
    have lfs_5 : fs_5.length = 14 := by rw [← efs_5, List.length_set]; exact l_xs
    have ffs_5_13 : fs_5[13]? = some (.int v_4) := by rw [← efs_5]; exact p1_sa l_xs (by decide)
    refine lv_aload_n hx hb dX8_later_34 rfl (lv_at hl 0 rfl) ?_
    refine va_get (D := (dC, dI)) (ci := 7) (v := .int v_4) (C := RX8) (T := TX8) (N := 14) hx hb hts i_X8 hown hK hP 0 rfl rfl 13 (by decide) k_3 (fun _ h9 => h9) ffs_5_13 dX8_later_35 ?_
    have hP9 := hP.sub (ws' := []) [] rfl
    have hD9 := hD.sub (ws' := []) [] (by decide) rfl
    have hK9 := hK.sub (tys' := []) [] rfl
    exact W.iret (v := v_4) hx hb hr (fun t ht hW => ⟨⟨v_4, (), rfl, by rw [p1_later, if_pos hw_2]; exact ev_4, by rw [ht]; exact hP9, va_K.moved hW.alike hK9, hD9⟩, hS.F ht⟩) hS.2.2 dX8_later_38
  · refine lv_if_eq (tgt := 22) hx hb dX8_later_8 (by decide) (fun _ => ?_) (fun c9 => absurd c9 (by decide))
    refine lv_iconst (v := (-1)) hx hb dX8_later_22 (by decide) ?_
    have hP9 := hP.sub (ws' := []) [] rfl
    have hD9 := hD.sub (ws' := []) [] (by decide) rfl
    have hK9 := hK.sub (tys' := []) [] rfl
    exact W.iret (v := (-1)) hx hb hr (fun t ht hW => ⟨⟨(-1), (), rfl, (if_neg hw_2).symm, by rw [ht]; exact hP9, va_K.moved hW.alike hK9, hD9⟩, hS.F ht⟩) hS.2.2 dX8_later_23
def zo_x_fault : List Cond := [.code yX8_fault cX8_fault 2 (some .int), .fieldLink RX8 16 "BowWalk" "reader" "LBowWalk$Reader;", .fieldLink RX8 101 "BowWalk$Reader" "faultPlace" "I", .fieldLink RX8 98 "BowWalk$Reader" "faultKind" "I"]
def zw_x_fault : List Cond := zo_x_fault ++ (wsX80 ++ (wsX40 ++ []))
theorem gz_x_fault : zw_x_fault.all goodWord = true := p1_ga (by decide +kernel) (p1_ga gk_X8 (p1_ga gk_X4 p1_g0))
theorem iz_x_fault : ∀ w ∈ zw_x_fault, w ∈ lw_tbl := p1_ia (p1_all [709, 500, 320, 318] (by decide +kernel)) (p1_ia ik_X8 (p1_ia ik_X4 p1_i0))
set_option maxHeartbeats 4000000 in
set_option maxRecDepth 100000 in
theorem x_fault (l : Launch) (dC : Nat → ClassId) (dI : Nat → Nat → Nat) (sz : Nat) (x : Nat) (xs : List Value) (rd : Nat) (rs : List Value) (a1 : Int32) (f_xs_1 : xs[1]? = some (.ref rd)) (f_rs_9 : rs[9]? = some (.int 0)) (f_rs_10 : rs[10]? = some (.int (-1))) : Met l yX8_fault zw_x_fault ({ frames := 0, cells := 0, slots := 0, locals := 0 }) (va_Pc [.ref x, .int a1] (fun U => U.heap.size = sz ∧ va_P (dC, dI) vwCl [(x, .inr (7, xs)), (rd, .inr (4, rs))] U.heap ∧ va_K (dC, dI) vwCl [] U ∧ va_D (fun _ => True) [(x, .inr (7, xs)), (rd, .inr (4, rs))])) (va_Qi (fun (r : Int32) (_ : Unit) => r = p1_fault a1) (fun _ t => va_P (dC, dI) vwCl [] t.heap ∧ va_K (dC, dI) vwCl [] t ∧ va_D (va_A [(x, .inr (7, xs)), (rd, .inr (4, rs))] sz) []) (va_A [(x, .inr (7, xs)), (rd, .inr (4, rs))] sz)) 0 0 (va_A [(x, .inr (7, xs)), (rd, .inr (4, rs))] sz) := by
  refine Met.ofW (cc := cX8_fault) (maxL := 2) (ret := (some .int)) (by decide) rfl ?_
  intro p e s m args below meth c s₁ B hml hv
  obtain ⟨rfl, hsz, hP, hK, hD0⟩ := hv
  have hx := B.exec
  have hb := B.bytes
  have hr := B.returns
  have hts := atoms_spec (ws := zw_x_fault) B.pre
  have hown : s.vm.findClass RX8 = some m.cls := findClass_of_methodNamed B.named
  have hlocks := B.notSynchronized
  subst hsz
  have hD := hD0.self (sz := s.heap.size)
  generalize hAe : va_A [(x, .inr (7, xs)), (rd, .inr (4, rs))] s.heap.size = A at hD ⊢
  have hA : ∀ q : Nat, s.heap.size ≤ q → A q := fun q h => by rw [← hAe]; exact Or.inr h
  have hS : va_S A s.heap s.heap [] := va_S.rf
  have hP : va_P (dC, dI) vwCl [(x, .inr (7, xs)), (rd, .inr (4, rs))] s.heap := hP
  have m_0 : (.fieldLink RX8 16 "BowWalk" "reader" "LBowWalk$Reader;" : Cond) ∈ zw_x_fault := List.mem_append_left _ (List.mem_of_getElem? (i := 1) rfl)
  have k_0 := hts _ m_0
  have m_1 : (.fieldLink RX8 101 "BowWalk$Reader" "faultPlace" "I" : Cond) ∈ zw_x_fault := List.mem_append_left _ (List.mem_of_getElem? (i := 2) rfl)
  have k_1 := hts _ m_1
  have m_2 : (.fieldLink RX8 98 "BowWalk$Reader" "faultKind" "I" : Cond) ∈ zw_x_fault := List.mem_append_left _ (List.mem_of_getElem? (i := 3) rfl)
  have k_2 := hts _ m_2
  have i_X8 : ∀ w ∈ u_ws RX8 TX8 14, w ∈ zw_x_fault := fun w h => List.mem_append_right _ (List.mem_append_left _ h)
  have i_X4 : ∀ w ∈ u_ws RX4 TX4 11, w ∈ zw_x_fault := fun w h => List.mem_append_right _ (List.mem_append_right _ (List.mem_append_left _ h))
  have hl := lv_entry ([.ref x, .int a1]) (n := 2) (Nat.le_of_ble_eq_true rfl)
  rw [lg_entry_eq]
  generalize (lg_sl ([.ref x, .int a1]) ++ List.replicate (2 - (lg_sl ([.ref x, .int a1])).length) Slot.unset).toArray = ls at hl ⊢
  have hl : lv_has ls 2 [(0, .ref x), (1, .int a1)] := hl
  refine lv_iload_n hx hb dX8_fault_0 rfl (lv_at hl 1 rfl) ?_
  refine lv_if_ne (tgt := 12) hx hb dX8_fault_1 (by decide) (fun c1 => ?_) (fun c1 => ?_)
  · refine lv_iload_n hx hb dX8_fault_12 rfl (lv_at hl 1 rfl) ?_
    refine lv_iconst (v := 1) hx hb dX8_fault_13 (by decide) ?_
    refine lv_icmp_ne (tgt := 27) hx hb dX8_fault_14 (by decide) (fun c14 => ?_) (fun c14 => ?_)
    · refine lv_iconst (v := (-1)) hx hb dX8_fault_27 (by decide) ?_
      have hP9 := hP.sub (ws' := []) [] rfl
      have hD9 := hD.sub (ws' := []) [] (by decide) rfl
      have hK9 := hK.sub (tys' := []) [] rfl
      exact W.iret (v := (-1)) hx hb hr (fun t ht hW => ⟨⟨(-1), (), rfl, by simp only [p1_fault]; first | exact (if_pos (by assumption)).symm | exact (if_neg (by assumption)).symm, by rw [ht]; exact hP9, va_K.moved hW.alike hK9, hD9⟩, hS.F ht⟩) hS.2.2 dX8_fault_28
    · refine lv_aload_n hx hb dX8_fault_17 rfl (lv_at hl 0 rfl) ?_
      refine va_get (D := (dC, dI)) (ci := 7) (v := .ref rd) (C := RX8) (T := TX8) (N := 14) hx hb hts i_X8 hown hK hP 0 rfl rfl 1 (by decide) k_0 (fun _ h9 => h9) f_xs_1 dX8_fault_18 ?_
      refine va_get (D := (dC, dI)) (ci := 4) (v := .int (-1)) (C := RX4) (T := TX4) (N := 11) hx hb hts i_X4 hown hK hP 1 rfl rfl 10 (by decide) k_1 (fun _ h9 => h9) f_rs_10 dX8_fault_21 ?_
      refine lv_goto (tgt := 28) hx hb dX8_fault_24 (by decide) ?_
      have hP9 := hP.sub (ws' := []) [] rfl
      have hD9 := hD.sub (ws' := []) [] (by decide) rfl
      have hK9 := hK.sub (tys' := []) [] rfl
      exact W.iret (v := (-1)) hx hb hr (fun t ht hW => ⟨⟨(-1), (), rfl, by simp only [p1_fault]; first | exact (if_pos (by assumption)).symm | exact (if_neg (by assumption)).symm, by rw [ht]; exact hP9, va_K.moved hW.alike hK9, hD9⟩, hS.F ht⟩) hS.2.2 dX8_fault_28
  · refine lv_aload_n hx hb dX8_fault_4 rfl (lv_at hl 0 rfl) ?_
    refine va_get (D := (dC, dI)) (ci := 7) (v := .ref rd) (C := RX8) (T := TX8) (N := 14) hx hb hts i_X8 hown hK hP 0 rfl rfl 1 (by decide) k_0 (fun _ h9 => h9) f_xs_1 dX8_fault_5 ?_
    refine va_get (D := (dC, dI)) (ci := 4) (v := .int 0) (C := RX4) (T := TX4) (N := 11) hx hb hts i_X4 hown hK hP 1 rfl rfl 9 (by decide) k_2 (fun _ h9 => h9) f_rs_9 dX8_fault_8 ?_
    have hP9 := hP.sub (ws' := []) [] rfl
    have hD9 := hD.sub (ws' := []) [] (by decide) rfl
    have hK9 := hK.sub (tys' := []) [] rfl
    exact W.iret (v := 0) hx hb hr (fun t ht hW => ⟨⟨0, (), rfl, by simp only [p1_fault]; first | exact (if_pos (by assumption)).symm | exact (if_neg (by assumption)).symm, by rw [ht]; exact hP9, va_K.moved hW.alike hK9, hD9⟩, hS.F ht⟩) hS.2.2 dX8_fault_11
def zo_x_about : List Cond := [.code yX8_about cX8_about 2 (some .int), .fieldLink RX8 60 "BowWalk" "shop" "LBowWalk$Shop;", .fieldLink RX8 96 "BowWalk$Shop" "count" "[I", .fieldLink RX8 37 "BowWalk" "films" "LBowWalk$Films;", .fieldLink RX8 90 "BowWalk$Films" "count" "I", .fieldLink RX8 75 "BowWalk" "time" "I", .fieldLink RX8 64 "BowWalk" "tapeLength" "I", .fieldLink RX8 72 "BowWalk" "w" "I", .fieldLink RX8 181 "BowWalk$Shop" "laws" "LBowWalk$Laws;", .fieldLink RX8 329 "BowWalk$Laws" "units" "I"]
def zw_x_about : List Cond := zo_x_about ++ (wsX80 ++ (wsX50 ++ (wsX20 ++ (wsX30 ++ []))))
theorem gz_x_about : zw_x_about.all goodWord = true := p1_ga (by decide +kernel) (p1_ga gk_X8 (p1_ga gk_X5 (p1_ga gk_X2 (p1_ga gk_X3 p1_g0))))
theorem iz_x_about : ∀ w ∈ zw_x_about, w ∈ lw_tbl := p1_ia (p1_all [1026, 508, 176, 503, 457, 512, 509, 511, 215, 157] (by decide +kernel)) (p1_ia ik_X8 (p1_ia ik_X5 (p1_ia ik_X2 (p1_ia ik_X3 p1_i0))))
set_option maxHeartbeats 4000000 in
set_option maxRecDepth 100000 in
theorem x_about (l : Launch) (dC : Nat → ClassId) (dI : Nat → Nat → Nat) (sz : Nat) (x : Nat) (xs : List Value) (sh : Nat) (fl : Nat) (ss : List Value) (sc : Nat) (lw : Nat) (cS : ClassId) (ff : List Value) (lf : List Value) (a1 : Int32) (f_xs_9 : xs[9]? = some (.ref sh)) (f_xs_4 : xs[4]? = some (.ref fl)) (f_xs_13 : xs[13]? = some (.int 0)) (f_xs_10 : xs[10]? = some (.int 0)) (f_xs_12 : xs[12]? = some (.int 1)) (f_ss_0 : ss[0]? = some (.ref sc)) (f_ss_12 : ss[12]? = some (.ref lw)) (f_ff_7 : ff[7]? = some (.int 0)) (f_lf_5 : lf[5]? = some (.int 0)) : Met l yX8_about zw_x_about ({ frames := 0, cells := 0, slots := 0, locals := 0 }) (va_Pc [.ref x, .int a1] (fun U => U.heap.size = sz ∧ va_P (dC, dI) vwCl [(x, .inr (7, xs)), (sh, .inr (5, ss)), (sc, .inl (cS, 5, .inl (fun _ => 0))), (fl, .inr (2, ff)), (lw, .inr (3, lf))] U.heap ∧ va_K (dC, dI) vwCl [(cS, .int)] U ∧ va_D (fun _ => True) [(x, .inr (7, xs)), (sh, .inr (5, ss)), (sc, .inl (cS, 5, .inl (fun _ => 0))), (fl, .inr (2, ff)), (lw, .inr (3, lf))])) (va_Qi (fun (r : Int32) (_ : Unit) => r = p1_about a1) (fun _ t => va_P (dC, dI) vwCl [] t.heap ∧ va_K (dC, dI) vwCl [] t ∧ va_D (va_A [(x, .inr (7, xs)), (sh, .inr (5, ss)), (sc, .inl (cS, 5, .inl (fun _ => 0))), (fl, .inr (2, ff)), (lw, .inr (3, lf))] sz) []) (va_A [(x, .inr (7, xs)), (sh, .inr (5, ss)), (sc, .inl (cS, 5, .inl (fun _ => 0))), (fl, .inr (2, ff)), (lw, .inr (3, lf))] sz)) 0 0 (va_A [(x, .inr (7, xs)), (sh, .inr (5, ss)), (sc, .inl (cS, 5, .inl (fun _ => 0))), (fl, .inr (2, ff)), (lw, .inr (3, lf))] sz) := by
  refine Met.ofW (cc := cX8_about) (maxL := 2) (ret := (some .int)) (by decide) rfl ?_
  intro p e s m args below meth c s₁ B hml hv
  obtain ⟨rfl, hsz, hP, hK, hD0⟩ := hv
  have hx := B.exec
  have hb := B.bytes
  have hr := B.returns
  have hts := atoms_spec (ws := zw_x_about) B.pre
  have hown : s.vm.findClass RX8 = some m.cls := findClass_of_methodNamed B.named
  have hlocks := B.notSynchronized
  subst hsz
  have hD := hD0.self (sz := s.heap.size)
  generalize hAe : va_A [(x, .inr (7, xs)), (sh, .inr (5, ss)), (sc, .inl (cS, 5, .inl (fun _ => 0))), (fl, .inr (2, ff)), (lw, .inr (3, lf))] s.heap.size = A at hD ⊢
  have hA : ∀ q : Nat, s.heap.size ≤ q → A q := fun q h => by rw [← hAe]; exact Or.inr h
  have hS : va_S A s.heap s.heap [] := va_S.rf
  have hP : va_P (dC, dI) vwCl [(x, .inr (7, xs)), (sh, .inr (5, ss)), (sc, .inl (cS, 5, .inl (fun _ => 0))), (fl, .inr (2, ff)), (lw, .inr (3, lf))] s.heap := hP
  have m_0 : (.fieldLink RX8 60 "BowWalk" "shop" "LBowWalk$Shop;" : Cond) ∈ zw_x_about := List.mem_append_left _ (List.mem_of_getElem? (i := 1) rfl)
  have k_0 := hts _ m_0
  have m_1 : (.fieldLink RX8 96 "BowWalk$Shop" "count" "[I" : Cond) ∈ zw_x_about := List.mem_append_left _ (List.mem_of_getElem? (i := 2) rfl)
  have k_1 := hts _ m_1
  have m_2 : (.fieldLink RX8 37 "BowWalk" "films" "LBowWalk$Films;" : Cond) ∈ zw_x_about := List.mem_append_left _ (List.mem_of_getElem? (i := 3) rfl)
  have k_2 := hts _ m_2
  have m_3 : (.fieldLink RX8 90 "BowWalk$Films" "count" "I" : Cond) ∈ zw_x_about := List.mem_append_left _ (List.mem_of_getElem? (i := 4) rfl)
  have k_3 := hts _ m_3
  have m_4 : (.fieldLink RX8 75 "BowWalk" "time" "I" : Cond) ∈ zw_x_about := List.mem_append_left _ (List.mem_of_getElem? (i := 5) rfl)
  have k_4 := hts _ m_4
  have m_5 : (.fieldLink RX8 64 "BowWalk" "tapeLength" "I" : Cond) ∈ zw_x_about := List.mem_append_left _ (List.mem_of_getElem? (i := 6) rfl)
  have k_5 := hts _ m_5
  have m_6 : (.fieldLink RX8 72 "BowWalk" "w" "I" : Cond) ∈ zw_x_about := List.mem_append_left _ (List.mem_of_getElem? (i := 7) rfl)
  have k_6 := hts _ m_6
  have m_7 : (.fieldLink RX8 181 "BowWalk$Shop" "laws" "LBowWalk$Laws;" : Cond) ∈ zw_x_about := List.mem_append_left _ (List.mem_of_getElem? (i := 8) rfl)
  have k_7 := hts _ m_7
  have m_8 : (.fieldLink RX8 329 "BowWalk$Laws" "units" "I" : Cond) ∈ zw_x_about := List.mem_append_left _ (List.mem_of_getElem? (i := 9) rfl)
  have k_8 := hts _ m_8
  have i_X8 : ∀ w ∈ u_ws RX8 TX8 14, w ∈ zw_x_about := fun w h => List.mem_append_right _ (List.mem_append_left _ h)
  have i_X5 : ∀ w ∈ u_ws RX5 TX5 15, w ∈ zw_x_about := fun w h => List.mem_append_right _ (List.mem_append_right _ (List.mem_append_left _ h))
  have i_X2 : ∀ w ∈ u_ws RX2 TX2 8, w ∈ zw_x_about := fun w h => List.mem_append_right _ (List.mem_append_right _ (List.mem_append_right _ (List.mem_append_left _ h)))
  have i_X3 : ∀ w ∈ u_ws RX3 TX3 6, w ∈ zw_x_about := fun w h => List.mem_append_right _ (List.mem_append_right _ (List.mem_append_right _ (List.mem_append_right _ (List.mem_append_left _ h))))
  have hl := lv_entry ([.ref x, .int a1]) (n := 2) (Nat.le_of_ble_eq_true rfl)
  rw [lg_entry_eq]
  generalize (lg_sl ([.ref x, .int a1]) ++ List.replicate (2 - (lg_sl ([.ref x, .int a1])).length) Slot.unset).toArray = ls at hl ⊢
  have hl : lv_has ls 2 [(0, .ref x), (1, .int a1)] := hl
  refine lv_iload_n hx hb dX8_about_0 rfl (lv_at hl 1 rfl) ?_
  rcases p1_sw9 a1 with rfl | rfl | rfl | rfl | rfl | rfl | rfl | rfl | rfl | rfl | hsw
  · refine lv_tableIn (tgt := 56) (off := 55) hx hb dX8_about_1 (by decide) (by decide) (by decide) (by decide) ?_
    refine lv_aload_n hx hb dX8_about_56 rfl (lv_at hl 0 rfl) ?_
    refine va_get (D := (dC, dI)) (ci := 7) (v := .ref sh) (C := RX8) (T := TX8) (N := 14) hx hb hts i_X8 hown hK hP 0 rfl rfl 9 (by decide) k_0 (fun _ h9 => h9) f_xs_9 dX8_about_57 ?_
    refine va_get (D := (dC, dI)) (ci := 5) (v := .ref sc) (C := RX5) (T := TX5) (N := 15) hx hb hts i_X5 hown hK hP 1 rfl rfl 0 (by decide) k_1 (fun _ h9 => h9) f_ss_0 dX8_about_60 ?_
    refine lv_iload_n hx hb dX8_about_63 rfl (lv_at hl 1 rfl) ?_
    refine va_iald hx hb hK hP 2 0 rfl rfl (p1_in (i := 0) (n := 5) (by decide)) dX8_about_64 ?_
    refine lv_topi (fun v_1 ev_1 => ?_)
    obtain rfl : v_1 = 0 := ev_1.trans rfl
    have hP9 := hP.sub (ws' := []) [] rfl
    have hD9 := hD.sub (ws' := []) [] (by decide) rfl
    have hK9 := hK.sub (tys' := []) [] rfl
    exact W.iret (v := 0) hx hb hr (fun t ht hW => ⟨⟨0, (), rfl, (by decide), by rw [ht]; exact hP9, va_K.moved hW.alike hK9, hD9⟩, hS.F ht⟩) hS.2.2 dX8_about_65
  · refine lv_tableIn (tgt := 56) (off := 55) hx hb dX8_about_1 (by decide) (by decide) (by decide) (by decide) ?_
    refine lv_aload_n hx hb dX8_about_56 rfl (lv_at hl 0 rfl) ?_
    refine va_get (D := (dC, dI)) (ci := 7) (v := .ref sh) (C := RX8) (T := TX8) (N := 14) hx hb hts i_X8 hown hK hP 0 rfl rfl 9 (by decide) k_0 (fun _ h9 => h9) f_xs_9 dX8_about_57 ?_
    refine va_get (D := (dC, dI)) (ci := 5) (v := .ref sc) (C := RX5) (T := TX5) (N := 15) hx hb hts i_X5 hown hK hP 1 rfl rfl 0 (by decide) k_1 (fun _ h9 => h9) f_ss_0 dX8_about_60 ?_
    refine lv_iload_n hx hb dX8_about_63 rfl (lv_at hl 1 rfl) ?_
    refine va_iald hx hb hK hP 2 0 rfl rfl (p1_in (i := 1) (n := 5) (by decide)) dX8_about_64 ?_
    refine lv_topi (fun v_2 ev_2 => ?_)
    obtain rfl : v_2 = 0 := ev_2.trans rfl
    have hP9 := hP.sub (ws' := []) [] rfl
    have hD9 := hD.sub (ws' := []) [] (by decide) rfl
    have hK9 := hK.sub (tys' := []) [] rfl
    exact W.iret (v := 0) hx hb hr (fun t ht hW => ⟨⟨0, (), rfl, (by decide), by rw [ht]; exact hP9, va_K.moved hW.alike hK9, hD9⟩, hS.F ht⟩) hS.2.2 dX8_about_65
  · refine lv_tableIn (tgt := 56) (off := 55) hx hb dX8_about_1 (by decide) (by decide) (by decide) (by decide) ?_
    refine lv_aload_n hx hb dX8_about_56 rfl (lv_at hl 0 rfl) ?_
    refine va_get (D := (dC, dI)) (ci := 7) (v := .ref sh) (C := RX8) (T := TX8) (N := 14) hx hb hts i_X8 hown hK hP 0 rfl rfl 9 (by decide) k_0 (fun _ h9 => h9) f_xs_9 dX8_about_57 ?_
    refine va_get (D := (dC, dI)) (ci := 5) (v := .ref sc) (C := RX5) (T := TX5) (N := 15) hx hb hts i_X5 hown hK hP 1 rfl rfl 0 (by decide) k_1 (fun _ h9 => h9) f_ss_0 dX8_about_60 ?_
    refine lv_iload_n hx hb dX8_about_63 rfl (lv_at hl 1 rfl) ?_
    refine va_iald hx hb hK hP 2 0 rfl rfl (p1_in (i := 2) (n := 5) (by decide)) dX8_about_64 ?_
    refine lv_topi (fun v_3 ev_3 => ?_)
    obtain rfl : v_3 = 0 := ev_3.trans rfl
    have hP9 := hP.sub (ws' := []) [] rfl
    have hD9 := hD.sub (ws' := []) [] (by decide) rfl
    have hK9 := hK.sub (tys' := []) [] rfl
    exact W.iret (v := 0) hx hb hr (fun t ht hW => ⟨⟨0, (), rfl, (by decide), by rw [ht]; exact hP9, va_K.moved hW.alike hK9, hD9⟩, hS.F ht⟩) hS.2.2 dX8_about_65
  · refine lv_tableIn (tgt := 56) (off := 55) hx hb dX8_about_1 (by decide) (by decide) (by decide) (by decide) ?_
    refine lv_aload_n hx hb dX8_about_56 rfl (lv_at hl 0 rfl) ?_
    refine va_get (D := (dC, dI)) (ci := 7) (v := .ref sh) (C := RX8) (T := TX8) (N := 14) hx hb hts i_X8 hown hK hP 0 rfl rfl 9 (by decide) k_0 (fun _ h9 => h9) f_xs_9 dX8_about_57 ?_
    refine va_get (D := (dC, dI)) (ci := 5) (v := .ref sc) (C := RX5) (T := TX5) (N := 15) hx hb hts i_X5 hown hK hP 1 rfl rfl 0 (by decide) k_1 (fun _ h9 => h9) f_ss_0 dX8_about_60 ?_
    refine lv_iload_n hx hb dX8_about_63 rfl (lv_at hl 1 rfl) ?_
    refine va_iald hx hb hK hP 2 0 rfl rfl (p1_in (i := 3) (n := 5) (by decide)) dX8_about_64 ?_
    refine lv_topi (fun v_4 ev_4 => ?_)
    obtain rfl : v_4 = 0 := ev_4.trans rfl
    have hP9 := hP.sub (ws' := []) [] rfl
    have hD9 := hD.sub (ws' := []) [] (by decide) rfl
    have hK9 := hK.sub (tys' := []) [] rfl
    exact W.iret (v := 0) hx hb hr (fun t ht hW => ⟨⟨0, (), rfl, (by decide), by rw [ht]; exact hP9, va_K.moved hW.alike hK9, hD9⟩, hS.F ht⟩) hS.2.2 dX8_about_65
  · refine lv_tableIn (tgt := 56) (off := 55) hx hb dX8_about_1 (by decide) (by decide) (by decide) (by decide) ?_
    refine lv_aload_n hx hb dX8_about_56 rfl (lv_at hl 0 rfl) ?_
    refine va_get (D := (dC, dI)) (ci := 7) (v := .ref sh) (C := RX8) (T := TX8) (N := 14) hx hb hts i_X8 hown hK hP 0 rfl rfl 9 (by decide) k_0 (fun _ h9 => h9) f_xs_9 dX8_about_57 ?_
    refine va_get (D := (dC, dI)) (ci := 5) (v := .ref sc) (C := RX5) (T := TX5) (N := 15) hx hb hts i_X5 hown hK hP 1 rfl rfl 0 (by decide) k_1 (fun _ h9 => h9) f_ss_0 dX8_about_60 ?_
    refine lv_iload_n hx hb dX8_about_63 rfl (lv_at hl 1 rfl) ?_
    refine va_iald hx hb hK hP 2 0 rfl rfl (p1_in (i := 4) (n := 5) (by decide)) dX8_about_64 ?_
    refine lv_topi (fun v_5 ev_5 => ?_)
    obtain rfl : v_5 = 0 := ev_5.trans rfl
    have hP9 := hP.sub (ws' := []) [] rfl
    have hD9 := hD.sub (ws' := []) [] (by decide) rfl
    have hK9 := hK.sub (tys' := []) [] rfl
    exact W.iret (v := 0) hx hb hr (fun t ht hW => ⟨⟨0, (), rfl, (by decide), by rw [ht]; exact hP9, va_K.moved hW.alike hK9, hD9⟩, hS.F ht⟩) hS.2.2 dX8_about_65
  · refine lv_tableIn (tgt := 66) (off := 65) hx hb dX8_about_1 (by decide) (by decide) (by decide) (by decide) ?_
    refine lv_aload_n hx hb dX8_about_66 rfl (lv_at hl 0 rfl) ?_
    refine va_get (D := (dC, dI)) (ci := 7) (v := .ref fl) (C := RX8) (T := TX8) (N := 14) hx hb hts i_X8 hown hK hP 0 rfl rfl 4 (by decide) k_2 (fun _ h9 => h9) f_xs_4 dX8_about_67 ?_
    refine va_get (D := (dC, dI)) (ci := 2) (v := .int 0) (C := RX2) (T := TX2) (N := 8) hx hb hts i_X2 hown hK hP 3 rfl rfl 7 (by decide) k_3 (fun _ h9 => h9) f_ff_7 dX8_about_70 ?_
    have hP9 := hP.sub (ws' := []) [] rfl
    have hD9 := hD.sub (ws' := []) [] (by decide) rfl
    have hK9 := hK.sub (tys' := []) [] rfl
    exact W.iret (v := 0) hx hb hr (fun t ht hW => ⟨⟨0, (), rfl, (by decide), by rw [ht]; exact hP9, va_K.moved hW.alike hK9, hD9⟩, hS.F ht⟩) hS.2.2 dX8_about_73
  · refine lv_tableIn (tgt := 74) (off := 73) hx hb dX8_about_1 (by decide) (by decide) (by decide) (by decide) ?_
    refine lv_aload_n hx hb dX8_about_74 rfl (lv_at hl 0 rfl) ?_
    refine va_get (D := (dC, dI)) (ci := 7) (v := .int 0) (C := RX8) (T := TX8) (N := 14) hx hb hts i_X8 hown hK hP 0 rfl rfl 13 (by decide) k_4 (fun _ h9 => h9) f_xs_13 dX8_about_75 ?_
    have hP9 := hP.sub (ws' := []) [] rfl
    have hD9 := hD.sub (ws' := []) [] (by decide) rfl
    have hK9 := hK.sub (tys' := []) [] rfl
    exact W.iret (v := 0) hx hb hr (fun t ht hW => ⟨⟨0, (), rfl, (by decide), by rw [ht]; exact hP9, va_K.moved hW.alike hK9, hD9⟩, hS.F ht⟩) hS.2.2 dX8_about_78
  · refine lv_tableIn (tgt := 79) (off := 78) hx hb dX8_about_1 (by decide) (by decide) (by decide) (by decide) ?_
    refine lv_aload_n hx hb dX8_about_79 rfl (lv_at hl 0 rfl) ?_
    refine va_get (D := (dC, dI)) (ci := 7) (v := .int 0) (C := RX8) (T := TX8) (N := 14) hx hb hts i_X8 hown hK hP 0 rfl rfl 10 (by decide) k_5 (fun _ h9 => h9) f_xs_10 dX8_about_80 ?_
    have hP9 := hP.sub (ws' := []) [] rfl
    have hD9 := hD.sub (ws' := []) [] (by decide) rfl
    have hK9 := hK.sub (tys' := []) [] rfl
    exact W.iret (v := 0) hx hb hr (fun t ht hW => ⟨⟨0, (), rfl, (by decide), by rw [ht]; exact hP9, va_K.moved hW.alike hK9, hD9⟩, hS.F ht⟩) hS.2.2 dX8_about_83
  · refine lv_tableIn (tgt := 84) (off := 83) hx hb dX8_about_1 (by decide) (by decide) (by decide) (by decide) ?_
    refine lv_aload_n hx hb dX8_about_84 rfl (lv_at hl 0 rfl) ?_
    refine va_get (D := (dC, dI)) (ci := 7) (v := .int 1) (C := RX8) (T := TX8) (N := 14) hx hb hts i_X8 hown hK hP 0 rfl rfl 12 (by decide) k_6 (fun _ h9 => h9) f_xs_12 dX8_about_85 ?_
    have hP9 := hP.sub (ws' := []) [] rfl
    have hD9 := hD.sub (ws' := []) [] (by decide) rfl
    have hK9 := hK.sub (tys' := []) [] rfl
    exact W.iret (v := 1) hx hb hr (fun t ht hW => ⟨⟨1, (), rfl, (by decide), by rw [ht]; exact hP9, va_K.moved hW.alike hK9, hD9⟩, hS.F ht⟩) hS.2.2 dX8_about_88
  · refine lv_tableIn (tgt := 89) (off := 88) hx hb dX8_about_1 (by decide) (by decide) (by decide) (by decide) ?_
    refine lv_aload_n hx hb dX8_about_89 rfl (lv_at hl 0 rfl) ?_
    refine va_get (D := (dC, dI)) (ci := 7) (v := .ref sh) (C := RX8) (T := TX8) (N := 14) hx hb hts i_X8 hown hK hP 0 rfl rfl 9 (by decide) k_0 (fun _ h9 => h9) f_xs_9 dX8_about_90 ?_
    refine va_get (D := (dC, dI)) (ci := 5) (v := .ref lw) (C := RX5) (T := TX5) (N := 15) hx hb hts i_X5 hown hK hP 1 rfl rfl 12 (by decide) k_7 (fun _ h9 => h9) f_ss_12 dX8_about_93 ?_
    refine va_get (D := (dC, dI)) (ci := 3) (v := .int 0) (C := RX3) (T := TX3) (N := 6) hx hb hts i_X3 hown hK hP 4 rfl rfl 5 (by decide) k_8 (fun _ h9 => h9) f_lf_5 dX8_about_96 ?_
    have hP9 := hP.sub (ws' := []) [] rfl
    have hD9 := hD.sub (ws' := []) [] (by decide) rfl
    have hK9 := hK.sub (tys' := []) [] rfl
    exact W.iret (v := 0) hx hb hr (fun t ht hW => ⟨⟨0, (), rfl, (by decide), by rw [ht]; exact hP9, va_K.moved hW.alike hK9, hD9⟩, hS.F ht⟩) hS.2.2 dX8_about_99
  · refine lv_tableOut (tgt := 100) hx hb dX8_about_1 hsw (by decide) ?_
    refine lv_iconst (v := (-1)) hx hb dX8_about_100 (by decide) ?_
    have hP9 := hP.sub (ws' := []) [] rfl
    have hD9 := hD.sub (ws' := []) [] (by decide) rfl
    have hK9 := hK.sub (tys' := []) [] rfl
    exact W.iret (v := (-1)) hx hb hr (fun t ht hW => ⟨⟨(-1), (), rfl, p1_about_out hsw, by rw [ht]; exact hP9, va_K.moved hW.alike hK9, hD9⟩, hS.F ht⟩) hS.2.2 dX8_about_101
def zo_x_back : List Cond := [.code yX8_back cX8_back 2 (some .int), .methodLink RX8 150 yX8_within, .static yX8_within, .initialized RX8, .fieldLink RX8 43 "BowWalk" "boxes" "[LBowWalk$Box;", .fieldLink RX8 93 "BowWalk$Box" "full" "Z"]
def zw_x_back : List Cond := zo_x_back ++ (zw_c_within ++ (wsX80 ++ (wsX10 ++ [])))
theorem gz_x_back : zw_x_back.all goodWord = true := p1_ga (by decide +kernel) (p1_ga gz_c_within (p1_ga gk_X8 (p1_ga gk_X1 p1_g0)))
theorem iz_x_back : ∀ w ∈ zw_x_back, w ∈ lw_tbl := p1_ia (p1_all [1022, 749, 750, 104, 504, 491] (by decide +kernel)) (p1_ia iz_c_within (p1_ia ik_X8 (p1_ia ik_X1 p1_i0)))
set_option maxHeartbeats 4000000 in
set_option maxRecDepth 100000 in
theorem x_back (l : Launch) (dC : Nat → ClassId) (dI : Nat → Nat → Nat) (sz : Nat) (x : Nat) (xs : List Value) (bx : Nat) (cX : ClassId) (b0 : Nat) (bf0 : List Value) (b1 : Nat) (bf1 : List Value) (b2 : Nat) (bf2 : List Value) (a1 : Int32) (f_xs_5 : xs[5]? = some (.ref bx)) (f_bf0_2 : bf0[2]? = some (.int 0)) (f_bf1_2 : bf1[2]? = some (.int 0)) (f_bf2_2 : bf2[2]? = some (.int 0)) : Met l yX8_back zw_x_back ({ frames := 1, cells := 0, slots := 0, locals := 22 }) (va_Pc [.ref x, .int a1] (fun U => U.heap.size = sz ∧ va_P (dC, dI) vwCl [(x, .inr (7, xs)), (bx, .inl (cX, 3, .inr (.inr (.inr (.inr (va_up (va_up (va_up (fun _ => none) (0 : Int32).toNatClampNeg (some b0)) (1 : Int32).toNatClampNeg (some b1)) (2 : Int32).toNatClampNeg (some b2))))))), (b0, .inr (1, bf0)), (b1, .inr (1, bf1)), (b2, .inr (1, bf2))] U.heap ∧ va_K (dC, dI) vwCl [(cX, .object "BowWalk$Box")] U ∧ va_D (fun _ => True) [(x, .inr (7, xs)), (bx, .inl (cX, 3, .inr (.inr (.inr (.inr (va_up (va_up (va_up (fun _ => none) (0 : Int32).toNatClampNeg (some b0)) (1 : Int32).toNatClampNeg (some b1)) (2 : Int32).toNatClampNeg (some b2))))))), (b0, .inr (1, bf0)), (b1, .inr (1, bf1)), (b2, .inr (1, bf2))])) (va_Qi (fun (r : Int32) (_ : Unit) => r = (-1)) (fun _ t => va_P (dC, dI) vwCl [] t.heap ∧ va_K (dC, dI) vwCl [] t ∧ va_D (va_A [(x, .inr (7, xs)), (bx, .inl (cX, 3, .inr (.inr (.inr (.inr (va_up (va_up (va_up (fun _ => none) (0 : Int32).toNatClampNeg (some b0)) (1 : Int32).toNatClampNeg (some b1)) (2 : Int32).toNatClampNeg (some b2))))))), (b0, .inr (1, bf0)), (b1, .inr (1, bf1)), (b2, .inr (1, bf2))] sz) []) (va_A [(x, .inr (7, xs)), (bx, .inl (cX, 3, .inr (.inr (.inr (.inr (va_up (va_up (va_up (fun _ => none) (0 : Int32).toNatClampNeg (some b0)) (1 : Int32).toNatClampNeg (some b1)) (2 : Int32).toNatClampNeg (some b2))))))), (b0, .inr (1, bf0)), (b1, .inr (1, bf1)), (b2, .inr (1, bf2))] sz)) 0 0 (va_A [(x, .inr (7, xs)), (bx, .inl (cX, 3, .inr (.inr (.inr (.inr (va_up (va_up (va_up (fun _ => none) (0 : Int32).toNatClampNeg (some b0)) (1 : Int32).toNatClampNeg (some b1)) (2 : Int32).toNatClampNeg (some b2))))))), (b0, .inr (1, bf0)), (b1, .inr (1, bf1)), (b2, .inr (1, bf2))] sz) := by
  refine Met.ofW (cc := cX8_back) (maxL := 2) (ret := (some .int)) (by decide) rfl ?_
  intro p e s m args below meth c s₁ B hml hv
  obtain ⟨rfl, hsz, hP, hK, hD0⟩ := hv
  have hx := B.exec
  have hb := B.bytes
  have hr := B.returns
  have hts := atoms_spec (ws := zw_x_back) B.pre
  have hown : s.vm.findClass RX8 = some m.cls := findClass_of_methodNamed B.named
  have hlocks := B.notSynchronized
  subst hsz
  have hD := hD0.self (sz := s.heap.size)
  generalize hAe : va_A [(x, .inr (7, xs)), (bx, .inl (cX, 3, .inr (.inr (.inr (.inr (va_up (va_up (va_up (fun _ => none) (0 : Int32).toNatClampNeg (some b0)) (1 : Int32).toNatClampNeg (some b1)) (2 : Int32).toNatClampNeg (some b2))))))), (b0, .inr (1, bf0)), (b1, .inr (1, bf1)), (b2, .inr (1, bf2))] s.heap.size = A at hD ⊢
  have hA : ∀ q : Nat, s.heap.size ≤ q → A q := fun q h => by rw [← hAe]; exact Or.inr h
  have hS : va_S A s.heap s.heap [] := va_S.rf
  have hP : va_P (dC, dI) vwCl [(x, .inr (7, xs)), (bx, .inl (cX, 3, .inr (.inr (.inr (.inr (va_up (va_up (va_up (fun _ => none) (0 : Int32).toNatClampNeg (some b0)) (1 : Int32).toNatClampNeg (some b1)) (2 : Int32).toNatClampNeg (some b2))))))), (b0, .inr (1, bf0)), (b1, .inr (1, bf1)), (b2, .inr (1, bf2))] s.heap := hP
  have m_0 : (.methodLink RX8 150 yX8_within : Cond) ∈ zw_x_back := List.mem_append_left _ (List.mem_of_getElem? (i := 1) rfl)
  have k_0 := hts _ m_0
  have m_1 : (.static yX8_within : Cond) ∈ zw_x_back := List.mem_append_left _ (List.mem_of_getElem? (i := 2) rfl)
  have k_1 := hts _ m_1
  have m_2 : (.initialized RX8 : Cond) ∈ zw_x_back := List.mem_append_left _ (List.mem_of_getElem? (i := 3) rfl)
  have k_2 := hts _ m_2
  have m_3 : (.fieldLink RX8 43 "BowWalk" "boxes" "[LBowWalk$Box;" : Cond) ∈ zw_x_back := List.mem_append_left _ (List.mem_of_getElem? (i := 4) rfl)
  have k_3 := hts _ m_3
  have m_4 : (.fieldLink RX8 93 "BowWalk$Box" "full" "Z" : Cond) ∈ zw_x_back := List.mem_append_left _ (List.mem_of_getElem? (i := 5) rfl)
  have k_4 := hts _ m_4
  have g_c_within : ∀ w ∈ zw_c_within, w ∈ zw_x_back := fun w h => List.mem_append_right _ (List.mem_append_left _ h)
  have i_X8 : ∀ w ∈ u_ws RX8 TX8 14, w ∈ zw_x_back := fun w h => List.mem_append_right _ (List.mem_append_right _ (List.mem_append_left _ h))
  have i_X1 : ∀ w ∈ u_ws RX1 TX1 3, w ∈ zw_x_back := fun w h => List.mem_append_right _ (List.mem_append_right _ (List.mem_append_right _ (List.mem_append_left _ h)))
  have hl := lv_entry ([.ref x, .int a1]) (n := 2) (Nat.le_of_ble_eq_true rfl)
  rw [lg_entry_eq]
  generalize (lg_sl ([.ref x, .int a1]) ++ List.replicate (2 - (lg_sl ([.ref x, .int a1])).length) Slot.unset).toArray = ls at hl ⊢
  have hl : lv_has ls 2 [(0, .ref x), (1, .int a1)] := hl
  refine lv_iload_n hx hb dX8_back_0 rfl (lv_at hl 1 rfl) ?_
  refine lv_iconst (v := 0) hx hb dX8_back_1 (by decide) ?_
  refine lv_iconst (v := 2) hx hb dX8_back_2 (by decide) ?_
  have hPc := hP.sub (ws' := []) [] rfl
  have hDc := hD.sub (ws' := []) [] (by decide) rfl
  have hKc := hK.sub (tys' := []) [] rfl
  have hFc := va_free (wc := []) hD hS hA [] rfl
  refine va_calli (va_runS (As := [.int a1, .int 0, .int 2]) (rest := []) ⟨hx, hb, hml, hown, hts⟩ (c_within l dC dI s.heap.size a1 0 2) (va_cwS 3 hts (p1_gS m_0 m_1 m_2 g_c_within gz_c_within) rfl rfl rfl (by decide +kernel) ⟨by decide, by decide⟩) ⟨fun a U g mk q => by obtain ⟨q0, q1, qP, qK, qD⟩ := q; exact ⟨q0, q1, qP, va_K.moved (u := U) (U := U.calling g mk a) (Vm.Alike.refl U.vm) qK, qD⟩, fun U hU hW => ⟨rfl, by rw [hU], by rw [hU]; exact hPc, va_K.moved hW.alike hKc, hDc.weaken (fun _ _ _ _ => trivial)⟩⟩ rfl rfl hl.1 rfl (lv_room (Nat.le_of_ble_eq_true rfl)) dX8_back_3 ⟨by decide, by decide⟩) hS (fun q _ h => hFc q h) hFc (fun r_1 u t H1 locs ht hvm hw hB hz1 hk1 hS => ?_)
  obtain ⟨hP1, hK1, hD1⟩ := hB
  rw [ht] at hP1
  obtain ⟨hP, hD⟩ := va_join (wr := [(x, .inr (7, xs)), (bx, .inl (cX, 3, .inr (.inr (.inr (.inr (va_up (va_up (va_up (fun _ => none) (0 : Int32).toNatClampNeg (some b0)) (1 : Int32).toNatClampNeg (some b1)) (2 : Int32).toNatClampNeg (some b2))))))), (b0, .inr (1, bf0)), (b1, .inr (1, bf1)), (b2, .inr (1, bf2))]) (w1 := []) hP hD [] [0, 1, 2, 3, 4] rfl rfl (by decide) (by decide) hk1 hFc hP1 hD1
  generalize H1 = H at hP hS ⊢
  have hP : va_P (dC, dI) vwCl [(x, .inr (7, xs)), (bx, .inl (cX, 3, .inr (.inr (.inr (.inr (va_up (va_up (va_up (fun _ => none) (0 : Int32).toNatClampNeg (some b0)) (1 : Int32).toNatClampNeg (some b1)) (2 : Int32).toNatClampNeg (some b2))))))), (b0, .inr (1, bf0)), (b1, .inr (1, bf1)), (b2, .inr (1, bf2))] H := hP
  have hD : va_D A [(x, .inr (7, xs)), (bx, .inl (cX, 3, .inr (.inr (.inr (.inr (va_up (va_up (va_up (fun _ => none) (0 : Int32).toNatClampNeg (some b0)) (1 : Int32).toNatClampNeg (some b1)) (2 : Int32).toNatClampNeg (some b2))))))), (b0, .inr (1, bf0)), (b1, .inr (1, bf1)), (b2, .inr (1, bf2))] := hD
  try dsimp only at hw
  rcases hw with ⟨rfl, hw_2⟩ | ⟨rfl, hw_2⟩
  · refine lv_if_eq (tgt := 21) hx hb dX8_back_6 (by decide) (fun c9 => absurd c9 (by decide)) (fun _ => ?_)
    rcases p1_012 hw_2 with rfl | rfl | rfl
    · refine lv_aload_n hx hb dX8_back_9 rfl (lv_at hl 0 rfl) ?_
      refine va_get (D := (dC, dI)) (ci := 7) (v := .ref bx) (C := RX8) (T := TX8) (N := 14) hx hb hts i_X8 hown hK hP 0 rfl rfl 5 (by decide) k_3 (fun _ h9 => h9) f_xs_5 dX8_back_10 ?_
      refine lv_iload_n hx hb dX8_back_13 rfl (lv_at hl 1 rfl) ?_
      refine va_aldq hx hb hK hP 1 0 rfl rfl (p1_in (i := 0) (n := 3) (by decide)) dX8_back_14 ?_
      refine W.eq (g2 := F0 m 15 ls [.ref b0]) rfl ?_
      refine va_get (D := (dC, dI)) (ci := 1) (v := .int 0) (C := RX1) (T := TX1) (N := 3) hx hb hts i_X1 hown hK hP 2 rfl rfl 2 (by decide) k_4 (fun _ h9 => h9) f_bf0_2 dX8_back_15 ?_
      refine lv_if_ne (tgt := 23) hx hb dX8_back_18 (by decide) (fun c9 => absurd c9 (by decide)) (fun _ => ?_)
      refine lv_iconst (v := (-1)) hx hb dX8_back_21 (by decide) ?_
      have hP9 := hP.sub (ws' := []) [] rfl
      have hD9 := hD.sub (ws' := []) [] (by decide) rfl
      have hK9 := hK.sub (tys' := []) [] rfl
      exact W.iret (v := (-1)) hx hb hr (fun t ht hW => ⟨⟨(-1), (), rfl, rfl, by rw [ht]; exact hP9, va_K.moved hW.alike hK9, hD9⟩, hS.F ht⟩) hS.2.2 dX8_back_22
    · refine lv_aload_n hx hb dX8_back_9 rfl (lv_at hl 0 rfl) ?_
      refine va_get (D := (dC, dI)) (ci := 7) (v := .ref bx) (C := RX8) (T := TX8) (N := 14) hx hb hts i_X8 hown hK hP 0 rfl rfl 5 (by decide) k_3 (fun _ h9 => h9) f_xs_5 dX8_back_10 ?_
      refine lv_iload_n hx hb dX8_back_13 rfl (lv_at hl 1 rfl) ?_
      refine va_aldq hx hb hK hP 1 0 rfl rfl (p1_in (i := 1) (n := 3) (by decide)) dX8_back_14 ?_
      refine W.eq (g2 := F0 m 15 ls [.ref b1]) rfl ?_
      refine va_get (D := (dC, dI)) (ci := 1) (v := .int 0) (C := RX1) (T := TX1) (N := 3) hx hb hts i_X1 hown hK hP 3 rfl rfl 2 (by decide) k_4 (fun _ h9 => h9) f_bf1_2 dX8_back_15 ?_
      refine lv_if_ne (tgt := 23) hx hb dX8_back_18 (by decide) (fun c9 => absurd c9 (by decide)) (fun _ => ?_)
      refine lv_iconst (v := (-1)) hx hb dX8_back_21 (by decide) ?_
      have hP9 := hP.sub (ws' := []) [] rfl
      have hD9 := hD.sub (ws' := []) [] (by decide) rfl
      have hK9 := hK.sub (tys' := []) [] rfl
      exact W.iret (v := (-1)) hx hb hr (fun t ht hW => ⟨⟨(-1), (), rfl, rfl, by rw [ht]; exact hP9, va_K.moved hW.alike hK9, hD9⟩, hS.F ht⟩) hS.2.2 dX8_back_22
    · refine lv_aload_n hx hb dX8_back_9 rfl (lv_at hl 0 rfl) ?_
      refine va_get (D := (dC, dI)) (ci := 7) (v := .ref bx) (C := RX8) (T := TX8) (N := 14) hx hb hts i_X8 hown hK hP 0 rfl rfl 5 (by decide) k_3 (fun _ h9 => h9) f_xs_5 dX8_back_10 ?_
      refine lv_iload_n hx hb dX8_back_13 rfl (lv_at hl 1 rfl) ?_
      refine va_aldq hx hb hK hP 1 0 rfl rfl (p1_in (i := 2) (n := 3) (by decide)) dX8_back_14 ?_
      refine W.eq (g2 := F0 m 15 ls [.ref b2]) rfl ?_
      refine va_get (D := (dC, dI)) (ci := 1) (v := .int 0) (C := RX1) (T := TX1) (N := 3) hx hb hts i_X1 hown hK hP 4 rfl rfl 2 (by decide) k_4 (fun _ h9 => h9) f_bf2_2 dX8_back_15 ?_
      refine lv_if_ne (tgt := 23) hx hb dX8_back_18 (by decide) (fun c9 => absurd c9 (by decide)) (fun _ => ?_)
      refine lv_iconst (v := (-1)) hx hb dX8_back_21 (by decide) ?_
      have hP9 := hP.sub (ws' := []) [] rfl
      have hD9 := hD.sub (ws' := []) [] (by decide) rfl
      have hK9 := hK.sub (tys' := []) [] rfl
      exact W.iret (v := (-1)) hx hb hr (fun t ht hW => ⟨⟨(-1), (), rfl, rfl, by rw [ht]; exact hP9, va_K.moved hW.alike hK9, hD9⟩, hS.F ht⟩) hS.2.2 dX8_back_22
  · refine lv_if_eq (tgt := 21) hx hb dX8_back_6 (by decide) (fun _ => ?_) (fun c9 => absurd c9 (by decide))
    refine lv_iconst (v := (-1)) hx hb dX8_back_21 (by decide) ?_
    have hP9 := hP.sub (ws' := []) [] rfl
    have hD9 := hD.sub (ws' := []) [] (by decide) rfl
    have hK9 := hK.sub (tys' := []) [] rfl
    exact W.iret (v := (-1)) hx hb hr (fun t ht hW => ⟨⟨(-1), (), rfl, rfl, by rw [ht]; exact hP9, va_K.moved hW.alike hK9, hD9⟩, hS.F ht⟩) hS.2.2 dX8_back_22
def zo_x_fits : List Cond := [.code yX8_fits cX8_fits 4 (some .int), .fieldLink RX8 60 "BowWalk" "shop" "LBowWalk$Shop;", .methodLink RX8 281 yX5_hasPair, .instanceMethod yX5_hasPair, .selects RX5 yX5_hasPair yX5_hasPair, .initialized RX5, .fieldLink RX8 37 "BowWalk" "films" "LBowWalk$Films;", .fieldLink RX8 90 "BowWalk$Films" "count" "I"]
def zw_x_fits : List Cond := zo_x_fits ++ (zw_c_hasPair ++ (wsX80 ++ (wsX20 ++ [])))
theorem gz_x_fits : zw_x_fits.all goodWord = true := p1_ga (by decide +kernel) (p1_ga gz_c_hasPair (p1_ga gk_X8 (p1_ga gk_X2 p1_g0)))
theorem iz_x_fits : ∀ w ∈ zw_x_fits, w ∈ lw_tbl := p1_ia (p1_all [979, 508, 951, 952, 953, 106, 503, 457] (by decide +kernel)) (p1_ia iz_c_hasPair (p1_ia ik_X8 (p1_ia ik_X2 p1_i0)))
set_option maxHeartbeats 4000000 in
set_option maxRecDepth 100000 in
theorem x_fits (l : Launch) (dC : Nat → ClassId) (dI : Nat → Nat → Nat) (sz : Nat) (x : Nat) (xs : List Value) (sh : Nat) (fl : Nat) (ss : List Value) (sc : Nat) (cS : ClassId) (ff : List Value) (a1 : Int32) (f_xs_9 : xs[9]? = some (.ref sh)) (f_xs_4 : xs[4]? = some (.ref fl)) (f_ss_0 : ss[0]? = some (.ref sc)) (f_ff_7 : ff[7]? = some (.int 0)) : Met l yX8_fits zw_x_fits ({ frames := 3, cells := 0, slots := 0, locals := 63 }) (va_Pc [.ref x, .int a1] (fun U => U.heap.size = sz ∧ va_P (dC, dI) vwCl [(x, .inr (7, xs)), (sh, .inr (5, ss)), (sc, .inl (cS, 5, .inl (fun _ => 0))), (fl, .inr (2, ff))] U.heap ∧ va_K (dC, dI) vwCl [(cS, .int)] U ∧ va_D (fun _ => True) [(x, .inr (7, xs)), (sh, .inr (5, ss)), (sc, .inl (cS, 5, .inl (fun _ => 0))), (fl, .inr (2, ff))])) (va_Qi (fun (r : Int32) (_ : Unit) => r = 0) (fun _ t => va_P (dC, dI) vwCl [] t.heap ∧ va_K (dC, dI) vwCl [] t ∧ va_D (va_A [(x, .inr (7, xs)), (sh, .inr (5, ss)), (sc, .inl (cS, 5, .inl (fun _ => 0))), (fl, .inr (2, ff))] sz) []) (va_A [(x, .inr (7, xs)), (sh, .inr (5, ss)), (sc, .inl (cS, 5, .inl (fun _ => 0))), (fl, .inr (2, ff))] sz)) 0 0 (va_A [(x, .inr (7, xs)), (sh, .inr (5, ss)), (sc, .inl (cS, 5, .inl (fun _ => 0))), (fl, .inr (2, ff))] sz) := by
  refine Met.ofW (cc := cX8_fits) (maxL := 4) (ret := (some .int)) (by decide) rfl ?_
  intro p e s m args below meth c s₁ B hml hv
  obtain ⟨rfl, hsz, hP, hK, hD0⟩ := hv
  have hx := B.exec
  have hb := B.bytes
  have hr := B.returns
  have hts := atoms_spec (ws := zw_x_fits) B.pre
  have hown : s.vm.findClass RX8 = some m.cls := findClass_of_methodNamed B.named
  have hlocks := B.notSynchronized
  subst hsz
  have hD := hD0.self (sz := s.heap.size)
  generalize hAe : va_A [(x, .inr (7, xs)), (sh, .inr (5, ss)), (sc, .inl (cS, 5, .inl (fun _ => 0))), (fl, .inr (2, ff))] s.heap.size = A at hD ⊢
  have hA : ∀ q : Nat, s.heap.size ≤ q → A q := fun q h => by rw [← hAe]; exact Or.inr h
  have hS : va_S A s.heap s.heap [] := va_S.rf
  have hP : va_P (dC, dI) vwCl [(x, .inr (7, xs)), (sh, .inr (5, ss)), (sc, .inl (cS, 5, .inl (fun _ => 0))), (fl, .inr (2, ff))] s.heap := hP
  have m_0 : (.fieldLink RX8 60 "BowWalk" "shop" "LBowWalk$Shop;" : Cond) ∈ zw_x_fits := List.mem_append_left _ (List.mem_of_getElem? (i := 1) rfl)
  have k_0 := hts _ m_0
  have m_1 : (.methodLink RX8 281 yX5_hasPair : Cond) ∈ zw_x_fits := List.mem_append_left _ (List.mem_of_getElem? (i := 2) rfl)
  have k_1 := hts _ m_1
  have m_2 : (.instanceMethod yX5_hasPair : Cond) ∈ zw_x_fits := List.mem_append_left _ (List.mem_of_getElem? (i := 3) rfl)
  have k_2 := hts _ m_2
  have m_3 : (.selects RX5 yX5_hasPair yX5_hasPair : Cond) ∈ zw_x_fits := List.mem_append_left _ (List.mem_of_getElem? (i := 4) rfl)
  have k_3 := hts _ m_3
  have m_4 : (.initialized RX5 : Cond) ∈ zw_x_fits := List.mem_append_left _ (List.mem_of_getElem? (i := 5) rfl)
  have k_4 := hts _ m_4
  have m_5 : (.fieldLink RX8 37 "BowWalk" "films" "LBowWalk$Films;" : Cond) ∈ zw_x_fits := List.mem_append_left _ (List.mem_of_getElem? (i := 6) rfl)
  have k_5 := hts _ m_5
  have m_6 : (.fieldLink RX8 90 "BowWalk$Films" "count" "I" : Cond) ∈ zw_x_fits := List.mem_append_left _ (List.mem_of_getElem? (i := 7) rfl)
  have k_6 := hts _ m_6
  have g_c_hasPair : ∀ w ∈ zw_c_hasPair, w ∈ zw_x_fits := fun w h => List.mem_append_right _ (List.mem_append_left _ h)
  have i_X8 : ∀ w ∈ u_ws RX8 TX8 14, w ∈ zw_x_fits := fun w h => List.mem_append_right _ (List.mem_append_right _ (List.mem_append_left _ h))
  have i_X2 : ∀ w ∈ u_ws RX2 TX2 8, w ∈ zw_x_fits := fun w h => List.mem_append_right _ (List.mem_append_right _ (List.mem_append_right _ (List.mem_append_left _ h)))
  have hl := lv_entry ([.ref x, .int a1]) (n := 4) (Nat.le_of_ble_eq_true rfl)
  rw [lg_entry_eq]
  generalize (lg_sl ([.ref x, .int a1]) ++ List.replicate (4 - (lg_sl ([.ref x, .int a1])).length) Slot.unset).toArray = ls at hl ⊢
  have hl : lv_has ls 4 [(0, .ref x), (1, .int a1)] := hl
  refine lv_iconst (v := 0) hx hb dX8_fits_0 (by decide) ?_
  refine lv_istore_n (lv' := [(2, .int 0), (0, .ref x), (1, .int a1)]) hx hb dX8_fits_1 rfl hl (by decide) rfl (fun ls hl => ?_)
  refine lv_iconst (v := 0) hx hb dX8_fits_2 (by decide) ?_
  refine lv_istore_n (lv' := [(3, .int 0), (2, .int 0), (0, .ref x), (1, .int a1)]) hx hb dX8_fits_3 rfl hl (by decide) rfl (fun ls hl => ?_)
  refine lv_iload_n hx hb dX8_fits_4 rfl (lv_at hl 0 rfl) ?_
  refine lv_bipush (v := 12) hx hb dX8_fits_5 (by decide) ?_
  refine lv_icmp_ge (tgt := 37) hx hb dX8_fits_7 (by decide) (fun c9 => absurd c9 (by decide)) (fun _ => ?_)
  refine lv_iload_n hx hb dX8_fits_10 rfl (lv_at hl 1 rfl) ?_
  refine lv_aload_n hx hb dX8_fits_11 rfl (lv_at hl 2 rfl) ?_
  refine va_get (D := (dC, dI)) (ci := 7) (v := .ref sh) (C := RX8) (T := TX8) (N := 14) hx hb hts i_X8 hown hK hP 0 rfl rfl 9 (by decide) k_0 (fun _ h9 => h9) f_xs_9 dX8_fits_12 ?_
  refine lv_iload_n hx hb dX8_fits_15 rfl (lv_at hl 0 rfl) ?_
  have hPc := hP.sub (ws' := [(sh, .inr (5, ss)), (sc, .inl (cS, 5, .inl (fun _ => 0)))]) [1, 2] rfl
  have hDc := hD.sub (ws' := [(sh, .inr (5, ss)), (sc, .inl (cS, 5, .inl (fun _ => 0)))]) [1, 2] (by decide) rfl
  have hKc := hK.sub (tys' := [(cS, .int)]) [0] rfl
  have hFc := va_free (wc := [(sh, .inr (5, ss)), (sc, .inl (cS, 5, .inl (fun _ => 0)))]) hD hS hA [1, 2] rfl
  refine va_calli (va_runV (As := [.int 0]) (rest := [.int 0]) ⟨hx, hb, hml, hown, hts⟩ (c_hasPair l dC dI s.heap.size sh ss sc cS 0 f_ss_0) (cwV 1 hts (p1_gV m_1 m_2 m_3 m_4 g_c_hasPair gz_c_hasPair) rfl rfl rfl (by decide +kernel) ⟨by decide, by decide⟩) ⟨fun a U g mk q => by obtain ⟨q0, q1, qP, qK, qD⟩ := q; exact ⟨q0, q1, qP, va_K.moved (u := U) (U := U.calling g mk a) (Vm.Alike.refl U.vm) qK, qD⟩, va_recv hKc hPc (ci := 5) (q0 := 0) rfl rfl, fun U hU hW => ⟨rfl, by rw [hU], by rw [hU]; exact hPc, va_K.moved hW.alike hKc, hDc.weaken (fun _ _ _ _ => trivial)⟩⟩ rfl rfl hl.1 rfl (lv_room (Nat.le_of_ble_eq_true rfl)) dX8_fits_16 ⟨by decide, by decide⟩) hS (fun q _ h => hFc q h) hFc (fun r_2 u t H1 locs ht hvm hw hB hz1 hk1 hS => ?_)
  obtain ⟨hP1, hK1, hD1⟩ := hB
  rw [ht] at hP1
  obtain ⟨hP, hD⟩ := va_join (wr := [(x, .inr (7, xs)), (fl, .inr (2, ff))]) (w1 := [(sh, .inr (5, ss)), (sc, .inl (cS, 5, .inl (fun _ => 0)))]) hP hD [1, 2] [0, 3] rfl rfl (by decide) (by decide) hk1 hFc hP1 hD1
  generalize H1 = H at hP hS ⊢
  have hP : va_P (dC, dI) vwCl [(x, .inr (7, xs)), (fl, .inr (2, ff)), (sh, .inr (5, ss)), (sc, .inl (cS, 5, .inl (fun _ => 0)))] H := hP
  have hD : va_D A [(x, .inr (7, xs)), (fl, .inr (2, ff)), (sh, .inr (5, ss)), (sc, .inl (cS, 5, .inl (fun _ => 0)))] := hD
  try dsimp only at hw
  obtain rfl : r_2 = 0 := hw
  refine lv_if_eq (tgt := 28) hx hb dX8_fits_19 (by decide) (fun _ => ?_) (fun c9 => absurd c9 (by decide))
  refine lv_iconst (v := 0) hx hb dX8_fits_28 (by decide) ?_
  refine lv_ior hx hb dX8_fits_29 ?_
  refine lv_topi (fun v_4 ev_4 => ?_)
  obtain rfl : v_4 = 0 := ev_4.trans (by decide)
  refine lv_istore_n (lv' := [(2, .int 0), (3, .int 0), (0, .ref x), (1, .int a1)]) hx hb dX8_fits_30 rfl hl (by decide) rfl (fun ls hl => ?_)
  refine lv_iinc (v := 1) (lv' := [(3, .int 1), (2, .int 0), (0, .ref x), (1, .int a1)]) hx hb dX8_fits_31 hl (k := 1) rfl (by decide) (by decide) rfl (fun ls hl => ?_)
  refine lv_goto (tgt := 4) hx hb dX8_fits_34 (by decide) ?_
  refine lv_iload_n hx hb dX8_fits_4 rfl (lv_at hl 0 rfl) ?_
  refine lv_bipush (v := 12) hx hb dX8_fits_5 (by decide) ?_
  refine lv_icmp_ge (tgt := 37) hx hb dX8_fits_7 (by decide) (fun c9 => absurd c9 (by decide)) (fun _ => ?_)
  refine lv_iload_n hx hb dX8_fits_10 rfl (lv_at hl 1 rfl) ?_
  refine lv_aload_n hx hb dX8_fits_11 rfl (lv_at hl 2 rfl) ?_
  refine va_get (D := (dC, dI)) (ci := 7) (v := .ref sh) (C := RX8) (T := TX8) (N := 14) hx hb hts i_X8 hown hK hP 0 rfl rfl 9 (by decide) k_0 (fun _ h9 => h9) f_xs_9 dX8_fits_12 ?_
  refine lv_iload_n hx hb dX8_fits_15 rfl (lv_at hl 0 rfl) ?_
  have hPc := hP.sub (ws' := [(sh, .inr (5, ss)), (sc, .inl (cS, 5, .inl (fun _ => 0)))]) [2, 3] rfl
  have hDc := hD.sub (ws' := [(sh, .inr (5, ss)), (sc, .inl (cS, 5, .inl (fun _ => 0)))]) [2, 3] (by decide) rfl
  have hKc := hK.sub (tys' := [(cS, .int)]) [0] rfl
  have hFc := va_free (wc := [(sh, .inr (5, ss)), (sc, .inl (cS, 5, .inl (fun _ => 0)))]) hD hS hA [2, 3] rfl
  refine va_calli (va_runV (As := [.int 1]) (rest := [.int 0]) ⟨hx, hb, hml, hown, hts⟩ (c_hasPair l dC dI H.size sh ss sc cS 1 f_ss_0) (cwV 1 hts (p1_gV m_1 m_2 m_3 m_4 g_c_hasPair gz_c_hasPair) rfl rfl rfl (by decide +kernel) ⟨by decide, by decide⟩) ⟨fun a U g mk q => by obtain ⟨q0, q1, qP, qK, qD⟩ := q; exact ⟨q0, q1, qP, va_K.moved (u := U) (U := U.calling g mk a) (Vm.Alike.refl U.vm) qK, qD⟩, va_recv hKc hPc (ci := 5) (q0 := 0) rfl rfl, fun U hU hW => ⟨rfl, by rw [hU], by rw [hU]; exact hPc, va_K.moved hW.alike hKc, hDc.weaken (fun _ _ _ _ => trivial)⟩⟩ rfl rfl hl.1 rfl (lv_room (Nat.le_of_ble_eq_true rfl)) dX8_fits_16 ⟨by decide, by decide⟩) hS (fun q _ h => hFc q h) hFc (fun r_6 u t H1 locs ht hvm hw hB hz1 hk1 hS => ?_)
  obtain ⟨hP1, hK1, hD1⟩ := hB
  rw [ht] at hP1
  obtain ⟨hP, hD⟩ := va_join (wr := [(x, .inr (7, xs)), (fl, .inr (2, ff))]) (w1 := [(sh, .inr (5, ss)), (sc, .inl (cS, 5, .inl (fun _ => 0)))]) hP hD [2, 3] [0, 1] rfl rfl (by decide) (by decide) hk1 hFc hP1 hD1
  generalize H1 = H at hP hS ⊢
  have hP : va_P (dC, dI) vwCl [(x, .inr (7, xs)), (fl, .inr (2, ff)), (sh, .inr (5, ss)), (sc, .inl (cS, 5, .inl (fun _ => 0)))] H := hP
  have hD : va_D A [(x, .inr (7, xs)), (fl, .inr (2, ff)), (sh, .inr (5, ss)), (sc, .inl (cS, 5, .inl (fun _ => 0)))] := hD
  try dsimp only at hw
  obtain rfl : r_6 = 0 := hw
  refine lv_if_eq (tgt := 28) hx hb dX8_fits_19 (by decide) (fun _ => ?_) (fun c9 => absurd c9 (by decide))
  refine lv_iconst (v := 0) hx hb dX8_fits_28 (by decide) ?_
  refine lv_ior hx hb dX8_fits_29 ?_
  refine lv_topi (fun v_8 ev_8 => ?_)
  obtain rfl : v_8 = 0 := ev_8.trans (by decide)
  refine lv_istore_n (lv' := [(2, .int 0), (3, .int 1), (0, .ref x), (1, .int a1)]) hx hb dX8_fits_30 rfl hl (by decide) rfl (fun ls hl => ?_)
  refine lv_iinc (v := 2) (lv' := [(3, .int 2), (2, .int 0), (0, .ref x), (1, .int a1)]) hx hb dX8_fits_31 hl (k := 1) rfl (by decide) (by decide) rfl (fun ls hl => ?_)
  refine lv_goto (tgt := 4) hx hb dX8_fits_34 (by decide) ?_
  refine lv_iload_n hx hb dX8_fits_4 rfl (lv_at hl 0 rfl) ?_
  refine lv_bipush (v := 12) hx hb dX8_fits_5 (by decide) ?_
  refine lv_icmp_ge (tgt := 37) hx hb dX8_fits_7 (by decide) (fun c9 => absurd c9 (by decide)) (fun _ => ?_)
  refine lv_iload_n hx hb dX8_fits_10 rfl (lv_at hl 1 rfl) ?_
  refine lv_aload_n hx hb dX8_fits_11 rfl (lv_at hl 2 rfl) ?_
  refine va_get (D := (dC, dI)) (ci := 7) (v := .ref sh) (C := RX8) (T := TX8) (N := 14) hx hb hts i_X8 hown hK hP 0 rfl rfl 9 (by decide) k_0 (fun _ h9 => h9) f_xs_9 dX8_fits_12 ?_
  refine lv_iload_n hx hb dX8_fits_15 rfl (lv_at hl 0 rfl) ?_
  have hPc := hP.sub (ws' := [(sh, .inr (5, ss)), (sc, .inl (cS, 5, .inl (fun _ => 0)))]) [2, 3] rfl
  have hDc := hD.sub (ws' := [(sh, .inr (5, ss)), (sc, .inl (cS, 5, .inl (fun _ => 0)))]) [2, 3] (by decide) rfl
  have hKc := hK.sub (tys' := [(cS, .int)]) [0] rfl
  have hFc := va_free (wc := [(sh, .inr (5, ss)), (sc, .inl (cS, 5, .inl (fun _ => 0)))]) hD hS hA [2, 3] rfl
  refine va_calli (va_runV (As := [.int 2]) (rest := [.int 0]) ⟨hx, hb, hml, hown, hts⟩ (c_hasPair l dC dI H.size sh ss sc cS 2 f_ss_0) (cwV 1 hts (p1_gV m_1 m_2 m_3 m_4 g_c_hasPair gz_c_hasPair) rfl rfl rfl (by decide +kernel) ⟨by decide, by decide⟩) ⟨fun a U g mk q => by obtain ⟨q0, q1, qP, qK, qD⟩ := q; exact ⟨q0, q1, qP, va_K.moved (u := U) (U := U.calling g mk a) (Vm.Alike.refl U.vm) qK, qD⟩, va_recv hKc hPc (ci := 5) (q0 := 0) rfl rfl, fun U hU hW => ⟨rfl, by rw [hU], by rw [hU]; exact hPc, va_K.moved hW.alike hKc, hDc.weaken (fun _ _ _ _ => trivial)⟩⟩ rfl rfl hl.1 rfl (lv_room (Nat.le_of_ble_eq_true rfl)) dX8_fits_16 ⟨by decide, by decide⟩) hS (fun q _ h => hFc q h) hFc (fun r_10 u t H1 locs ht hvm hw hB hz1 hk1 hS => ?_)
  obtain ⟨hP1, hK1, hD1⟩ := hB
  rw [ht] at hP1
  obtain ⟨hP, hD⟩ := va_join (wr := [(x, .inr (7, xs)), (fl, .inr (2, ff))]) (w1 := [(sh, .inr (5, ss)), (sc, .inl (cS, 5, .inl (fun _ => 0)))]) hP hD [2, 3] [0, 1] rfl rfl (by decide) (by decide) hk1 hFc hP1 hD1
  generalize H1 = H at hP hS ⊢
  have hP : va_P (dC, dI) vwCl [(x, .inr (7, xs)), (fl, .inr (2, ff)), (sh, .inr (5, ss)), (sc, .inl (cS, 5, .inl (fun _ => 0)))] H := hP
  have hD : va_D A [(x, .inr (7, xs)), (fl, .inr (2, ff)), (sh, .inr (5, ss)), (sc, .inl (cS, 5, .inl (fun _ => 0)))] := hD
  try dsimp only at hw
  obtain rfl : r_10 = 0 := hw
  refine lv_if_eq (tgt := 28) hx hb dX8_fits_19 (by decide) (fun _ => ?_) (fun c9 => absurd c9 (by decide))
  refine lv_iconst (v := 0) hx hb dX8_fits_28 (by decide) ?_
  refine lv_ior hx hb dX8_fits_29 ?_
  refine lv_topi (fun v_12 ev_12 => ?_)
  obtain rfl : v_12 = 0 := ev_12.trans (by decide)
  refine lv_istore_n (lv' := [(2, .int 0), (3, .int 2), (0, .ref x), (1, .int a1)]) hx hb dX8_fits_30 rfl hl (by decide) rfl (fun ls hl => ?_)
  refine lv_iinc (v := 3) (lv' := [(3, .int 3), (2, .int 0), (0, .ref x), (1, .int a1)]) hx hb dX8_fits_31 hl (k := 1) rfl (by decide) (by decide) rfl (fun ls hl => ?_)
  refine lv_goto (tgt := 4) hx hb dX8_fits_34 (by decide) ?_
  refine lv_iload_n hx hb dX8_fits_4 rfl (lv_at hl 0 rfl) ?_
  refine lv_bipush (v := 12) hx hb dX8_fits_5 (by decide) ?_
  refine lv_icmp_ge (tgt := 37) hx hb dX8_fits_7 (by decide) (fun c9 => absurd c9 (by decide)) (fun _ => ?_)
  refine lv_iload_n hx hb dX8_fits_10 rfl (lv_at hl 1 rfl) ?_
  refine lv_aload_n hx hb dX8_fits_11 rfl (lv_at hl 2 rfl) ?_
  refine va_get (D := (dC, dI)) (ci := 7) (v := .ref sh) (C := RX8) (T := TX8) (N := 14) hx hb hts i_X8 hown hK hP 0 rfl rfl 9 (by decide) k_0 (fun _ h9 => h9) f_xs_9 dX8_fits_12 ?_
  refine lv_iload_n hx hb dX8_fits_15 rfl (lv_at hl 0 rfl) ?_
  have hPc := hP.sub (ws' := [(sh, .inr (5, ss)), (sc, .inl (cS, 5, .inl (fun _ => 0)))]) [2, 3] rfl
  have hDc := hD.sub (ws' := [(sh, .inr (5, ss)), (sc, .inl (cS, 5, .inl (fun _ => 0)))]) [2, 3] (by decide) rfl
  have hKc := hK.sub (tys' := [(cS, .int)]) [0] rfl
  have hFc := va_free (wc := [(sh, .inr (5, ss)), (sc, .inl (cS, 5, .inl (fun _ => 0)))]) hD hS hA [2, 3] rfl
  refine va_calli (va_runV (As := [.int 3]) (rest := [.int 0]) ⟨hx, hb, hml, hown, hts⟩ (c_hasPair l dC dI H.size sh ss sc cS 3 f_ss_0) (cwV 1 hts (p1_gV m_1 m_2 m_3 m_4 g_c_hasPair gz_c_hasPair) rfl rfl rfl (by decide +kernel) ⟨by decide, by decide⟩) ⟨fun a U g mk q => by obtain ⟨q0, q1, qP, qK, qD⟩ := q; exact ⟨q0, q1, qP, va_K.moved (u := U) (U := U.calling g mk a) (Vm.Alike.refl U.vm) qK, qD⟩, va_recv hKc hPc (ci := 5) (q0 := 0) rfl rfl, fun U hU hW => ⟨rfl, by rw [hU], by rw [hU]; exact hPc, va_K.moved hW.alike hKc, hDc.weaken (fun _ _ _ _ => trivial)⟩⟩ rfl rfl hl.1 rfl (lv_room (Nat.le_of_ble_eq_true rfl)) dX8_fits_16 ⟨by decide, by decide⟩) hS (fun q _ h => hFc q h) hFc (fun r_14 u t H1 locs ht hvm hw hB hz1 hk1 hS => ?_)
  obtain ⟨hP1, hK1, hD1⟩ := hB
  rw [ht] at hP1
  obtain ⟨hP, hD⟩ := va_join (wr := [(x, .inr (7, xs)), (fl, .inr (2, ff))]) (w1 := [(sh, .inr (5, ss)), (sc, .inl (cS, 5, .inl (fun _ => 0)))]) hP hD [2, 3] [0, 1] rfl rfl (by decide) (by decide) hk1 hFc hP1 hD1
  generalize H1 = H at hP hS ⊢
  have hP : va_P (dC, dI) vwCl [(x, .inr (7, xs)), (fl, .inr (2, ff)), (sh, .inr (5, ss)), (sc, .inl (cS, 5, .inl (fun _ => 0)))] H := hP
  have hD : va_D A [(x, .inr (7, xs)), (fl, .inr (2, ff)), (sh, .inr (5, ss)), (sc, .inl (cS, 5, .inl (fun _ => 0)))] := hD
  try dsimp only at hw
  obtain rfl : r_14 = 0 := hw
  refine lv_if_eq (tgt := 28) hx hb dX8_fits_19 (by decide) (fun _ => ?_) (fun c9 => absurd c9 (by decide))
  refine lv_iconst (v := 0) hx hb dX8_fits_28 (by decide) ?_
  refine lv_ior hx hb dX8_fits_29 ?_
  refine lv_topi (fun v_16 ev_16 => ?_)
  obtain rfl : v_16 = 0 := ev_16.trans (by decide)
  refine lv_istore_n (lv' := [(2, .int 0), (3, .int 3), (0, .ref x), (1, .int a1)]) hx hb dX8_fits_30 rfl hl (by decide) rfl (fun ls hl => ?_)
  refine lv_iinc (v := 4) (lv' := [(3, .int 4), (2, .int 0), (0, .ref x), (1, .int a1)]) hx hb dX8_fits_31 hl (k := 1) rfl (by decide) (by decide) rfl (fun ls hl => ?_)
  refine lv_goto (tgt := 4) hx hb dX8_fits_34 (by decide) ?_
  refine lv_iload_n hx hb dX8_fits_4 rfl (lv_at hl 0 rfl) ?_
  refine lv_bipush (v := 12) hx hb dX8_fits_5 (by decide) ?_
  refine lv_icmp_ge (tgt := 37) hx hb dX8_fits_7 (by decide) (fun c9 => absurd c9 (by decide)) (fun _ => ?_)
  refine lv_iload_n hx hb dX8_fits_10 rfl (lv_at hl 1 rfl) ?_
  refine lv_aload_n hx hb dX8_fits_11 rfl (lv_at hl 2 rfl) ?_
  refine va_get (D := (dC, dI)) (ci := 7) (v := .ref sh) (C := RX8) (T := TX8) (N := 14) hx hb hts i_X8 hown hK hP 0 rfl rfl 9 (by decide) k_0 (fun _ h9 => h9) f_xs_9 dX8_fits_12 ?_
  refine lv_iload_n hx hb dX8_fits_15 rfl (lv_at hl 0 rfl) ?_
  have hPc := hP.sub (ws' := [(sh, .inr (5, ss)), (sc, .inl (cS, 5, .inl (fun _ => 0)))]) [2, 3] rfl
  have hDc := hD.sub (ws' := [(sh, .inr (5, ss)), (sc, .inl (cS, 5, .inl (fun _ => 0)))]) [2, 3] (by decide) rfl
  have hKc := hK.sub (tys' := [(cS, .int)]) [0] rfl
  have hFc := va_free (wc := [(sh, .inr (5, ss)), (sc, .inl (cS, 5, .inl (fun _ => 0)))]) hD hS hA [2, 3] rfl
  refine va_calli (va_runV (As := [.int 4]) (rest := [.int 0]) ⟨hx, hb, hml, hown, hts⟩ (c_hasPair l dC dI H.size sh ss sc cS 4 f_ss_0) (cwV 1 hts (p1_gV m_1 m_2 m_3 m_4 g_c_hasPair gz_c_hasPair) rfl rfl rfl (by decide +kernel) ⟨by decide, by decide⟩) ⟨fun a U g mk q => by obtain ⟨q0, q1, qP, qK, qD⟩ := q; exact ⟨q0, q1, qP, va_K.moved (u := U) (U := U.calling g mk a) (Vm.Alike.refl U.vm) qK, qD⟩, va_recv hKc hPc (ci := 5) (q0 := 0) rfl rfl, fun U hU hW => ⟨rfl, by rw [hU], by rw [hU]; exact hPc, va_K.moved hW.alike hKc, hDc.weaken (fun _ _ _ _ => trivial)⟩⟩ rfl rfl hl.1 rfl (lv_room (Nat.le_of_ble_eq_true rfl)) dX8_fits_16 ⟨by decide, by decide⟩) hS (fun q _ h => hFc q h) hFc (fun r_18 u t H1 locs ht hvm hw hB hz1 hk1 hS => ?_)
  obtain ⟨hP1, hK1, hD1⟩ := hB
  rw [ht] at hP1
  obtain ⟨hP, hD⟩ := va_join (wr := [(x, .inr (7, xs)), (fl, .inr (2, ff))]) (w1 := [(sh, .inr (5, ss)), (sc, .inl (cS, 5, .inl (fun _ => 0)))]) hP hD [2, 3] [0, 1] rfl rfl (by decide) (by decide) hk1 hFc hP1 hD1
  generalize H1 = H at hP hS ⊢
  have hP : va_P (dC, dI) vwCl [(x, .inr (7, xs)), (fl, .inr (2, ff)), (sh, .inr (5, ss)), (sc, .inl (cS, 5, .inl (fun _ => 0)))] H := hP
  have hD : va_D A [(x, .inr (7, xs)), (fl, .inr (2, ff)), (sh, .inr (5, ss)), (sc, .inl (cS, 5, .inl (fun _ => 0)))] := hD
  try dsimp only at hw
  obtain rfl : r_18 = 0 := hw
  refine lv_if_eq (tgt := 28) hx hb dX8_fits_19 (by decide) (fun _ => ?_) (fun c9 => absurd c9 (by decide))
  refine lv_iconst (v := 0) hx hb dX8_fits_28 (by decide) ?_
  refine lv_ior hx hb dX8_fits_29 ?_
  refine lv_topi (fun v_20 ev_20 => ?_)
  obtain rfl : v_20 = 0 := ev_20.trans (by decide)
  refine lv_istore_n (lv' := [(2, .int 0), (3, .int 4), (0, .ref x), (1, .int a1)]) hx hb dX8_fits_30 rfl hl (by decide) rfl (fun ls hl => ?_)
  refine lv_iinc (v := 5) (lv' := [(3, .int 5), (2, .int 0), (0, .ref x), (1, .int a1)]) hx hb dX8_fits_31 hl (k := 1) rfl (by decide) (by decide) rfl (fun ls hl => ?_)
  refine lv_goto (tgt := 4) hx hb dX8_fits_34 (by decide) ?_
  refine lv_iload_n hx hb dX8_fits_4 rfl (lv_at hl 0 rfl) ?_
  refine lv_bipush (v := 12) hx hb dX8_fits_5 (by decide) ?_
  refine lv_icmp_ge (tgt := 37) hx hb dX8_fits_7 (by decide) (fun c9 => absurd c9 (by decide)) (fun _ => ?_)
  refine lv_iload_n hx hb dX8_fits_10 rfl (lv_at hl 1 rfl) ?_
  refine lv_aload_n hx hb dX8_fits_11 rfl (lv_at hl 2 rfl) ?_
  refine va_get (D := (dC, dI)) (ci := 7) (v := .ref sh) (C := RX8) (T := TX8) (N := 14) hx hb hts i_X8 hown hK hP 0 rfl rfl 9 (by decide) k_0 (fun _ h9 => h9) f_xs_9 dX8_fits_12 ?_
  refine lv_iload_n hx hb dX8_fits_15 rfl (lv_at hl 0 rfl) ?_
  have hPc := hP.sub (ws' := [(sh, .inr (5, ss)), (sc, .inl (cS, 5, .inl (fun _ => 0)))]) [2, 3] rfl
  have hDc := hD.sub (ws' := [(sh, .inr (5, ss)), (sc, .inl (cS, 5, .inl (fun _ => 0)))]) [2, 3] (by decide) rfl
  have hKc := hK.sub (tys' := [(cS, .int)]) [0] rfl
  have hFc := va_free (wc := [(sh, .inr (5, ss)), (sc, .inl (cS, 5, .inl (fun _ => 0)))]) hD hS hA [2, 3] rfl
  refine va_calli (va_runV (As := [.int 5]) (rest := [.int 0]) ⟨hx, hb, hml, hown, hts⟩ (c_hasPair l dC dI H.size sh ss sc cS 5 f_ss_0) (cwV 1 hts (p1_gV m_1 m_2 m_3 m_4 g_c_hasPair gz_c_hasPair) rfl rfl rfl (by decide +kernel) ⟨by decide, by decide⟩) ⟨fun a U g mk q => by obtain ⟨q0, q1, qP, qK, qD⟩ := q; exact ⟨q0, q1, qP, va_K.moved (u := U) (U := U.calling g mk a) (Vm.Alike.refl U.vm) qK, qD⟩, va_recv hKc hPc (ci := 5) (q0 := 0) rfl rfl, fun U hU hW => ⟨rfl, by rw [hU], by rw [hU]; exact hPc, va_K.moved hW.alike hKc, hDc.weaken (fun _ _ _ _ => trivial)⟩⟩ rfl rfl hl.1 rfl (lv_room (Nat.le_of_ble_eq_true rfl)) dX8_fits_16 ⟨by decide, by decide⟩) hS (fun q _ h => hFc q h) hFc (fun r_22 u t H1 locs ht hvm hw hB hz1 hk1 hS => ?_)
  obtain ⟨hP1, hK1, hD1⟩ := hB
  rw [ht] at hP1
  obtain ⟨hP, hD⟩ := va_join (wr := [(x, .inr (7, xs)), (fl, .inr (2, ff))]) (w1 := [(sh, .inr (5, ss)), (sc, .inl (cS, 5, .inl (fun _ => 0)))]) hP hD [2, 3] [0, 1] rfl rfl (by decide) (by decide) hk1 hFc hP1 hD1
  generalize H1 = H at hP hS ⊢
  have hP : va_P (dC, dI) vwCl [(x, .inr (7, xs)), (fl, .inr (2, ff)), (sh, .inr (5, ss)), (sc, .inl (cS, 5, .inl (fun _ => 0)))] H := hP
  have hD : va_D A [(x, .inr (7, xs)), (fl, .inr (2, ff)), (sh, .inr (5, ss)), (sc, .inl (cS, 5, .inl (fun _ => 0)))] := hD
  try dsimp only at hw
  obtain rfl : r_22 = 0 := hw
  refine lv_if_eq (tgt := 28) hx hb dX8_fits_19 (by decide) (fun _ => ?_) (fun c9 => absurd c9 (by decide))
  refine lv_iconst (v := 0) hx hb dX8_fits_28 (by decide) ?_
  refine lv_ior hx hb dX8_fits_29 ?_
  refine lv_topi (fun v_24 ev_24 => ?_)
  obtain rfl : v_24 = 0 := ev_24.trans (by decide)
  refine lv_istore_n (lv' := [(2, .int 0), (3, .int 5), (0, .ref x), (1, .int a1)]) hx hb dX8_fits_30 rfl hl (by decide) rfl (fun ls hl => ?_)
  refine lv_iinc (v := 6) (lv' := [(3, .int 6), (2, .int 0), (0, .ref x), (1, .int a1)]) hx hb dX8_fits_31 hl (k := 1) rfl (by decide) (by decide) rfl (fun ls hl => ?_)
  refine lv_goto (tgt := 4) hx hb dX8_fits_34 (by decide) ?_
  refine lv_iload_n hx hb dX8_fits_4 rfl (lv_at hl 0 rfl) ?_
  refine lv_bipush (v := 12) hx hb dX8_fits_5 (by decide) ?_
  refine lv_icmp_ge (tgt := 37) hx hb dX8_fits_7 (by decide) (fun c9 => absurd c9 (by decide)) (fun _ => ?_)
  refine lv_iload_n hx hb dX8_fits_10 rfl (lv_at hl 1 rfl) ?_
  refine lv_aload_n hx hb dX8_fits_11 rfl (lv_at hl 2 rfl) ?_
  refine va_get (D := (dC, dI)) (ci := 7) (v := .ref sh) (C := RX8) (T := TX8) (N := 14) hx hb hts i_X8 hown hK hP 0 rfl rfl 9 (by decide) k_0 (fun _ h9 => h9) f_xs_9 dX8_fits_12 ?_
  refine lv_iload_n hx hb dX8_fits_15 rfl (lv_at hl 0 rfl) ?_
  have hPc := hP.sub (ws' := [(sh, .inr (5, ss)), (sc, .inl (cS, 5, .inl (fun _ => 0)))]) [2, 3] rfl
  have hDc := hD.sub (ws' := [(sh, .inr (5, ss)), (sc, .inl (cS, 5, .inl (fun _ => 0)))]) [2, 3] (by decide) rfl
  have hKc := hK.sub (tys' := [(cS, .int)]) [0] rfl
  have hFc := va_free (wc := [(sh, .inr (5, ss)), (sc, .inl (cS, 5, .inl (fun _ => 0)))]) hD hS hA [2, 3] rfl
  refine va_calli (va_runV (As := [.int 6]) (rest := [.int 0]) ⟨hx, hb, hml, hown, hts⟩ (c_hasPair l dC dI H.size sh ss sc cS 6 f_ss_0) (cwV 1 hts (p1_gV m_1 m_2 m_3 m_4 g_c_hasPair gz_c_hasPair) rfl rfl rfl (by decide +kernel) ⟨by decide, by decide⟩) ⟨fun a U g mk q => by obtain ⟨q0, q1, qP, qK, qD⟩ := q; exact ⟨q0, q1, qP, va_K.moved (u := U) (U := U.calling g mk a) (Vm.Alike.refl U.vm) qK, qD⟩, va_recv hKc hPc (ci := 5) (q0 := 0) rfl rfl, fun U hU hW => ⟨rfl, by rw [hU], by rw [hU]; exact hPc, va_K.moved hW.alike hKc, hDc.weaken (fun _ _ _ _ => trivial)⟩⟩ rfl rfl hl.1 rfl (lv_room (Nat.le_of_ble_eq_true rfl)) dX8_fits_16 ⟨by decide, by decide⟩) hS (fun q _ h => hFc q h) hFc (fun r_26 u t H1 locs ht hvm hw hB hz1 hk1 hS => ?_)
  obtain ⟨hP1, hK1, hD1⟩ := hB
  rw [ht] at hP1
  obtain ⟨hP, hD⟩ := va_join (wr := [(x, .inr (7, xs)), (fl, .inr (2, ff))]) (w1 := [(sh, .inr (5, ss)), (sc, .inl (cS, 5, .inl (fun _ => 0)))]) hP hD [2, 3] [0, 1] rfl rfl (by decide) (by decide) hk1 hFc hP1 hD1
  generalize H1 = H at hP hS ⊢
  have hP : va_P (dC, dI) vwCl [(x, .inr (7, xs)), (fl, .inr (2, ff)), (sh, .inr (5, ss)), (sc, .inl (cS, 5, .inl (fun _ => 0)))] H := hP
  have hD : va_D A [(x, .inr (7, xs)), (fl, .inr (2, ff)), (sh, .inr (5, ss)), (sc, .inl (cS, 5, .inl (fun _ => 0)))] := hD
  try dsimp only at hw
  obtain rfl : r_26 = 0 := hw
  refine lv_if_eq (tgt := 28) hx hb dX8_fits_19 (by decide) (fun _ => ?_) (fun c9 => absurd c9 (by decide))
  refine lv_iconst (v := 0) hx hb dX8_fits_28 (by decide) ?_
  refine lv_ior hx hb dX8_fits_29 ?_
  refine lv_topi (fun v_28 ev_28 => ?_)
  obtain rfl : v_28 = 0 := ev_28.trans (by decide)
  refine lv_istore_n (lv' := [(2, .int 0), (3, .int 6), (0, .ref x), (1, .int a1)]) hx hb dX8_fits_30 rfl hl (by decide) rfl (fun ls hl => ?_)
  refine lv_iinc (v := 7) (lv' := [(3, .int 7), (2, .int 0), (0, .ref x), (1, .int a1)]) hx hb dX8_fits_31 hl (k := 1) rfl (by decide) (by decide) rfl (fun ls hl => ?_)
  refine lv_goto (tgt := 4) hx hb dX8_fits_34 (by decide) ?_
  refine lv_iload_n hx hb dX8_fits_4 rfl (lv_at hl 0 rfl) ?_
  refine lv_bipush (v := 12) hx hb dX8_fits_5 (by decide) ?_
  refine lv_icmp_ge (tgt := 37) hx hb dX8_fits_7 (by decide) (fun c9 => absurd c9 (by decide)) (fun _ => ?_)
  refine lv_iload_n hx hb dX8_fits_10 rfl (lv_at hl 1 rfl) ?_
  refine lv_aload_n hx hb dX8_fits_11 rfl (lv_at hl 2 rfl) ?_
  refine va_get (D := (dC, dI)) (ci := 7) (v := .ref sh) (C := RX8) (T := TX8) (N := 14) hx hb hts i_X8 hown hK hP 0 rfl rfl 9 (by decide) k_0 (fun _ h9 => h9) f_xs_9 dX8_fits_12 ?_
  refine lv_iload_n hx hb dX8_fits_15 rfl (lv_at hl 0 rfl) ?_
  have hPc := hP.sub (ws' := [(sh, .inr (5, ss)), (sc, .inl (cS, 5, .inl (fun _ => 0)))]) [2, 3] rfl
  have hDc := hD.sub (ws' := [(sh, .inr (5, ss)), (sc, .inl (cS, 5, .inl (fun _ => 0)))]) [2, 3] (by decide) rfl
  have hKc := hK.sub (tys' := [(cS, .int)]) [0] rfl
  have hFc := va_free (wc := [(sh, .inr (5, ss)), (sc, .inl (cS, 5, .inl (fun _ => 0)))]) hD hS hA [2, 3] rfl
  refine va_calli (va_runV (As := [.int 7]) (rest := [.int 0]) ⟨hx, hb, hml, hown, hts⟩ (c_hasPair l dC dI H.size sh ss sc cS 7 f_ss_0) (cwV 1 hts (p1_gV m_1 m_2 m_3 m_4 g_c_hasPair gz_c_hasPair) rfl rfl rfl (by decide +kernel) ⟨by decide, by decide⟩) ⟨fun a U g mk q => by obtain ⟨q0, q1, qP, qK, qD⟩ := q; exact ⟨q0, q1, qP, va_K.moved (u := U) (U := U.calling g mk a) (Vm.Alike.refl U.vm) qK, qD⟩, va_recv hKc hPc (ci := 5) (q0 := 0) rfl rfl, fun U hU hW => ⟨rfl, by rw [hU], by rw [hU]; exact hPc, va_K.moved hW.alike hKc, hDc.weaken (fun _ _ _ _ => trivial)⟩⟩ rfl rfl hl.1 rfl (lv_room (Nat.le_of_ble_eq_true rfl)) dX8_fits_16 ⟨by decide, by decide⟩) hS (fun q _ h => hFc q h) hFc (fun r_30 u t H1 locs ht hvm hw hB hz1 hk1 hS => ?_)
  obtain ⟨hP1, hK1, hD1⟩ := hB
  rw [ht] at hP1
  obtain ⟨hP, hD⟩ := va_join (wr := [(x, .inr (7, xs)), (fl, .inr (2, ff))]) (w1 := [(sh, .inr (5, ss)), (sc, .inl (cS, 5, .inl (fun _ => 0)))]) hP hD [2, 3] [0, 1] rfl rfl (by decide) (by decide) hk1 hFc hP1 hD1
  generalize H1 = H at hP hS ⊢
  have hP : va_P (dC, dI) vwCl [(x, .inr (7, xs)), (fl, .inr (2, ff)), (sh, .inr (5, ss)), (sc, .inl (cS, 5, .inl (fun _ => 0)))] H := hP
  have hD : va_D A [(x, .inr (7, xs)), (fl, .inr (2, ff)), (sh, .inr (5, ss)), (sc, .inl (cS, 5, .inl (fun _ => 0)))] := hD
  try dsimp only at hw
  obtain rfl : r_30 = 0 := hw
  refine lv_if_eq (tgt := 28) hx hb dX8_fits_19 (by decide) (fun _ => ?_) (fun c9 => absurd c9 (by decide))
  refine lv_iconst (v := 0) hx hb dX8_fits_28 (by decide) ?_
  refine lv_ior hx hb dX8_fits_29 ?_
  refine lv_topi (fun v_32 ev_32 => ?_)
  obtain rfl : v_32 = 0 := ev_32.trans (by decide)
  refine lv_istore_n (lv' := [(2, .int 0), (3, .int 7), (0, .ref x), (1, .int a1)]) hx hb dX8_fits_30 rfl hl (by decide) rfl (fun ls hl => ?_)
  refine lv_iinc (v := 8) (lv' := [(3, .int 8), (2, .int 0), (0, .ref x), (1, .int a1)]) hx hb dX8_fits_31 hl (k := 1) rfl (by decide) (by decide) rfl (fun ls hl => ?_)
  refine lv_goto (tgt := 4) hx hb dX8_fits_34 (by decide) ?_
  refine lv_iload_n hx hb dX8_fits_4 rfl (lv_at hl 0 rfl) ?_
  refine lv_bipush (v := 12) hx hb dX8_fits_5 (by decide) ?_
  refine lv_icmp_ge (tgt := 37) hx hb dX8_fits_7 (by decide) (fun c9 => absurd c9 (by decide)) (fun _ => ?_)
  refine lv_iload_n hx hb dX8_fits_10 rfl (lv_at hl 1 rfl) ?_
  refine lv_aload_n hx hb dX8_fits_11 rfl (lv_at hl 2 rfl) ?_
  refine va_get (D := (dC, dI)) (ci := 7) (v := .ref sh) (C := RX8) (T := TX8) (N := 14) hx hb hts i_X8 hown hK hP 0 rfl rfl 9 (by decide) k_0 (fun _ h9 => h9) f_xs_9 dX8_fits_12 ?_
  refine lv_iload_n hx hb dX8_fits_15 rfl (lv_at hl 0 rfl) ?_
  have hPc := hP.sub (ws' := [(sh, .inr (5, ss)), (sc, .inl (cS, 5, .inl (fun _ => 0)))]) [2, 3] rfl
  have hDc := hD.sub (ws' := [(sh, .inr (5, ss)), (sc, .inl (cS, 5, .inl (fun _ => 0)))]) [2, 3] (by decide) rfl
  have hKc := hK.sub (tys' := [(cS, .int)]) [0] rfl
  have hFc := va_free (wc := [(sh, .inr (5, ss)), (sc, .inl (cS, 5, .inl (fun _ => 0)))]) hD hS hA [2, 3] rfl
  refine va_calli (va_runV (As := [.int 8]) (rest := [.int 0]) ⟨hx, hb, hml, hown, hts⟩ (c_hasPair l dC dI H.size sh ss sc cS 8 f_ss_0) (cwV 1 hts (p1_gV m_1 m_2 m_3 m_4 g_c_hasPair gz_c_hasPair) rfl rfl rfl (by decide +kernel) ⟨by decide, by decide⟩) ⟨fun a U g mk q => by obtain ⟨q0, q1, qP, qK, qD⟩ := q; exact ⟨q0, q1, qP, va_K.moved (u := U) (U := U.calling g mk a) (Vm.Alike.refl U.vm) qK, qD⟩, va_recv hKc hPc (ci := 5) (q0 := 0) rfl rfl, fun U hU hW => ⟨rfl, by rw [hU], by rw [hU]; exact hPc, va_K.moved hW.alike hKc, hDc.weaken (fun _ _ _ _ => trivial)⟩⟩ rfl rfl hl.1 rfl (lv_room (Nat.le_of_ble_eq_true rfl)) dX8_fits_16 ⟨by decide, by decide⟩) hS (fun q _ h => hFc q h) hFc (fun r_34 u t H1 locs ht hvm hw hB hz1 hk1 hS => ?_)
  obtain ⟨hP1, hK1, hD1⟩ := hB
  rw [ht] at hP1
  obtain ⟨hP, hD⟩ := va_join (wr := [(x, .inr (7, xs)), (fl, .inr (2, ff))]) (w1 := [(sh, .inr (5, ss)), (sc, .inl (cS, 5, .inl (fun _ => 0)))]) hP hD [2, 3] [0, 1] rfl rfl (by decide) (by decide) hk1 hFc hP1 hD1
  generalize H1 = H at hP hS ⊢
  have hP : va_P (dC, dI) vwCl [(x, .inr (7, xs)), (fl, .inr (2, ff)), (sh, .inr (5, ss)), (sc, .inl (cS, 5, .inl (fun _ => 0)))] H := hP
  have hD : va_D A [(x, .inr (7, xs)), (fl, .inr (2, ff)), (sh, .inr (5, ss)), (sc, .inl (cS, 5, .inl (fun _ => 0)))] := hD
  try dsimp only at hw
  obtain rfl : r_34 = 0 := hw
  refine lv_if_eq (tgt := 28) hx hb dX8_fits_19 (by decide) (fun _ => ?_) (fun c9 => absurd c9 (by decide))
  refine lv_iconst (v := 0) hx hb dX8_fits_28 (by decide) ?_
  refine lv_ior hx hb dX8_fits_29 ?_
  refine lv_topi (fun v_36 ev_36 => ?_)
  obtain rfl : v_36 = 0 := ev_36.trans (by decide)
  refine lv_istore_n (lv' := [(2, .int 0), (3, .int 8), (0, .ref x), (1, .int a1)]) hx hb dX8_fits_30 rfl hl (by decide) rfl (fun ls hl => ?_)
  refine lv_iinc (v := 9) (lv' := [(3, .int 9), (2, .int 0), (0, .ref x), (1, .int a1)]) hx hb dX8_fits_31 hl (k := 1) rfl (by decide) (by decide) rfl (fun ls hl => ?_)
  refine lv_goto (tgt := 4) hx hb dX8_fits_34 (by decide) ?_
  refine lv_iload_n hx hb dX8_fits_4 rfl (lv_at hl 0 rfl) ?_
  refine lv_bipush (v := 12) hx hb dX8_fits_5 (by decide) ?_
  refine lv_icmp_ge (tgt := 37) hx hb dX8_fits_7 (by decide) (fun c9 => absurd c9 (by decide)) (fun _ => ?_)
  refine lv_iload_n hx hb dX8_fits_10 rfl (lv_at hl 1 rfl) ?_
  refine lv_aload_n hx hb dX8_fits_11 rfl (lv_at hl 2 rfl) ?_
  refine va_get (D := (dC, dI)) (ci := 7) (v := .ref sh) (C := RX8) (T := TX8) (N := 14) hx hb hts i_X8 hown hK hP 0 rfl rfl 9 (by decide) k_0 (fun _ h9 => h9) f_xs_9 dX8_fits_12 ?_
  refine lv_iload_n hx hb dX8_fits_15 rfl (lv_at hl 0 rfl) ?_
  have hPc := hP.sub (ws' := [(sh, .inr (5, ss)), (sc, .inl (cS, 5, .inl (fun _ => 0)))]) [2, 3] rfl
  have hDc := hD.sub (ws' := [(sh, .inr (5, ss)), (sc, .inl (cS, 5, .inl (fun _ => 0)))]) [2, 3] (by decide) rfl
  have hKc := hK.sub (tys' := [(cS, .int)]) [0] rfl
  have hFc := va_free (wc := [(sh, .inr (5, ss)), (sc, .inl (cS, 5, .inl (fun _ => 0)))]) hD hS hA [2, 3] rfl
  refine va_calli (va_runV (As := [.int 9]) (rest := [.int 0]) ⟨hx, hb, hml, hown, hts⟩ (c_hasPair l dC dI H.size sh ss sc cS 9 f_ss_0) (cwV 1 hts (p1_gV m_1 m_2 m_3 m_4 g_c_hasPair gz_c_hasPair) rfl rfl rfl (by decide +kernel) ⟨by decide, by decide⟩) ⟨fun a U g mk q => by obtain ⟨q0, q1, qP, qK, qD⟩ := q; exact ⟨q0, q1, qP, va_K.moved (u := U) (U := U.calling g mk a) (Vm.Alike.refl U.vm) qK, qD⟩, va_recv hKc hPc (ci := 5) (q0 := 0) rfl rfl, fun U hU hW => ⟨rfl, by rw [hU], by rw [hU]; exact hPc, va_K.moved hW.alike hKc, hDc.weaken (fun _ _ _ _ => trivial)⟩⟩ rfl rfl hl.1 rfl (lv_room (Nat.le_of_ble_eq_true rfl)) dX8_fits_16 ⟨by decide, by decide⟩) hS (fun q _ h => hFc q h) hFc (fun r_38 u t H1 locs ht hvm hw hB hz1 hk1 hS => ?_)
  obtain ⟨hP1, hK1, hD1⟩ := hB
  rw [ht] at hP1
  obtain ⟨hP, hD⟩ := va_join (wr := [(x, .inr (7, xs)), (fl, .inr (2, ff))]) (w1 := [(sh, .inr (5, ss)), (sc, .inl (cS, 5, .inl (fun _ => 0)))]) hP hD [2, 3] [0, 1] rfl rfl (by decide) (by decide) hk1 hFc hP1 hD1
  generalize H1 = H at hP hS ⊢
  have hP : va_P (dC, dI) vwCl [(x, .inr (7, xs)), (fl, .inr (2, ff)), (sh, .inr (5, ss)), (sc, .inl (cS, 5, .inl (fun _ => 0)))] H := hP
  have hD : va_D A [(x, .inr (7, xs)), (fl, .inr (2, ff)), (sh, .inr (5, ss)), (sc, .inl (cS, 5, .inl (fun _ => 0)))] := hD
  try dsimp only at hw
  obtain rfl : r_38 = 0 := hw
  refine lv_if_eq (tgt := 28) hx hb dX8_fits_19 (by decide) (fun _ => ?_) (fun c9 => absurd c9 (by decide))
  refine lv_iconst (v := 0) hx hb dX8_fits_28 (by decide) ?_
  refine lv_ior hx hb dX8_fits_29 ?_
  refine lv_topi (fun v_40 ev_40 => ?_)
  obtain rfl : v_40 = 0 := ev_40.trans (by decide)
  refine lv_istore_n (lv' := [(2, .int 0), (3, .int 9), (0, .ref x), (1, .int a1)]) hx hb dX8_fits_30 rfl hl (by decide) rfl (fun ls hl => ?_)
  refine lv_iinc (v := 10) (lv' := [(3, .int 10), (2, .int 0), (0, .ref x), (1, .int a1)]) hx hb dX8_fits_31 hl (k := 1) rfl (by decide) (by decide) rfl (fun ls hl => ?_)
  refine lv_goto (tgt := 4) hx hb dX8_fits_34 (by decide) ?_
  refine lv_iload_n hx hb dX8_fits_4 rfl (lv_at hl 0 rfl) ?_
  refine lv_bipush (v := 12) hx hb dX8_fits_5 (by decide) ?_
  refine lv_icmp_ge (tgt := 37) hx hb dX8_fits_7 (by decide) (fun c9 => absurd c9 (by decide)) (fun _ => ?_)
  refine lv_iload_n hx hb dX8_fits_10 rfl (lv_at hl 1 rfl) ?_
  refine lv_aload_n hx hb dX8_fits_11 rfl (lv_at hl 2 rfl) ?_
  refine va_get (D := (dC, dI)) (ci := 7) (v := .ref sh) (C := RX8) (T := TX8) (N := 14) hx hb hts i_X8 hown hK hP 0 rfl rfl 9 (by decide) k_0 (fun _ h9 => h9) f_xs_9 dX8_fits_12 ?_
  refine lv_iload_n hx hb dX8_fits_15 rfl (lv_at hl 0 rfl) ?_
  have hPc := hP.sub (ws' := [(sh, .inr (5, ss)), (sc, .inl (cS, 5, .inl (fun _ => 0)))]) [2, 3] rfl
  have hDc := hD.sub (ws' := [(sh, .inr (5, ss)), (sc, .inl (cS, 5, .inl (fun _ => 0)))]) [2, 3] (by decide) rfl
  have hKc := hK.sub (tys' := [(cS, .int)]) [0] rfl
  have hFc := va_free (wc := [(sh, .inr (5, ss)), (sc, .inl (cS, 5, .inl (fun _ => 0)))]) hD hS hA [2, 3] rfl
  refine va_calli (va_runV (As := [.int 10]) (rest := [.int 0]) ⟨hx, hb, hml, hown, hts⟩ (c_hasPair l dC dI H.size sh ss sc cS 10 f_ss_0) (cwV 1 hts (p1_gV m_1 m_2 m_3 m_4 g_c_hasPair gz_c_hasPair) rfl rfl rfl (by decide +kernel) ⟨by decide, by decide⟩) ⟨fun a U g mk q => by obtain ⟨q0, q1, qP, qK, qD⟩ := q; exact ⟨q0, q1, qP, va_K.moved (u := U) (U := U.calling g mk a) (Vm.Alike.refl U.vm) qK, qD⟩, va_recv hKc hPc (ci := 5) (q0 := 0) rfl rfl, fun U hU hW => ⟨rfl, by rw [hU], by rw [hU]; exact hPc, va_K.moved hW.alike hKc, hDc.weaken (fun _ _ _ _ => trivial)⟩⟩ rfl rfl hl.1 rfl (lv_room (Nat.le_of_ble_eq_true rfl)) dX8_fits_16 ⟨by decide, by decide⟩) hS (fun q _ h => hFc q h) hFc (fun r_42 u t H1 locs ht hvm hw hB hz1 hk1 hS => ?_)
  obtain ⟨hP1, hK1, hD1⟩ := hB
  rw [ht] at hP1
  obtain ⟨hP, hD⟩ := va_join (wr := [(x, .inr (7, xs)), (fl, .inr (2, ff))]) (w1 := [(sh, .inr (5, ss)), (sc, .inl (cS, 5, .inl (fun _ => 0)))]) hP hD [2, 3] [0, 1] rfl rfl (by decide) (by decide) hk1 hFc hP1 hD1
  generalize H1 = H at hP hS ⊢
  have hP : va_P (dC, dI) vwCl [(x, .inr (7, xs)), (fl, .inr (2, ff)), (sh, .inr (5, ss)), (sc, .inl (cS, 5, .inl (fun _ => 0)))] H := hP
  have hD : va_D A [(x, .inr (7, xs)), (fl, .inr (2, ff)), (sh, .inr (5, ss)), (sc, .inl (cS, 5, .inl (fun _ => 0)))] := hD
  try dsimp only at hw
  obtain rfl : r_42 = 0 := hw
  refine lv_if_eq (tgt := 28) hx hb dX8_fits_19 (by decide) (fun _ => ?_) (fun c9 => absurd c9 (by decide))
  refine lv_iconst (v := 0) hx hb dX8_fits_28 (by decide) ?_
  refine lv_ior hx hb dX8_fits_29 ?_
  refine lv_topi (fun v_44 ev_44 => ?_)
  obtain rfl : v_44 = 0 := ev_44.trans (by decide)
  refine lv_istore_n (lv' := [(2, .int 0), (3, .int 10), (0, .ref x), (1, .int a1)]) hx hb dX8_fits_30 rfl hl (by decide) rfl (fun ls hl => ?_)
  refine lv_iinc (v := 11) (lv' := [(3, .int 11), (2, .int 0), (0, .ref x), (1, .int a1)]) hx hb dX8_fits_31 hl (k := 1) rfl (by decide) (by decide) rfl (fun ls hl => ?_)
  refine lv_goto (tgt := 4) hx hb dX8_fits_34 (by decide) ?_
  refine lv_iload_n hx hb dX8_fits_4 rfl (lv_at hl 0 rfl) ?_
  refine lv_bipush (v := 12) hx hb dX8_fits_5 (by decide) ?_
  refine lv_icmp_ge (tgt := 37) hx hb dX8_fits_7 (by decide) (fun c9 => absurd c9 (by decide)) (fun _ => ?_)
  refine lv_iload_n hx hb dX8_fits_10 rfl (lv_at hl 1 rfl) ?_
  refine lv_aload_n hx hb dX8_fits_11 rfl (lv_at hl 2 rfl) ?_
  refine va_get (D := (dC, dI)) (ci := 7) (v := .ref sh) (C := RX8) (T := TX8) (N := 14) hx hb hts i_X8 hown hK hP 0 rfl rfl 9 (by decide) k_0 (fun _ h9 => h9) f_xs_9 dX8_fits_12 ?_
  refine lv_iload_n hx hb dX8_fits_15 rfl (lv_at hl 0 rfl) ?_
  have hPc := hP.sub (ws' := [(sh, .inr (5, ss)), (sc, .inl (cS, 5, .inl (fun _ => 0)))]) [2, 3] rfl
  have hDc := hD.sub (ws' := [(sh, .inr (5, ss)), (sc, .inl (cS, 5, .inl (fun _ => 0)))]) [2, 3] (by decide) rfl
  have hKc := hK.sub (tys' := [(cS, .int)]) [0] rfl
  have hFc := va_free (wc := [(sh, .inr (5, ss)), (sc, .inl (cS, 5, .inl (fun _ => 0)))]) hD hS hA [2, 3] rfl
  refine va_calli (va_runV (As := [.int 11]) (rest := [.int 0]) ⟨hx, hb, hml, hown, hts⟩ (c_hasPair l dC dI H.size sh ss sc cS 11 f_ss_0) (cwV 1 hts (p1_gV m_1 m_2 m_3 m_4 g_c_hasPair gz_c_hasPair) rfl rfl rfl (by decide +kernel) ⟨by decide, by decide⟩) ⟨fun a U g mk q => by obtain ⟨q0, q1, qP, qK, qD⟩ := q; exact ⟨q0, q1, qP, va_K.moved (u := U) (U := U.calling g mk a) (Vm.Alike.refl U.vm) qK, qD⟩, va_recv hKc hPc (ci := 5) (q0 := 0) rfl rfl, fun U hU hW => ⟨rfl, by rw [hU], by rw [hU]; exact hPc, va_K.moved hW.alike hKc, hDc.weaken (fun _ _ _ _ => trivial)⟩⟩ rfl rfl hl.1 rfl (lv_room (Nat.le_of_ble_eq_true rfl)) dX8_fits_16 ⟨by decide, by decide⟩) hS (fun q _ h => hFc q h) hFc (fun r_46 u t H1 locs ht hvm hw hB hz1 hk1 hS => ?_)
  obtain ⟨hP1, hK1, hD1⟩ := hB
  rw [ht] at hP1
  obtain ⟨hP, hD⟩ := va_join (wr := [(x, .inr (7, xs)), (fl, .inr (2, ff))]) (w1 := [(sh, .inr (5, ss)), (sc, .inl (cS, 5, .inl (fun _ => 0)))]) hP hD [2, 3] [0, 1] rfl rfl (by decide) (by decide) hk1 hFc hP1 hD1
  generalize H1 = H at hP hS ⊢
  have hP : va_P (dC, dI) vwCl [(x, .inr (7, xs)), (fl, .inr (2, ff)), (sh, .inr (5, ss)), (sc, .inl (cS, 5, .inl (fun _ => 0)))] H := hP
  have hD : va_D A [(x, .inr (7, xs)), (fl, .inr (2, ff)), (sh, .inr (5, ss)), (sc, .inl (cS, 5, .inl (fun _ => 0)))] := hD
  try dsimp only at hw
  obtain rfl : r_46 = 0 := hw
  refine lv_if_eq (tgt := 28) hx hb dX8_fits_19 (by decide) (fun _ => ?_) (fun c9 => absurd c9 (by decide))
  refine lv_iconst (v := 0) hx hb dX8_fits_28 (by decide) ?_
  refine lv_ior hx hb dX8_fits_29 ?_
  refine lv_topi (fun v_48 ev_48 => ?_)
  obtain rfl : v_48 = 0 := ev_48.trans (by decide)
  refine lv_istore_n (lv' := [(2, .int 0), (3, .int 11), (0, .ref x), (1, .int a1)]) hx hb dX8_fits_30 rfl hl (by decide) rfl (fun ls hl => ?_)
  refine lv_iinc (v := 12) (lv' := [(3, .int 12), (2, .int 0), (0, .ref x), (1, .int a1)]) hx hb dX8_fits_31 hl (k := 1) rfl (by decide) (by decide) rfl (fun ls hl => ?_)
  refine lv_goto (tgt := 4) hx hb dX8_fits_34 (by decide) ?_
  refine lv_iload_n hx hb dX8_fits_4 rfl (lv_at hl 0 rfl) ?_
  refine lv_bipush (v := 12) hx hb dX8_fits_5 (by decide) ?_
  refine lv_icmp_ge (tgt := 37) hx hb dX8_fits_7 (by decide) (fun _ => ?_) (fun c9 => absurd c9 (by decide))
  refine lv_iconst (v := 0) hx hb dX8_fits_37 (by decide) ?_
  refine lv_istore_n (lv' := [(3, .int 0), (2, .int 0), (0, .ref x), (1, .int a1)]) hx hb dX8_fits_38 rfl hl (by decide) rfl (fun ls hl => ?_)
  refine lv_iload_n hx hb dX8_fits_39 rfl (lv_at hl 0 rfl) ?_
  refine lv_aload_n hx hb dX8_fits_40 rfl (lv_at hl 2 rfl) ?_
  refine va_get (D := (dC, dI)) (ci := 7) (v := .ref fl) (C := RX8) (T := TX8) (N := 14) hx hb hts i_X8 hown hK hP 0 rfl rfl 4 (by decide) k_5 (fun _ h9 => h9) f_xs_4 dX8_fits_41 ?_
  refine va_get (D := (dC, dI)) (ci := 2) (v := .int 0) (C := RX2) (T := TX2) (N := 8) hx hb hts i_X2 hown hK hP 1 rfl rfl 7 (by decide) k_6 (fun _ h9 => h9) f_ff_7 dX8_fits_44 ?_
  refine lv_icmp_ge (tgt := 80) hx hb dX8_fits_47 (by decide) (fun _ => ?_) (fun c9 => absurd c9 (by decide))
  refine lv_iload_n hx hb dX8_fits_80 rfl (lv_at hl 1 rfl) ?_
  have hP9 := hP.sub (ws' := []) [] rfl
  have hD9 := hD.sub (ws' := []) [] (by decide) rfl
  have hK9 := hK.sub (tys' := []) [] rfl
  exact W.iret (v := 0) hx hb hr (fun t ht hW => ⟨⟨0, (), rfl, rfl, by rw [ht]; exact hP9, va_K.moved hW.alike hK9, hD9⟩, hS.F ht⟩) hS.2.2 dX8_fits_81
