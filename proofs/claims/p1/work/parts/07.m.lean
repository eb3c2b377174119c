def zo_m_knot : List Cond := [.code yX9_knot cX9_knot 7 (some .int), .methodLink RX9 431 yX9_isKnot, .instanceMethod yX9_isKnot, .selects RX9 yX9_isKnot yX9_isKnot, .initialized RX9]
def zw_m_knot : List Cond := zo_m_knot ++ (zw_c_isKnot ++ [])
theorem gz_m_knot : zw_m_knot.all goodWord = true := p1_ga (by decide +kernel) (p1_ga gz_c_isKnot p1_g0)
theorem iz_m_knot : ∀ w ∈ zw_m_knot, w ∈ lw_tbl := p1_ia (p1_all [1513, 1435, 1437, 71, 116] (by decide +kernel)) (p1_ia iz_c_isKnot p1_i0)
set_option maxHeartbeats 4000000 in
set_option maxRecDepth 100000 in
theorem m_knot (l : Launch) (dC : Nat → ClassId) (dI : Nat → Nat → Nat) (sz : Nat) (mo : Nat) (ms : List Value) (kn : Nat) (cK : ClassId) (kf : Nat → Int32) (a1 : Int32) (a2 : Int32) (f_ms_11 : ms[11]? = some (.ref kn)) (f_ms_43 : ms[43]? = some (.int 0)) (h_kf_0 : kf 0 = 0) : Met l yX9_knot zw_m_knot ({ frames := 2, cells := 0, slots := 0, locals := 43 }) (va_Pc [.ref mo, .int a1, .int a2] (fun U => U.heap.size = sz ∧ va_P (dC, dI) vwCl [(mo, .inr (8, ms)), (kn, .inl (cK, 2, .inl kf))] U.heap ∧ va_K (dC, dI) vwCl [(cK, .int)] U ∧ va_D (fun _ => True) [(mo, .inr (8, ms)), (kn, .inl (cK, 2, .inl kf))])) (va_Qi (fun (r : Int32) (_ : Unit) => r = (-1)) (fun _ t => va_P (dC, dI) vwCl [] t.heap ∧ va_K (dC, dI) vwCl [] t ∧ va_D (va_A [(mo, .inr (8, ms)), (kn, .inl (cK, 2, .inl kf))] sz) []) (va_A [(mo, .inr (8, ms)), (kn, .inl (cK, 2, .inl kf))] sz)) 0 0 (va_A [(mo, .inr (8, ms)), (kn, .inl (cK, 2, .inl kf))] sz) := by
  refine Met.ofW (cc := cX9_knot) (maxL := 7) (ret := (some .int)) (by decide) rfl ?_
  intro p e s m args below meth c s₁ B hml hv
  obtain ⟨rfl, hsz, hP, hK, hD0⟩ := hv
  have hx := B.exec
  have hb := B.bytes
  have hr := B.returns
  have hts := atoms_spec (ws := zw_m_knot) B.pre
  have hown : s.vm.findClass RX9 = some m.cls := findClass_of_methodNamed B.named
  have hlocks := B.notSynchronized
  subst hsz
  have hD := hD0.self (sz := s.heap.size)
  generalize hAe : va_A [(mo, .inr (8, ms)), (kn, .inl (cK, 2, .inl kf))] s.heap.size = A at hD ⊢
  have hA : ∀ q : Nat, s.heap.size ≤ q → A q := fun q h => by rw [← hAe]; exact Or.inr h
  have hS : va_S A s.heap s.heap [] := va_S.rf
  have hP : va_P (dC, dI) vwCl [(mo, .inr (8, ms)), (kn, .inl (cK, 2, .inl kf))] s.heap := hP
  have m_0 : (.methodLink RX9 431 yX9_isKnot : Cond) ∈ zw_m_knot := List.mem_append_left _ (List.mem_of_getElem? (i := 1) rfl)
  have k_0 := hts _ m_0
  have m_1 : (.instanceMethod yX9_isKnot : Cond) ∈ zw_m_knot := List.mem_append_left _ (List.mem_of_getElem? (i := 2) rfl)
  have k_1 := hts _ m_1
  have m_2 : (.selects RX9 yX9_isKnot yX9_isKnot : Cond) ∈ zw_m_knot := List.mem_append_left _ (List.mem_of_getElem? (i := 3) rfl)
  have k_2 := hts _ m_2
  have m_3 : (.initialized RX9 : Cond) ∈ zw_m_knot := List.mem_append_left _ (List.mem_of_getElem? (i := 4) rfl)
  have k_3 := hts _ m_3
  have g_c_isKnot : ∀ w ∈ zw_c_isKnot, w ∈ zw_m_knot := fun w h => List.mem_append_right _ (List.mem_append_left _ h)
  have hl := lv_entry ([.ref mo, .int a1, .int a2]) (n := 7) (Nat.le_of_ble_eq_true rfl)
  rw [lg_entry_eq]
  generalize (lg_sl ([.ref mo, .int a1, .int a2]) ++ List.replicate (7 - (lg_sl ([.ref mo, .int a1, .int a2])).length) Slot.unset).toArray = ls at hl ⊢
  have hl : lv_has ls 7 [(0, .ref mo), (1, .int a1), (2, .int a2)] := hl
  refine lv_aload_n hx hb dX9_knot_0 rfl (lv_at hl 0 rfl) ?_
  refine lv_iload_n hx hb dX9_knot_1 rfl (lv_at hl 1 rfl) ?_
  have hPc := hP.sub (ws' := [(mo, .inr (8, ms)), (kn, .inl (cK, 2, .inl kf))]) [0, 1] rfl
  have hDc := hD.sub (ws' := [(mo, .inr (8, ms)), (kn, .inl (cK, 2, .inl kf))]) [0, 1] (by decide) rfl
  have hKc := hK.sub (tys' := [(cK, .int)]) [0] rfl
  have hFc := va_free (wc := [(mo, .inr (8, ms)), (kn, .inl (cK, 2, .inl kf))]) hD hS hA [0, 1] rfl
  refine va_calli (va_runV (As := [.int a1]) (rest := []) ⟨hx, hb, hml, hown, hts⟩ (c_isKnot l dC dI s.heap.size mo ms kn cK kf a1 f_ms_11 f_ms_43 h_kf_0) (cwV 1 hts (p1_gV m_0 m_1 m_2 m_3 g_c_isKnot gz_c_isKnot) rfl rfl rfl (by decide +kernel) ⟨by decide, by decide⟩) ⟨fun a U g mk q => by obtain ⟨q0, q1, qP, qK, qD⟩ := q; exact ⟨q0, q1, qP, va_K.moved (u := U) (U := U.calling g mk a) (Vm.Alike.refl U.vm) qK, qD⟩, va_recv hKc hPc (ci := 8) (q0 := 0) rfl rfl, fun U hU hW => ⟨rfl, by rw [hU], by rw [hU]; exact hPc, va_K.moved hW.alike hKc, hDc.weaken (fun _ _ _ _ => trivial)⟩⟩ rfl rfl hl.1 rfl (lv_room (Nat.le_of_ble_eq_true rfl)) dX9_knot_2 ⟨by decide, by decide⟩) hS (fun q _ h => hFc q h) hFc (fun r_1 u t H1 locs ht hvm hw hB hz1 hk1 hS => ?_)
  obtain ⟨hP1, hK1, hD1⟩ := hB
  rw [ht] at hP1
  obtain ⟨hP, hD⟩ := va_join (wr := []) (w1 := [(mo, .inr (8, ms)), (kn, .inl (cK, 2, .inl kf))]) hP hD [0, 1] [] rfl rfl (by decide) (by decide) hk1 hFc hP1 hD1
  generalize H1 = H at hP hS ⊢
  have hP : va_P (dC, dI) vwCl [(mo, .inr (8, ms)), (kn, .inl (cK, 2, .inl kf))] H := hP
  have hD : va_D A [(mo, .inr (8, ms)), (kn, .inl (cK, 2, .inl kf))] := hD
  try dsimp only at hw
  obtain rfl : r_1 = 0 := hw
  refine lv_if_ne (tgt := 10) hx hb dX9_knot_5 (by decide) (fun c9 => absurd c9 (by decide)) (fun _ => ?_)
  refine lv_iconst (v := (-1)) hx hb dX9_knot_8 (by decide) ?_
  have hP9 := hP.sub (ws' := []) [] rfl
  have hD9 := hD.sub (ws' := []) [] (by decide) rfl
  have hK9 := hK.sub (tys' := []) [] rfl
  exact W.iret (v := (-1)) hx hb hr (fun t ht hW => ⟨⟨(-1), (), rfl, rfl, by rw [ht]; exact hP9, va_K.moved hW.alike hK9, hD9⟩, hS.F ht⟩) hS.2.2 dX9_knot_9
def zo_m_tie : List Cond := [.code yX9_tie cX9_tie 3 (some .int), .methodLink RX9 431 yX9_isKnot, .instanceMethod yX9_isKnot, .selects RX9 yX9_isKnot yX9_isKnot, .initialized RX9]
def zw_m_tie : List Cond := zo_m_tie ++ (zw_c_isKnot ++ [])
theorem gz_m_tie : zw_m_tie.all goodWord = true := p1_ga (by decide +kernel) (p1_ga gz_c_isKnot p1_g0)
theorem iz_m_tie : ∀ w ∈ zw_m_tie, w ∈ lw_tbl := p1_ia (p1_all [1434, 1435, 1437, 71, 116] (by decide +kernel)) (p1_ia iz_c_isKnot p1_i0)
set_option maxHeartbeats 4000000 in
set_option maxRecDepth 100000 in
theorem m_tie (l : Launch) (dC : Nat → ClassId) (dI : Nat → Nat → Nat) (sz : Nat) (mo : Nat) (ms : List Value) (kn : Nat) (cK : ClassId) (kf : Nat → Int32) (a1 : Int32) (a2 : Int32) (f_ms_11 : ms[11]? = some (.ref kn)) (f_ms_43 : ms[43]? = some (.int 0)) (h_kf_0 : kf 0 = 0) : Met l yX9_tie zw_m_tie ({ frames := 2, cells := 0, slots := 0, locals := 43 }) (va_Pc [.ref mo, .int a1, .int a2] (fun U => U.heap.size = sz ∧ va_P (dC, dI) vwCl [(mo, .inr (8, ms)), (kn, .inl (cK, 2, .inl kf))] U.heap ∧ va_K (dC, dI) vwCl [(cK, .int)] U ∧ va_D (fun _ => True) [(mo, .inr (8, ms)), (kn, .inl (cK, 2, .inl kf))])) (va_Qi (fun (r : Int32) (_ : Unit) => r = (-1)) (fun _ t => va_P (dC, dI) vwCl [] t.heap ∧ va_K (dC, dI) vwCl [] t ∧ va_D (va_A [(mo, .inr (8, ms)), (kn, .inl (cK, 2, .inl kf))] sz) []) (va_A [(mo, .inr (8, ms)), (kn, .inl (cK, 2, .inl kf))] sz)) 0 0 (va_A [(mo, .inr (8, ms)), (kn, .inl (cK, 2, .inl kf))] sz) := by
  refine Met.ofW (cc := cX9_tie) (maxL := 3) (ret := (some .int)) (by decide) rfl ?_
  intro p e s m args below meth c s₁ B hml hv
  obtain ⟨rfl, hsz, hP, hK, hD0⟩ := hv
  have hx := B.exec
  have hb := B.bytes
  have hr := B.returns
  have hts := atoms_spec (ws := zw_m_tie) B.pre
  have hown : s.vm.findClass RX9 = some m.cls := findClass_of_methodNamed B.named
  have hlocks := B.notSynchronized
  subst hsz
  have hD := hD0.self (sz := s.heap.size)
  generalize hAe : va_A [(mo, .inr (8, ms)), (kn, .inl (cK, 2, .inl kf))] s.heap.size = A at hD ⊢
  have hA : ∀ q : Nat, s.heap.size ≤ q → A q := fun q h => by rw [← hAe]; exact Or.inr h
  have hS : va_S A s.heap s.heap [] := va_S.rf
  have hP : va_P (dC, dI) vwCl [(mo, .inr (8, ms)), (kn, .inl (cK, 2, .inl kf))] s.heap := hP
  have m_0 : (.methodLink RX9 431 yX9_isKnot : Cond) ∈ zw_m_tie := List.mem_append_left _ (List.mem_of_getElem? (i := 1) rfl)
  have k_0 := hts _ m_0
  have m_1 : (.instanceMethod yX9_isKnot : Cond) ∈ zw_m_tie := List.mem_append_left _ (List.mem_of_getElem? (i := 2) rfl)
  have k_1 := hts _ m_1
  have m_2 : (.selects RX9 yX9_isKnot yX9_isKnot : Cond) ∈ zw_m_tie := List.mem_append_left _ (List.mem_of_getElem? (i := 3) rfl)
  have k_2 := hts _ m_2
  have m_3 : (.initialized RX9 : Cond) ∈ zw_m_tie := List.mem_append_left _ (List.mem_of_getElem? (i := 4) rfl)
  have k_3 := hts _ m_3
  have g_c_isKnot : ∀ w ∈ zw_c_isKnot, w ∈ zw_m_tie := fun w h => List.mem_append_right _ (List.mem_append_left _ h)
  have hl := lv_entry ([.ref mo, .int a1, .int a2]) (n := 3) (Nat.le_of_ble_eq_true rfl)
  rw [lg_entry_eq]
  generalize (lg_sl ([.ref mo, .int a1, .int a2]) ++ List.replicate (3 - (lg_sl ([.ref mo, .int a1, .int a2])).length) Slot.unset).toArray = ls at hl ⊢
  have hl : lv_has ls 3 [(0, .ref mo), (1, .int a1), (2, .int a2)] := hl
  refine lv_aload_n hx hb dX9_tie_0 rfl (lv_at hl 0 rfl) ?_
  refine lv_iload_n hx hb dX9_tie_1 rfl (lv_at hl 1 rfl) ?_
  have hPc := hP.sub (ws' := [(mo, .inr (8, ms)), (kn, .inl (cK, 2, .inl kf))]) [0, 1] rfl
  have hDc := hD.sub (ws' := [(mo, .inr (8, ms)), (kn, .inl (cK, 2, .inl kf))]) [0, 1] (by decide) rfl
  have hKc := hK.sub (tys' := [(cK, .int)]) [0] rfl
  have hFc := va_free (wc := [(mo, .inr (8, ms)), (kn, .inl (cK, 2, .inl kf))]) hD hS hA [0, 1] rfl
  refine va_calli (va_runV (As := [.int a1]) (rest := []) ⟨hx, hb, hml, hown, hts⟩ (c_isKnot l dC dI s.heap.size mo ms kn cK kf a1 f_ms_11 f_ms_43 h_kf_0) (cwV 1 hts (p1_gV m_0 m_1 m_2 m_3 g_c_isKnot gz_c_isKnot) rfl rfl rfl (by decide +kernel) ⟨by decide, by decide⟩) ⟨fun a U g mk q => by obtain ⟨q0, q1, qP, qK, qD⟩ := q; exact ⟨q0, q1, qP, va_K.moved (u := U) (U := U.calling g mk a) (Vm.Alike.refl U.vm) qK, qD⟩, va_recv hKc hPc (ci := 8) (q0 := 0) rfl rfl, fun U hU hW => ⟨rfl, by rw [hU], by rw [hU]; exact hPc, va_K.moved hW.alike hKc, hDc.weaken (fun _ _ _ _ => trivial)⟩⟩ rfl rfl hl.1 rfl (lv_room (Nat.le_of_ble_eq_true rfl)) dX9_tie_2 ⟨by decide, by decide⟩) hS (fun q _ h => hFc q h) hFc (fun r_1 u t H1 locs ht hvm hw hB hz1 hk1 hS => ?_)
  obtain ⟨hP1, hK1, hD1⟩ := hB
  rw [ht] at hP1
  obtain ⟨hP, hD⟩ := va_join (wr := []) (w1 := [(mo, .inr (8, ms)), (kn, .inl (cK, 2, .inl kf))]) hP hD [0, 1] [] rfl rfl (by decide) (by decide) hk1 hFc hP1 hD1
  generalize H1 = H at hP hS ⊢
  have hP : va_P (dC, dI) vwCl [(mo, .inr (8, ms)), (kn, .inl (cK, 2, .inl kf))] H := hP
  have hD : va_D A [(mo, .inr (8, ms)), (kn, .inl (cK, 2, .inl kf))] := hD
  try dsimp only at hw
  obtain rfl : r_1 = 0 := hw
  refine lv_if_eq (tgt := 16) hx hb dX9_tie_5 (by decide) (fun _ => ?_) (fun c9 => absurd c9 (by decide))
  refine lv_iconst (v := (-1)) hx hb dX9_tie_16 (by decide) ?_
  have hP9 := hP.sub (ws' := []) [] rfl
  have hD9 := hD.sub (ws' := []) [] (by decide) rfl
  have hK9 := hK.sub (tys' := []) [] rfl
  exact W.iret (v := (-1)) hx hb hr (fun t ht hW => ⟨⟨(-1), (), rfl, rfl, by rw [ht]; exact hP9, va_K.moved hW.alike hK9, hD9⟩, hS.F ht⟩) hS.2.2 dX9_tie_17
def zo_m_walk : List Cond := [.code yX9_walk cX9_walk 5 (some .int), .fieldLink RX9 297 "BowWalkModel" "hasBow" "Z"]
def zw_m_walk : List Cond := zo_m_walk ++ (wsX90 ++ [])
theorem gz_m_walk : zw_m_walk.all goodWord = true := p1_ga (by decide +kernel) (p1_ga gk_X9 p1_g0)
theorem iz_m_walk : ∀ w ∈ zw_m_walk, w ∈ lw_tbl := p1_ia (p1_all [1457, 1097] (by decide +kernel)) (p1_ia ik_X9 p1_i0)
set_option maxHeartbeats 4000000 in
set_option maxRecDepth 100000 in
theorem m_walk (l : Launch) (dC : Nat → ClassId) (dI : Nat → Nat → Nat) (sz : Nat) (mo : Nat) (ms : List Value) (a1 : Int32) (a2 : Int32) (f_ms_60 : ms[60]? = some (.int 0)) : Met l yX9_walk zw_m_walk ({ frames := 0, cells := 0, slots := 0, locals := 0 }) (va_Pc [.ref mo, .int a1, .int a2] (fun U => U.heap.size = sz ∧ va_P (dC, dI) vwCl [(mo, .inr (8, ms))] U.heap ∧ va_K (dC, dI) vwCl [] U ∧ va_D (fun _ => True) [(mo, .inr (8, ms))])) (va_Qi (fun (r : Int32) (_ : Unit) => r = (-1)) (fun _ t => va_P (dC, dI) vwCl [] t.heap ∧ va_K (dC, dI) vwCl [] t ∧ va_D (va_A [(mo, .inr (8, ms))] sz) []) (va_A [(mo, .inr (8, ms))] sz)) 0 0 (va_A [(mo, .inr (8, ms))] sz) := by
  refine Met.ofW (cc := cX9_walk) (maxL := 5) (ret := (some .int)) (by decide) rfl ?_
  intro p e s m args below meth c s₁ B hml hv
  obtain ⟨rfl, hsz, hP, hK, hD0⟩ := hv
  have hx := B.exec
  have hb := B.bytes
  have hr := B.returns
  have hts := atoms_spec (ws := zw_m_walk) B.pre
  have hown : s.vm.findClass RX9 = some m.cls := findClass_of_methodNamed B.named
  have hlocks := B.notSynchronized
  subst hsz
  have hD := hD0.self (sz := s.heap.size)
  generalize hAe : va_A [(mo, .inr (8, ms))] s.heap.size = A at hD ⊢
  have hA : ∀ q : Nat, s.heap.size ≤ q → A q := fun q h => by rw [← hAe]; exact Or.inr h
  have hS : va_S A s.heap s.heap [] := va_S.rf
  have hP : va_P (dC, dI) vwCl [(mo, .inr (8, ms))] s.heap := hP
  have m_0 : (.fieldLink RX9 297 "BowWalkModel" "hasBow" "Z" : Cond) ∈ zw_m_walk := List.mem_append_left _ (List.mem_of_getElem? (i := 1) rfl)
  have k_0 := hts _ m_0
  have i_X9 : ∀ w ∈ u_ws RX9 TX9 81, w ∈ zw_m_walk := fun w h => List.mem_append_right _ (List.mem_append_left _ h)
  have hl := lv_entry ([.ref mo, .int a1, .int a2]) (n := 5) (Nat.le_of_ble_eq_true rfl)
  rw [lg_entry_eq]
  generalize (lg_sl ([.ref mo, .int a1, .int a2]) ++ List.replicate (5 - (lg_sl ([.ref mo, .int a1, .int a2])).length) Slot.unset).toArray = ls at hl ⊢
  have hl : lv_has ls 5 [(0, .ref mo), (1, .int a1), (2, .int a2)] := hl
  refine lv_aload_n hx hb dX9_walk_0 rfl (lv_at hl 0 rfl) ?_
  refine va_get (D := (dC, dI)) (ci := 8) (v := .int 0) (C := RX9) (T := TX9) (N := 81) hx hb hts i_X9 hown hK hP 0 rfl rfl 60 (by decide) k_0 (fun _ h9 => h9) f_ms_60 dX9_walk_1 ?_
  refine lv_if_eq (tgt := 38) hx hb dX9_walk_4 (by decide) (fun _ => ?_) (fun c9 => absurd c9 (by decide))
  refine lv_iconst (v := (-1)) hx hb dX9_walk_38 (by decide) ?_
  have hP9 := hP.sub (ws' := []) [] rfl
  have hD9 := hD.sub (ws' := []) [] (by decide) rfl
  have hK9 := hK.sub (tys' := []) [] rfl
  exact W.iret (v := (-1)) hx hb hr (fun t ht hW => ⟨⟨(-1), (), rfl, rfl, by rw [ht]; exact hP9, va_K.moved hW.alike hK9, hD9⟩, hS.F ht⟩) hS.2.2 dX9_walk_39
def zo_m_pull : List Cond := [.code yX9_pull cX9_pull 3 (some .int), .fieldLink RX9 297 "BowWalkModel" "hasBow" "Z"]
def zw_m_pull : List Cond := zo_m_pull ++ (wsX90 ++ [])
theorem gz_m_pull : zw_m_pull.all goodWord = true := p1_ga (by decide +kernel) (p1_ga gk_X9 p1_g0)
theorem iz_m_pull : ∀ w ∈ zw_m_pull, w ∈ lw_tbl := p1_ia (p1_all [1505, 1097] (by decide +kernel)) (p1_ia ik_X9 p1_i0)
set_option maxHeartbeats 4000000 in
set_option maxRecDepth 100000 in
theorem m_pull (l : Launch) (dC : Nat → ClassId) (dI : Nat → Nat → Nat) (sz : Nat) (mo : Nat) (ms : List Value) (a1 : Int32) (f_ms_60 : ms[60]? = some (.int 0)) : Met l yX9_pull zw_m_pull ({ frames := 0, cells := 0, slots := 0, locals := 0 }) (va_Pc [.ref mo, .int a1] (fun U => U.heap.size = sz ∧ va_P (dC, dI) vwCl [(mo, .inr (8, ms))] U.heap ∧ va_K (dC, dI) vwCl [] U ∧ va_D (fun _ => True) [(mo, .inr (8, ms))])) (va_Qi (fun (r : Int32) (_ : Unit) => r = (-1)) (fun _ t => va_P (dC, dI) vwCl [] t.heap ∧ va_K (dC, dI) vwCl [] t ∧ va_D (va_A [(mo, .inr (8, ms))] sz) []) (va_A [(mo, .inr (8, ms))] sz)) 0 0 (va_A [(mo, .inr (8, ms))] sz) := by
  refine Met.ofW (cc := cX9_pull) (maxL := 3) (ret := (some .int)) (by decide) rfl ?_
  intro p e s m args below meth c s₁ B hml hv
  obtain ⟨rfl, hsz, hP, hK, hD0⟩ := hv
  have hx := B.exec
  have hb := B.bytes
  have hr := B.returns
  have hts := atoms_spec (ws := zw_m_pull) B.pre
  have hown : s.vm.findClass RX9 = some m.cls := findClass_of_methodNamed B.named
  have hlocks := B.notSynchronized
  subst hsz
  have hD := hD0.self (sz := s.heap.size)
  generalize hAe : va_A [(mo, .inr (8, ms))] s.heap.size = A at hD ⊢
  have hA : ∀ q : Nat, s.heap.size ≤ q → A q := fun q h => by rw [← hAe]; exact Or.inr h
  have hS : va_S A s.heap s.heap [] := va_S.rf
  have hP : va_P (dC, dI) vwCl [(mo, .inr (8, ms))] s.heap := hP
  have m_0 : (.fieldLink RX9 297 "BowWalkModel" "hasBow" "Z" : Cond) ∈ zw_m_pull := List.mem_append_left _ (List.mem_of_getElem? (i := 1) rfl)
  have k_0 := hts _ m_0
  have i_X9 : ∀ w ∈ u_ws RX9 TX9 81, w ∈ zw_m_pull := fun w h => List.mem_append_right _ (List.mem_append_left _ h)
  have hl := lv_entry ([.ref mo, .int a1]) (n := 3) (Nat.le_of_ble_eq_true rfl)
  rw [lg_entry_eq]
  generalize (lg_sl ([.ref mo, .int a1]) ++ List.replicate (3 - (lg_sl ([.ref mo, .int a1])).length) Slot.unset).toArray = ls at hl ⊢
  have hl : lv_has ls 3 [(0, .ref mo), (1, .int a1)] := hl
  refine lv_aload_n hx hb dX9_pull_0 rfl (lv_at hl 0 rfl) ?_
  refine va_get (D := (dC, dI)) (ci := 8) (v := .int 0) (C := RX9) (T := TX9) (N := 81) hx hb hts i_X9 hown hK hP 0 rfl rfl 60 (by decide) k_0 (fun _ h9 => h9) f_ms_60 dX9_pull_1 ?_
  refine lv_if_eq (tgt := 25) hx hb dX9_pull_4 (by decide) (fun _ => ?_) (fun c9 => absurd c9 (by decide))
  refine lv_iconst (v := (-1)) hx hb dX9_pull_25 (by decide) ?_
  have hP9 := hP.sub (ws' := []) [] rfl
  have hD9 := hD.sub (ws' := []) [] (by decide) rfl
  have hK9 := hK.sub (tys' := []) [] rfl
  exact W.iret (v := (-1)) hx hb hr (fun t ht hW => ⟨⟨(-1), (), rfl, rfl, by rw [ht]; exact hP9, va_K.moved hW.alike hK9, hD9⟩, hS.F ht⟩) hS.2.2 dX9_pull_26
def zo_m_bow : List Cond := [.code yX9_bow cX9_bow 2 (some .int), .fieldLink RX9 297 "BowWalkModel" "hasBow" "Z"]
def zw_m_bow : List Cond := zo_m_bow ++ (wsX90 ++ [])
theorem gz_m_bow : zw_m_bow.all goodWord = true := p1_ga (by decide +kernel) (p1_ga gk_X9 p1_g0)
theorem iz_m_bow : ∀ w ∈ zw_m_bow, w ∈ lw_tbl := p1_ia (p1_all [1509, 1097] (by decide +kernel)) (p1_ia ik_X9 p1_i0)
set_option maxHeartbeats 4000000 in
set_option maxRecDepth 100000 in
theorem m_bow (l : Launch) (dC : Nat → ClassId) (dI : Nat → Nat → Nat) (sz : Nat) (mo : Nat) (ms : List Value) (a1 : Int32) (f_ms_60 : ms[60]? = some (.int 0)) : Met l yX9_bow zw_m_bow ({ frames := 0, cells := 0, slots := 0, locals := 0 }) (va_Pc [.ref mo, .int a1] (fun U => U.heap.size = sz ∧ va_P (dC, dI) vwCl [(mo, .inr (8, ms))] U.heap ∧ va_K (dC, dI) vwCl [] U ∧ va_D (fun _ => True) [(mo, .inr (8, ms))])) (va_Qi (fun (r : Int32) (_ : Unit) => r = (-1)) (fun _ t => va_P (dC, dI) vwCl [] t.heap ∧ va_K (dC, dI) vwCl [] t ∧ va_D (va_A [(mo, .inr (8, ms))] sz) []) (va_A [(mo, .inr (8, ms))] sz)) 0 0 (va_A [(mo, .inr (8, ms))] sz) := by
  refine Met.ofW (cc := cX9_bow) (maxL := 2) (ret := (some .int)) (by decide) rfl ?_
  intro p e s m args below meth c s₁ B hml hv
  obtain ⟨rfl, hsz, hP, hK, hD0⟩ := hv
  have hx := B.exec
  have hb := B.bytes
  have hr := B.returns
  have hts := atoms_spec (ws := zw_m_bow) B.pre
  have hown : s.vm.findClass RX9 = some m.cls := findClass_of_methodNamed B.named
  have hlocks := B.notSynchronized
  subst hsz
  have hD := hD0.self (sz := s.heap.size)
  generalize hAe : va_A [(mo, .inr (8, ms))] s.heap.size = A at hD ⊢
  have hA : ∀ q : Nat, s.heap.size ≤ q → A q := fun q h => by rw [← hAe]; exact Or.inr h
  have hS : va_S A s.heap s.heap [] := va_S.rf
  have hP : va_P (dC, dI) vwCl [(mo, .inr (8, ms))] s.heap := hP
  have m_0 : (.fieldLink RX9 297 "BowWalkModel" "hasBow" "Z" : Cond) ∈ zw_m_bow := List.mem_append_left _ (List.mem_of_getElem? (i := 1) rfl)
  have k_0 := hts _ m_0
  have i_X9 : ∀ w ∈ u_ws RX9 TX9 81, w ∈ zw_m_bow := fun w h => List.mem_append_right _ (List.mem_append_left _ h)
  have hl := lv_entry ([.ref mo, .int a1]) (n := 2) (Nat.le_of_ble_eq_true rfl)
  rw [lg_entry_eq]
  generalize (lg_sl ([.ref mo, .int a1]) ++ List.replicate (2 - (lg_sl ([.ref mo, .int a1])).length) Slot.unset).toArray = ls at hl ⊢
  have hl : lv_has ls 2 [(0, .ref mo), (1, .int a1)] := hl
  refine lv_aload_n hx hb dX9_bow_0 rfl (lv_at hl 0 rfl) ?_
  refine va_get (D := (dC, dI)) (ci := 8) (v := .int 0) (C := RX9) (T := TX9) (N := 81) hx hb hts i_X9 hown hK hP 0 rfl rfl 60 (by decide) k_0 (fun _ h9 => h9) f_ms_60 dX9_bow_1 ?_
  refine lv_if_ne (tgt := 9) hx hb dX9_bow_4 (by decide) (fun c9 => absurd c9 (by decide)) (fun _ => ?_)
  refine lv_iconst (v := (-1)) hx hb dX9_bow_7 (by decide) ?_
  have hP9 := hP.sub (ws' := []) [] rfl
  have hD9 := hD.sub (ws' := []) [] (by decide) rfl
  have hK9 := hK.sub (tys' := []) [] rfl
  exact W.iret (v := (-1)) hx hb hr (fun t ht hW => ⟨⟨(-1), (), rfl, rfl, by rw [ht]; exact hP9, va_K.moved hW.alike hK9, hD9⟩, hS.F ht⟩) hS.2.2 dX9_bow_8
def zo_m_image : List Cond := [.code yX9_image cX9_image 2 (some .int), .methodLink RX9 389 yX9_isIn, .static yX9_isIn, .initialized RX9, .fieldLink RX9 297 "BowWalkModel" "hasBow" "Z"]
def zw_m_image : List Cond := zo_m_image ++ (zw_c_isIn ++ (wsX90 ++ []))
theorem gz_m_image : zw_m_image.all goodWord = true := p1_ga (by decide +kernel) (p1_ga gz_c_isIn (p1_ga gk_X9 p1_g0))
theorem iz_m_image : ∀ w ∈ zw_m_image, w ∈ lw_tbl := p1_ia (p1_all [1680, 1439, 1440, 116, 1097] (by decide +kernel)) (p1_ia iz_c_isIn (p1_ia ik_X9 p1_i0))
set_option maxHeartbeats 4000000 in
set_option maxRecDepth 100000 in
theorem m_image (l : Launch) (dC : Nat → ClassId) (dI : Nat → Nat → Nat) (sz : Nat) (mo : Nat) (ms : List Value) (a1 : Int32) (f_ms_60 : ms[60]? = some (.int 0)) : Met l yX9_image zw_m_image ({ frames := 1, cells := 0, slots := 0, locals := 22 }) (va_Pc [.ref mo, .int a1] (fun U => U.heap.size = sz ∧ va_P (dC, dI) vwCl [(mo, .inr (8, ms))] U.heap ∧ va_K (dC, dI) vwCl [] U ∧ va_D (fun _ => True) [(mo, .inr (8, ms))])) (va_Qi (fun (r : Int32) (_ : Unit) => r = (-1)) (fun _ t => va_P (dC, dI) vwCl [] t.heap ∧ va_K (dC, dI) vwCl [] t ∧ va_D (va_A [(mo, .inr (8, ms))] sz) []) (va_A [(mo, .inr (8, ms))] sz)) 0 0 (va_A [(mo, .inr (8, ms))] sz) := by
  refine Met.ofW (cc := cX9_image) (maxL := 2) (ret := (some .int)) (by decide) rfl ?_
  intro p e s m args below meth c s₁ B hml hv
  obtain ⟨rfl, hsz, hP, hK, hD0⟩ := hv
  have hx := B.exec
  have hb := B.bytes
  have hr := B.returns
  have hts := atoms_spec (ws := zw_m_image) B.pre
  have hown : s.vm.findClass RX9 = some m.cls := findClass_of_methodNamed B.named
  have hlocks := B.notSynchronized
  subst hsz
  have hD := hD0.self (sz := s.heap.size)
  generalize hAe : va_A [(mo, .inr (8, ms))] s.heap.size = A at hD ⊢
  have hA : ∀ q : Nat, s.heap.size ≤ q → A q := fun q h => by rw [← hAe]; exact Or.inr h
  have hS : va_S A s.heap s.heap [] := va_S.rf
  have hP : va_P (dC, dI) vwCl [(mo, .inr (8, ms))] s.heap := hP
  have m_0 : (.methodLink RX9 389 yX9_isIn : Cond) ∈ zw_m_image := List.mem_append_left _ (List.mem_of_getElem? (i := 1) rfl)
  have k_0 := hts _ m_0
  have m_1 : (.static yX9_isIn : Cond) ∈ zw_m_image := List.mem_append_left _ (List.mem_of_getElem? (i := 2) rfl)
  have k_1 := hts _ m_1
  have m_2 : (.initialized RX9 : Cond) ∈ zw_m_image := List.mem_append_left _ (List.mem_of_getElem? (i := 3) rfl)
  have k_2 := hts _ m_2
  have m_3 : (.fieldLink RX9 297 "BowWalkModel" "hasBow" "Z" : Cond) ∈ zw_m_image := List.mem_append_left _ (List.mem_of_getElem? (i := 4) rfl)
  have k_3 := hts _ m_3
  have g_c_isIn : ∀ w ∈ zw_c_isIn, w ∈ zw_m_image := fun w h => List.mem_append_right _ (List.mem_append_left _ h)
  have i_X9 : ∀ w ∈ u_ws RX9 TX9 81, w ∈ zw_m_image := fun w h => List.mem_append_right _ (List.mem_append_right _ (List.mem_append_left _ h))
  have hl := lv_entry ([.ref mo, .int a1]) (n := 2) (Nat.le_of_ble_eq_true rfl)
  rw [lg_entry_eq]
  generalize (lg_sl ([.ref mo, .int a1]) ++ List.replicate (2 - (lg_sl ([.ref mo, .int a1])).length) Slot.unset).toArray = ls at hl ⊢
  have hl : lv_has ls 2 [(0, .ref mo), (1, .int a1)] := hl
  refine lv_iload_n hx hb dX9_image_0 rfl (lv_at hl 1 rfl) ?_
  refine lv_iconst (v := 0) hx hb dX9_image_1 (by decide) ?_
  refine lv_iconst (v := 2) hx hb dX9_image_2 (by decide) ?_
  have hPc := hP.sub (ws' := []) [] rfl
  have hDc := hD.sub (ws' := []) [] (by decide) rfl
  have hKc := hK.sub (tys' := []) [] rfl
  have hFc := va_free (wc := []) hD hS hA [] rfl
  refine va_calli (va_runS (As := [.int a1, .int 0, .int 2]) (rest := []) ⟨hx, hb, hml, hown, hts⟩ (c_isIn l dC dI s.heap.size a1 0 2) (va_cwS 3 hts (p1_gS m_0 m_1 m_2 g_c_isIn gz_c_isIn) rfl rfl rfl (by decide +kernel) ⟨by decide, by decide⟩) ⟨fun a U g mk q => by obtain ⟨q0, q1, qP, qK, qD⟩ := q; exact ⟨q0, q1, qP, va_K.moved (u := U) (U := U.calling g mk a) (Vm.Alike.refl U.vm) qK, qD⟩, fun U hU hW => ⟨rfl, by rw [hU], by rw [hU]; exact hPc, va_K.moved hW.alike hKc, hDc.weaken (fun _ _ _ _ => trivial)⟩⟩ rfl rfl hl.1 rfl (lv_room (Nat.le_of_ble_eq_true rfl)) dX9_image_3 ⟨by decide, by decide⟩) hS (fun q _ h => hFc q h) hFc (fun r_1 u t H1 locs ht hvm hw hB hz1 hk1 hS => ?_)
  obtain ⟨hP1, hK1, hD1⟩ := hB
  rw [ht] at hP1
  obtain ⟨hP, hD⟩ := va_join (wr := [(mo, .inr (8, ms))]) (w1 := []) hP hD [] [0] rfl rfl (by decide) (by decide) hk1 hFc hP1 hD1
  generalize H1 = H at hP hS ⊢
  have hP : va_P (dC, dI) vwCl [(mo, .inr (8, ms))] H := hP
  have hD : va_D A [(mo, .inr (8, ms))] := hD
  try dsimp only at hw
  rcases hw with ⟨rfl, hw_2⟩ | ⟨rfl, hw_2⟩
  · refine lv_if_eq (tgt := 16) hx hb dX9_image_6 (by decide) (fun c9 => absurd c9 (by decide)) (fun _ => ?_)
    refine lv_aload_n hx hb dX9_image_9 rfl (lv_at hl 0 rfl) ?_
    refine va_get (D := (dC, dI)) (ci := 8) (v := .int 0) (C := RX9) (T := TX9) (N := 81) hx hb hts i_X9 hown hK hP 0 rfl rfl 60 (by decide) k_3 (fun _ h9 => h9) f_ms_60 dX9_image_10 ?_
    refine lv_if_ne (tgt := 18) hx hb dX9_image_13 (by decide) (fun c9 => absurd c9 (by decide)) (fun _ => ?_)
    refine lv_iconst (v := (-1)) hx hb dX9_image_16 (by decide) ?_
    have hP9 := hP.sub (ws' := []) [] rfl
    have hD9 := hD.sub (ws' := []) [] (by decide) rfl
    have hK9 := hK.sub (tys' := []) [] rfl
    exact W.iret (v := (-1)) hx hb hr (fun t ht hW => ⟨⟨(-1), (), rfl, rfl, by rw [ht]; exact hP9, va_K.moved hW.alike hK9, hD9⟩, hS.F ht⟩) hS.2.2 dX9_image_17
  · refine lv_if_eq (tgt := 16) hx hb dX9_image_6 (by decide) (fun _ => ?_) (fun c9 => absurd c9 (by decide))
    refine lv_iconst (v := (-1)) hx hb dX9_image_16 (by decide) ?_
    have hP9 := hP.sub (ws' := []) [] rfl
    have hD9 := hD.sub (ws' := []) [] (by decide) rfl
    have hK9 := hK.sub (tys' := []) [] rfl
    exact W.iret (v := (-1)) hx hb hr (fun t ht hW => ⟨⟨(-1), (), rfl, rfl, by rw [ht]; exact hP9, va_K.moved hW.alike hK9, hD9⟩, hS.F ht⟩) hS.2.2 dX9_image_17
def zo_m_holds : List Cond := [.code yX9_holds cX9_holds 5 (some .int), .methodLink RX9 485 yX9_isAll, .instanceMethod yX9_isAll, .selects RX9 yX9_isAll yX9_isAll, .initialized RX9]
def zw_m_holds : List Cond := zo_m_holds ++ (zw_c_isAll ++ [])
theorem gz_m_holds : zw_m_holds.all goodWord = true := p1_ga (by decide +kernel) (p1_ga gz_c_isAll p1_g0)
theorem iz_m_holds : ∀ w ∈ zw_m_holds, w ∈ lw_tbl := p1_ia (p1_all [1517, 1518, 1520, 84, 116] (by decide +kernel)) (p1_ia iz_c_isAll p1_i0)
set_option maxHeartbeats 4000000 in
set_option maxRecDepth 100000 in
theorem m_holds (l : Launch) (dC : Nat → ClassId) (dI : Nat → Nat → Nat) (sz : Nat) (mo : Nat) (ms : List Value) (kn : Nat) (cK : ClassId) (kf : Nat → Int32) (a1 : Int32) (a2 : Int32) (a3 : Int32) (a4 : Int32) (f_ms_11 : ms[11]? = some (.ref kn)) (f_ms_43 : ms[43]? = some (.int 0)) (h_kf_0 : kf 0 = 0) : Met l yX9_holds zw_m_holds ({ frames := 3, cells := 0, slots := 0, locals := 66 }) (va_Pc [.ref mo, .int a1, .int a2, .int a3, .int a4] (fun U => U.heap.size = sz ∧ va_P (dC, dI) vwCl [(mo, .inr (8, ms)), (kn, .inl (cK, 2, .inl kf))] U.heap ∧ va_K (dC, dI) vwCl [(cK, .int)] U ∧ va_D (fun _ => True) [(mo, .inr (8, ms)), (kn, .inl (cK, 2, .inl kf))])) (va_Qi (fun (r : Int32) (_ : Unit) => r = (-1)) (fun _ t => va_P (dC, dI) vwCl [] t.heap ∧ va_K (dC, dI) vwCl [] t ∧ va_D (va_A [(mo, .inr (8, ms)), (kn, .inl (cK, 2, .inl kf))] sz) []) (va_A [(mo, .inr (8, ms)), (kn, .inl (cK, 2, .inl kf))] sz)) 0 0 (va_A [(mo, .inr (8, ms)), (kn, .inl (cK, 2, .inl kf))] sz) := by
  refine Met.ofW (cc := cX9_holds) (maxL := 5) (ret := (some .int)) (by decide) rfl ?_
  intro p e s m args below meth c s₁ B hml hv
  obtain ⟨rfl, hsz, hP, hK, hD0⟩ := hv
  have hx := B.exec
  have hb := B.bytes
  have hr := B.returns
  have hts := atoms_spec (ws := zw_m_holds) B.pre
  have hown : s.vm.findClass RX9 = some m.cls := findClass_of_methodNamed B.named
  have hlocks := B.notSynchronized
  subst hsz
  have hD := hD0.self (sz := s.heap.size)
  generalize hAe : va_A [(mo, .inr (8, ms)), (kn, .inl (cK, 2, .inl kf))] s.heap.size = A at hD ⊢
  have hA : ∀ q : Nat, s.heap.size ≤ q → A q := fun q h => by rw [← hAe]; exact Or.inr h
  have hS : va_S A s.heap s.heap [] := va_S.rf
  have hP : va_P (dC, dI) vwCl [(mo, .inr (8, ms)), (kn, .inl (cK, 2, .inl kf))] s.heap := hP
  have m_0 : (.methodLink RX9 485 yX9_isAll : Cond) ∈ zw_m_holds := List.mem_append_left _ (List.mem_of_getElem? (i := 1) rfl)
  have k_0 := hts _ m_0
  have m_1 : (.instanceMethod yX9_isAll : Cond) ∈ zw_m_holds := List.mem_append_left _ (List.mem_of_getElem? (i := 2) rfl)
  have k_1 := hts _ m_1
  have m_2 : (.selects RX9 yX9_isAll yX9_isAll : Cond) ∈ zw_m_holds := List.mem_append_left _ (List.mem_of_getElem? (i := 3) rfl)
  have k_2 := hts _ m_2
  have m_3 : (.initialized RX9 : Cond) ∈ zw_m_holds := List.mem_append_left _ (List.mem_of_getElem? (i := 4) rfl)
  have k_3 := hts _ m_3
  have g_c_isAll : ∀ w ∈ zw_c_isAll, w ∈ zw_m_holds := fun w h => List.mem_append_right _ (List.mem_append_left _ h)
  have hl := lv_entry ([.ref mo, .int a1, .int a2, .int a3, .int a4]) (n := 5) (Nat.le_of_ble_eq_true rfl)
  rw [lg_entry_eq]
  generalize (lg_sl ([.ref mo, .int a1, .int a2, .int a3, .int a4]) ++ List.replicate (5 - (lg_sl ([.ref mo, .int a1, .int a2, .int a3, .int a4])).length) Slot.unset).toArray = ls at hl ⊢
  have hl : lv_has ls 5 [(0, .ref mo), (1, .int a1), (2, .int a2), (3, .int a3), (4, .int a4)] := hl
  refine lv_aload_n hx hb dX9_holds_0 rfl (lv_at hl 0 rfl) ?_
  refine lv_iload_n hx hb dX9_holds_1 rfl (lv_at hl 1 rfl) ?_
  refine lv_iload_n hx hb dX9_holds_2 rfl (lv_at hl 2 rfl) ?_
  refine lv_iload_n hx hb dX9_holds_3 rfl (lv_at hl 3 rfl) ?_
  have hPc := hP.sub (ws' := [(mo, .inr (8, ms)), (kn, .inl (cK, 2, .inl kf))]) [0, 1] rfl
  have hDc := hD.sub (ws' := [(mo, .inr (8, ms)), (kn, .inl (cK, 2, .inl kf))]) [0, 1] (by decide) rfl
  have hKc := hK.sub (tys' := [(cK, .int)]) [0] rfl
  have hFc := va_free (wc := [(mo, .inr (8, ms)), (kn, .inl (cK, 2, .inl kf))]) hD hS hA [0, 1] rfl
  refine va_calli (va_runV (As := [.int a1, .int a2, .int a3]) (rest := []) ⟨hx, hb, hml, hown, hts⟩ (c_isAll l dC dI s.heap.size mo ms kn cK kf a1 a2 a3 f_ms_11 f_ms_43 h_kf_0) (cwV 3 hts (p1_gV m_0 m_1 m_2 m_3 g_c_isAll gz_c_isAll) rfl rfl rfl (by decide +kernel) ⟨by decide, by decide⟩) ⟨fun a U g mk q => by obtain ⟨q0, q1, qP, qK, qD⟩ := q; exact ⟨q0, q1, qP, va_K.moved (u := U) (U := U.calling g mk a) (Vm.Alike.refl U.vm) qK, qD⟩, va_recv hKc hPc (ci := 8) (q0 := 0) rfl rfl, fun U hU hW => ⟨rfl, by rw [hU], by rw [hU]; exact hPc, va_K.moved hW.alike hKc, hDc.weaken (fun _ _ _ _ => trivial)⟩⟩ rfl rfl hl.1 rfl (lv_room (Nat.le_of_ble_eq_true rfl)) dX9_holds_4 ⟨by decide, by decide⟩) hS (fun q _ h => hFc q h) hFc (fun r_1 u t H1 locs ht hvm hw hB hz1 hk1 hS => ?_)
  obtain ⟨hP1, hK1, hD1⟩ := hB
  rw [ht] at hP1
  obtain ⟨hP, hD⟩ := va_join (wr := []) (w1 := [(mo, .inr (8, ms)), (kn, .inl (cK, 2, .inl kf))]) hP hD [0, 1] [] rfl rfl (by decide) (by decide) hk1 hFc hP1 hD1
  generalize H1 = H at hP hS ⊢
  have hP : va_P (dC, dI) vwCl [(mo, .inr (8, ms)), (kn, .inl (cK, 2, .inl kf))] H := hP
  have hD : va_D A [(mo, .inr (8, ms)), (kn, .inl (cK, 2, .inl kf))] := hD
  try dsimp only at hw
  obtain rfl : r_1 = 0 := hw
  refine lv_if_eq (tgt := 31) hx hb dX9_holds_7 (by decide) (fun _ => ?_) (fun c9 => absurd c9 (by decide))
  refine lv_iconst (v := (-1)) hx hb dX9_holds_31 (by decide) ?_
  have hP9 := hP.sub (ws' := []) [] rfl
  have hD9 := hD.sub (ws' := []) [] (by decide) rfl
  have hK9 := hK.sub (tys' := []) [] rfl
  exact W.iret (v := (-1)) hx hb hr (fun t ht hW => ⟨⟨(-1), (), rfl, rfl, by rw [ht]; exact hP9, va_K.moved hW.alike hK9, hD9⟩, hS.F ht⟩) hS.2.2 dX9_holds_32
def zo_m_begins : List Cond := [.code yX9_begins cX9_begins 8 (some .int), .methodLink RX9 485 yX9_isAll, .instanceMethod yX9_isAll, .selects RX9 yX9_isAll yX9_isAll, .initialized RX9]
def zw_m_begins : List Cond := zo_m_begins ++ (zw_c_isAll ++ [])
theorem gz_m_begins : zw_m_begins.all goodWord = true := p1_ga (by decide +kernel) (p1_ga gz_c_isAll p1_g0)
theorem iz_m_begins : ∀ w ∈ zw_m_begins, w ∈ lw_tbl := p1_ia (p1_all [1561, 1518, 1520, 84, 116] (by decide +kernel)) (p1_ia iz_c_isAll p1_i0)
set_option maxHeartbeats 4000000 in
set_option maxRecDepth 100000 in
theorem m_begins (l : Launch) (dC : Nat → ClassId) (dI : Nat → Nat → Nat) (sz : Nat) (mo : Nat) (ms : List Value) (kn : Nat) (cK : ClassId) (kf : Nat → Int32) (a1 : Int32) (a2 : Int32) (a3 : Int32) (f_ms_11 : ms[11]? = some (.ref kn)) (f_ms_43 : ms[43]? = some (.int 0)) (h_kf_0 : kf 0 = 0) : Met l yX9_begins zw_m_begins ({ frames := 3, cells := 0, slots := 0, locals := 66 }) (va_Pc [.ref mo, .int a1, .int a2, .int a3] (fun U => U.heap.size = sz ∧ va_P (dC, dI) vwCl [(mo, .inr (8, ms)), (kn, .inl (cK, 2, .inl kf))] U.heap ∧ va_K (dC, dI) vwCl [(cK, .int)] U ∧ va_D (fun _ => True) [(mo, .inr (8, ms)), (kn, .inl (cK, 2, .inl kf))])) (va_Qi (fun (r : Int32) (_ : Unit) => r = (-1)) (fun _ t => va_P (dC, dI) vwCl [] t.heap ∧ va_K (dC, dI) vwCl [] t ∧ va_D (va_A [(mo, .inr (8, ms)), (kn, .inl (cK, 2, .inl kf))] sz) []) (va_A [(mo, .inr (8, ms)), (kn, .inl (cK, 2, .inl kf))] sz)) 0 0 (va_A [(mo, .inr (8, ms)), (kn, .inl (cK, 2, .inl kf))] sz) := by
  refine Met.ofW (cc := cX9_begins) (maxL := 8) (ret := (some .int)) (by decide) rfl ?_
  intro p e s m args below meth c s₁ B hml hv
  obtain ⟨rfl, hsz, hP, hK, hD0⟩ := hv
  have hx := B.exec
  have hb := B.bytes
  have hr := B.returns
  have hts := atoms_spec (ws := zw_m_begins) B.pre
  have hown : s.vm.findClass RX9 = some m.cls := findClass_of_methodNamed B.named
  have hlocks := B.notSynchronized
  subst hsz
  have hD := hD0.self (sz := s.heap.size)
  generalize hAe : va_A [(mo, .inr (8, ms)), (kn, .inl (cK, 2, .inl kf))] s.heap.size = A at hD ⊢
  have hA : ∀ q : Nat, s.heap.size ≤ q → A q := fun q h => by rw [← hAe]; exact Or.inr h
  have hS : va_S A s.heap s.heap [] := va_S.rf
  have hP : va_P (dC, dI) vwCl [(mo, .inr (8, ms)), (kn, .inl (cK, 2, .inl kf))] s.heap := hP
  have m_0 : (.methodLink RX9 485 yX9_isAll : Cond) ∈ zw_m_begins := List.mem_append_left _ (List.mem_of_getElem? (i := 1) rfl)
  have k_0 := hts _ m_0
  have m_1 : (.instanceMethod yX9_isAll : Cond) ∈ zw_m_begins := List.mem_append_left _ (List.mem_of_getElem? (i := 2) rfl)
  have k_1 := hts _ m_1
  have m_2 : (.selects RX9 yX9_isAll yX9_isAll : Cond) ∈ zw_m_begins := List.mem_append_left _ (List.mem_of_getElem? (i := 3) rfl)
  have k_2 := hts _ m_2
  have m_3 : (.initialized RX9 : Cond) ∈ zw_m_begins := List.mem_append_left _ (List.mem_of_getElem? (i := 4) rfl)
  have k_3 := hts _ m_3
  have g_c_isAll : ∀ w ∈ zw_c_isAll, w ∈ zw_m_begins := fun w h => List.mem_append_right _ (List.mem_append_left _ h)
  have hl := lv_entry ([.ref mo, .int a1, .int a2, .int a3]) (n := 8) (Nat.le_of_ble_eq_true rfl)
  rw [lg_entry_eq]
  generalize (lg_sl ([.ref mo, .int a1, .int a2, .int a3]) ++ List.replicate (8 - (lg_sl ([.ref mo, .int a1, .int a2, .int a3])).length) Slot.unset).toArray = ls at hl ⊢
  have hl : lv_has ls 8 [(0, .ref mo), (1, .int a1), (2, .int a2), (3, .int a3)] := hl
  refine lv_aload_n hx hb dX9_begins_0 rfl (lv_at hl 0 rfl) ?_
  refine lv_iload_n hx hb dX9_begins_1 rfl (lv_at hl 1 rfl) ?_
  refine lv_iload_n hx hb dX9_begins_2 rfl (lv_at hl 2 rfl) ?_
  refine lv_iload_n hx hb dX9_begins_3 rfl (lv_at hl 3 rfl) ?_
  have hPc := hP.sub (ws' := [(mo, .inr (8, ms)), (kn, .inl (cK, 2, .inl kf))]) [0, 1] rfl
  have hDc := hD.sub (ws' := [(mo, .inr (8, ms)), (kn, .inl (cK, 2, .inl kf))]) [0, 1] (by decide) rfl
  have hKc := hK.sub (tys' := [(cK, .int)]) [0] rfl
  have hFc := va_free (wc := [(mo, .inr (8, ms)), (kn, .inl (cK, 2, .inl kf))]) hD hS hA [0, 1] rfl
  refine va_calli (va_runV (As := [.int a1, .int a2, .int a3]) (rest := []) ⟨hx, hb, hml, hown, hts⟩ (c_isAll l dC dI s.heap.size mo ms kn cK kf a1 a2 a3 f_ms_11 f_ms_43 h_kf_0) (cwV 3 hts (p1_gV m_0 m_1 m_2 m_3 g_c_isAll gz_c_isAll) rfl rfl rfl (by decide +kernel) ⟨by decide, by decide⟩) ⟨fun a U g mk q => by obtain ⟨q0, q1, qP, qK, qD⟩ := q; exact ⟨q0, q1, qP, va_K.moved (u := U) (U := U.calling g mk a) (Vm.Alike.refl U.vm) qK, qD⟩, va_recv hKc hPc (ci := 8) (q0 := 0) rfl rfl, fun U hU hW => ⟨rfl, by rw [hU], by rw [hU]; exact hPc, va_K.moved hW.alike hKc, hDc.weaken (fun _ _ _ _ => trivial)⟩⟩ rfl rfl hl.1 rfl (lv_room (Nat.le_of_ble_eq_true rfl)) dX9_begins_4 ⟨by decide, by decide⟩) hS (fun q _ h => hFc q h) hFc (fun r_1 u t H1 locs ht hvm hw hB hz1 hk1 hS => ?_)
  obtain ⟨hP1, hK1, hD1⟩ := hB
  rw [ht] at hP1
  obtain ⟨hP, hD⟩ := va_join (wr := []) (w1 := [(mo, .inr (8, ms)), (kn, .inl (cK, 2, .inl kf))]) hP hD [0, 1] [] rfl rfl (by decide) (by decide) hk1 hFc hP1 hD1
  generalize H1 = H at hP hS ⊢
  have hP : va_P (dC, dI) vwCl [(mo, .inr (8, ms)), (kn, .inl (cK, 2, .inl kf))] H := hP
  have hD : va_D A [(mo, .inr (8, ms)), (kn, .inl (cK, 2, .inl kf))] := hD
  try dsimp only at hw
  obtain rfl : r_1 = 0 := hw
  refine lv_if_ne (tgt := 12) hx hb dX9_begins_7 (by decide) (fun c9 => absurd c9 (by decide)) (fun _ => ?_)
  refine lv_iconst (v := (-1)) hx hb dX9_begins_10 (by decide) ?_
  have hP9 := hP.sub (ws' := []) [] rfl
  have hD9 := hD.sub (ws' := []) [] (by decide) rfl
  have hK9 := hK.sub (tys' := []) [] rfl
  exact W.iret (v := (-1)) hx hb hr (fun t ht hW => ⟨⟨(-1), (), rfl, rfl, by rw [ht]; exact hP9, va_K.moved hW.alike hK9, hD9⟩, hS.F ht⟩) hS.2.2 dX9_begins_11
def zo_m_alone : List Cond := [.code yX9_alone cX9_alone 6 (some .int), .methodLink RX9 485 yX9_isAll, .instanceMethod yX9_isAll, .selects RX9 yX9_isAll yX9_isAll, .initialized RX9]
def zw_m_alone : List Cond := zo_m_alone ++ (zw_c_isAll ++ [])
theorem gz_m_alone : zw_m_alone.all goodWord = true := p1_ga (by decide +kernel) (p1_ga gz_c_isAll p1_g0)
theorem iz_m_alone : ∀ w ∈ zw_m_alone, w ∈ lw_tbl := p1_ia (p1_all [1565, 1518, 1520, 84, 116] (by decide +kernel)) (p1_ia iz_c_isAll p1_i0)
set_option maxHeartbeats 4000000 in
set_option maxRecDepth 100000 in
theorem m_alone (l : Launch) (dC : Nat → ClassId) (dI : Nat → Nat → Nat) (sz : Nat) (mo : Nat) (ms : List Value) (kn : Nat) (cK : ClassId) (kf : Nat → Int32) (a1 : Int32) (a2 : Int32) (a3 : Int32) (a4 : Int32) (f_ms_11 : ms[11]? = some (.ref kn)) (f_ms_43 : ms[43]? = some (.int 0)) (h_kf_0 : kf 0 = 0) : Met l yX9_alone zw_m_alone ({ frames := 3, cells := 0, slots := 0, locals := 66 }) (va_Pc [.ref mo, .int a1, .int a2, .int a3, .int a4] (fun U => U.heap.size = sz ∧ va_P (dC, dI) vwCl [(mo, .inr (8, ms)), (kn, .inl (cK, 2, .inl kf))] U.heap ∧ va_K (dC, dI) vwCl [(cK, .int)] U ∧ va_D (fun _ => True) [(mo, .inr (8, ms)), (kn, .inl (cK, 2, .inl kf))])) (va_Qi (fun (r : Int32) (_ : Unit) => r = (-1)) (fun _ t => va_P (dC, dI) vwCl [] t.heap ∧ va_K (dC, dI) vwCl [] t ∧ va_D (va_A [(mo, .inr (8, ms)), (kn, .inl (cK, 2, .inl kf))] sz) []) (va_A [(mo, .inr (8, ms)), (kn, .inl (cK, 2, .inl kf))] sz)) 0 0 (va_A [(mo, .inr (8, ms)), (kn, .inl (cK, 2, .inl kf))] sz) := by
  refine Met.ofW (cc := cX9_alone) (maxL := 6) (ret := (some .int)) (by decide) rfl ?_
  intro p e s m args below meth c s₁ B hml hv
  obtain ⟨rfl, hsz, hP, hK, hD0⟩ := hv
  have hx := B.exec
  have hb := B.bytes
  have hr := B.returns
  have hts := atoms_spec (ws := zw_m_alone) B.pre
  have hown : s.vm.findClass RX9 = some m.cls := findClass_of_methodNamed B.named
  have hlocks := B.notSynchronized
  subst hsz
  have hD := hD0.self (sz := s.heap.size)
  generalize hAe : va_A [(mo, .inr (8, ms)), (kn, .inl (cK, 2, .inl kf))] s.heap.size = A at hD ⊢
  have hA : ∀ q : Nat, s.heap.size ≤ q → A q := fun q h => by rw [← hAe]; exact Or.inr h
  have hS : va_S A s.heap s.heap [] := va_S.rf
  have hP : va_P (dC, dI) vwCl [(mo, .inr (8, ms)), (kn, .inl (cK, 2, .inl kf))] s.heap := hP
  have m_0 : (.methodLink RX9 485 yX9_isAll : Cond) ∈ zw_m_alone := List.mem_append_left _ (List.mem_of_getElem? (i := 1) rfl)
  have k_0 := hts _ m_0
  have m_1 : (.instanceMethod yX9_isAll : Cond) ∈ zw_m_alone := List.mem_append_left _ (List.mem_of_getElem? (i := 2) rfl)
  have k_1 := hts _ m_1
  have m_2 : (.selects RX9 yX9_isAll yX9_isAll : Cond) ∈ zw_m_alone := List.mem_append_left _ (List.mem_of_getElem? (i := 3) rfl)
  have k_2 := hts _ m_2
  have m_3 : (.initialized RX9 : Cond) ∈ zw_m_alone := List.mem_append_left _ (List.mem_of_getElem? (i := 4) rfl)
  have k_3 := hts _ m_3
  have g_c_isAll : ∀ w ∈ zw_c_isAll, w ∈ zw_m_alone := fun w h => List.mem_append_right _ (List.mem_append_left _ h)
  have hl := lv_entry ([.ref mo, .int a1, .int a2, .int a3, .int a4]) (n := 6) (Nat.le_of_ble_eq_true rfl)
  rw [lg_entry_eq]
  generalize (lg_sl ([.ref mo, .int a1, .int a2, .int a3, .int a4]) ++ List.replicate (6 - (lg_sl ([.ref mo, .int a1, .int a2, .int a3, .int a4])).length) Slot.unset).toArray = ls at hl ⊢
  have hl : lv_has ls 6 [(0, .ref mo), (1, .int a1), (2, .int a2), (3, .int a3), (4, .int a4)] := hl
  refine lv_aload_n hx hb dX9_alone_0 rfl (lv_at hl 0 rfl) ?_
  refine lv_iload_n hx hb dX9_alone_1 rfl (lv_at hl 1 rfl) ?_
  refine lv_iload_n hx hb dX9_alone_2 rfl (lv_at hl 2 rfl) ?_
  refine lv_iload_n hx hb dX9_alone_3 rfl (lv_at hl 3 rfl) ?_
  have hPc := hP.sub (ws' := [(mo, .inr (8, ms)), (kn, .inl (cK, 2, .inl kf))]) [0, 1] rfl
  have hDc := hD.sub (ws' := [(mo, .inr (8, ms)), (kn, .inl (cK, 2, .inl kf))]) [0, 1] (by decide) rfl
  have hKc := hK.sub (tys' := [(cK, .int)]) [0] rfl
  have hFc := va_free (wc := [(mo, .inr (8, ms)), (kn, .inl (cK, 2, .inl kf))]) hD hS hA [0, 1] rfl
  refine va_calli (va_runV (As := [.int a1, .int a2, .int a3]) (rest := []) ⟨hx, hb, hml, hown, hts⟩ (c_isAll l dC dI s.heap.size mo ms kn cK kf a1 a2 a3 f_ms_11 f_ms_43 h_kf_0) (cwV 3 hts (p1_gV m_0 m_1 m_2 m_3 g_c_isAll gz_c_isAll) rfl rfl rfl (by decide +kernel) ⟨by decide, by decide⟩) ⟨fun a U g mk q => by obtain ⟨q0, q1, qP, qK, qD⟩ := q; exact ⟨q0, q1, qP, va_K.moved (u := U) (U := U.calling g mk a) (Vm.Alike.refl U.vm) qK, qD⟩, va_recv hKc hPc (ci := 8) (q0 := 0) rfl rfl, fun U hU hW => ⟨rfl, by rw [hU], by rw [hU]; exact hPc, va_K.moved hW.alike hKc, hDc.weaken (fun _ _ _ _ => trivial)⟩⟩ rfl rfl hl.1 rfl (lv_room (Nat.le_of_ble_eq_true rfl)) dX9_alone_4 ⟨by decide, by decide⟩) hS (fun q _ h => hFc q h) hFc (fun r_1 u t H1 locs ht hvm hw hB hz1 hk1 hS => ?_)
  obtain ⟨hP1, hK1, hD1⟩ := hB
  rw [ht] at hP1
  obtain ⟨hP, hD⟩ := va_join (wr := []) (w1 := [(mo, .inr (8, ms)), (kn, .inl (cK, 2, .inl kf))]) hP hD [0, 1] [] rfl rfl (by decide) (by decide) hk1 hFc hP1 hD1
  generalize H1 = H at hP hS ⊢
  have hP : va_P (dC, dI) vwCl [(mo, .inr (8, ms)), (kn, .inl (cK, 2, .inl kf))] H := hP
  have hD : va_D A [(mo, .inr (8, ms)), (kn, .inl (cK, 2, .inl kf))] := hD
  try dsimp only at hw
  obtain rfl : r_1 = 0 := hw
  refine lv_if_eq (tgt := 20) hx hb dX9_alone_7 (by decide) (fun _ => ?_) (fun c9 => absurd c9 (by decide))
  refine lv_iconst (v := (-1)) hx hb dX9_alone_20 (by decide) ?_
  have hP9 := hP.sub (ws' := []) [] rfl
  have hD9 := hD.sub (ws' := []) [] (by decide) rfl
  have hK9 := hK.sub (tys' := []) [] rfl
  exact W.iret (v := (-1)) hx hb hr (fun t ht hW => ⟨⟨(-1), (), rfl, rfl, by rw [ht]; exact hP9, va_K.moved hW.alike hK9, hD9⟩, hS.F ht⟩) hS.2.2 dX9_alone_21
def zo_m_undone : List Cond := [.code yX9_undone cX9_undone 3 (some .int), .methodLink RX9 431 yX9_isKnot, .instanceMethod yX9_isKnot, .selects RX9 yX9_isKnot yX9_isKnot, .initialized RX9]
def zw_m_undone : List Cond := zo_m_undone ++ (zw_c_isKnot ++ [])
theorem gz_m_undone : zw_m_undone.all goodWord = true := p1_ga (by decide +kernel) (p1_ga gz_c_isKnot p1_g0)
theorem iz_m_undone : ∀ w ∈ zw_m_undone, w ∈ lw_tbl := p1_ia (p1_all [1569, 1435, 1437, 71, 116] (by decide +kernel)) (p1_ia iz_c_isKnot p1_i0)
set_option maxHeartbeats 4000000 in
set_option maxRecDepth 100000 in
theorem m_undone (l : Launch) (dC : Nat → ClassId) (dI : Nat → Nat → Nat) (sz : Nat) (mo : Nat) (ms : List Value) (kn : Nat) (cK : ClassId) (kf : Nat → Int32) (a1 : Int32) (a2 : Int32) (f_ms_11 : ms[11]? = some (.ref kn)) (f_ms_43 : ms[43]? = some (.int 0)) (h_kf_0 : kf 0 = 0) : Met l yX9_undone zw_m_undone ({ frames := 2, cells := 0, slots := 0, locals := 43 }) (va_Pc [.ref mo, .int a1, .int a2] (fun U => U.heap.size = sz ∧ va_P (dC, dI) vwCl [(mo, .inr (8, ms)), (kn, .inl (cK, 2, .inl kf))] U.heap ∧ va_K (dC, dI) vwCl [(cK, .int)] U ∧ va_D (fun _ => True) [(mo, .inr (8, ms)), (kn, .inl (cK, 2, .inl kf))])) (va_Qi (fun (r : Int32) (_ : Unit) => r = (-1)) (fun _ t => va_P (dC, dI) vwCl [] t.heap ∧ va_K (dC, dI) vwCl [] t ∧ va_D (va_A [(mo, .inr (8, ms)), (kn, .inl (cK, 2, .inl kf))] sz) []) (va_A [(mo, .inr (8, ms)), (kn, .inl (cK, 2, .inl kf))] sz)) 0 0 (va_A [(mo, .inr (8, ms)), (kn, .inl (cK, 2, .inl kf))] sz) := by
  refine Met.ofW (cc := cX9_undone) (maxL := 3) (ret := (some .int)) (by decide) rfl ?_
  intro p e s m args below meth c s₁ B hml hv
  obtain ⟨rfl, hsz, hP, hK, hD0⟩ := hv
  have hx := B.exec
  have hb := B.bytes
  have hr := B.returns
  have hts := atoms_spec (ws := zw_m_undone) B.pre
  have hown : s.vm.findClass RX9 = some m.cls := findClass_of_methodNamed B.named
  have hlocks := B.notSynchronized
  subst hsz
  have hD := hD0.self (sz := s.heap.size)
  generalize hAe : va_A [(mo, .inr (8, ms)), (kn, .inl (cK, 2, .inl kf))] s.heap.size = A at hD ⊢
  have hA : ∀ q : Nat, s.heap.size ≤ q → A q := fun q h => by rw [← hAe]; exact Or.inr h
  have hS : va_S A s.heap s.heap [] := va_S.rf
  have hP : va_P (dC, dI) vwCl [(mo, .inr (8, ms)), (kn, .inl (cK, 2, .inl kf))] s.heap := hP
  have m_0 : (.methodLink RX9 431 yX9_isKnot : Cond) ∈ zw_m_undone := List.mem_append_left _ (List.mem_of_getElem? (i := 1) rfl)
  have k_0 := hts _ m_0
  have m_1 : (.instanceMethod yX9_isKnot : Cond) ∈ zw_m_undone := List.mem_append_left _ (List.mem_of_getElem? (i := 2) rfl)
  have k_1 := hts _ m_1
  have m_2 : (.selects RX9 yX9_isKnot yX9_isKnot : Cond) ∈ zw_m_undone := List.mem_append_left _ (List.mem_of_getElem? (i := 3) rfl)
  have k_2 := hts _ m_2
  have m_3 : (.initialized RX9 : Cond) ∈ zw_m_undone := List.mem_append_left _ (List.mem_of_getElem? (i := 4) rfl)
  have k_3 := hts _ m_3
  have g_c_isKnot : ∀ w ∈ zw_c_isKnot, w ∈ zw_m_undone := fun w h => List.mem_append_right _ (List.mem_append_left _ h)
  have hl := lv_entry ([.ref mo, .int a1, .int a2]) (n := 3) (Nat.le_of_ble_eq_true rfl)
  rw [lg_entry_eq]
  generalize (lg_sl ([.ref mo, .int a1, .int a2]) ++ List.replicate (3 - (lg_sl ([.ref mo, .int a1, .int a2])).length) Slot.unset).toArray = ls at hl ⊢
  have hl : lv_has ls 3 [(0, .ref mo), (1, .int a1), (2, .int a2)] := hl
  refine lv_aload_n hx hb dX9_undone_0 rfl (lv_at hl 0 rfl) ?_
  refine lv_iload_n hx hb dX9_undone_1 rfl (lv_at hl 1 rfl) ?_
  have hPc := hP.sub (ws' := [(mo, .inr (8, ms)), (kn, .inl (cK, 2, .inl kf))]) [0, 1] rfl
  have hDc := hD.sub (ws' := [(mo, .inr (8, ms)), (kn, .inl (cK, 2, .inl kf))]) [0, 1] (by decide) rfl
  have hKc := hK.sub (tys' := [(cK, .int)]) [0] rfl
  have hFc := va_free (wc := [(mo, .inr (8, ms)), (kn, .inl (cK, 2, .inl kf))]) hD hS hA [0, 1] rfl
  refine va_calli (va_runV (As := [.int a1]) (rest := []) ⟨hx, hb, hml, hown, hts⟩ (c_isKnot l dC dI s.heap.size mo ms kn cK kf a1 f_ms_11 f_ms_43 h_kf_0) (cwV 1 hts (p1_gV m_0 m_1 m_2 m_3 g_c_isKnot gz_c_isKnot) rfl rfl rfl (by decide +kernel) ⟨by decide, by decide⟩) ⟨fun a U g mk q => by obtain ⟨q0, q1, qP, qK, qD⟩ := q; exact ⟨q0, q1, qP, va_K.moved (u := U) (U := U.calling g mk a) (Vm.Alike.refl U.vm) qK, qD⟩, va_recv hKc hPc (ci := 8) (q0 := 0) rfl rfl, fun U hU hW => ⟨rfl, by rw [hU], by rw [hU]; exact hPc, va_K.moved hW.alike hKc, hDc.weaken (fun _ _ _ _ => trivial)⟩⟩ rfl rfl hl.1 rfl (lv_room (Nat.le_of_ble_eq_true rfl)) dX9_undone_2 ⟨by decide, by decide⟩) hS (fun q _ h => hFc q h) hFc (fun r_1 u t H1 locs ht hvm hw hB hz1 hk1 hS => ?_)
  obtain ⟨hP1, hK1, hD1⟩ := hB
  rw [ht] at hP1
  obtain ⟨hP, hD⟩ := va_join (wr := []) (w1 := [(mo, .inr (8, ms)), (kn, .inl (cK, 2, .inl kf))]) hP hD [0, 1] [] rfl rfl (by decide) (by decide) hk1 hFc hP1 hD1
  generalize H1 = H at hP hS ⊢
  have hP : va_P (dC, dI) vwCl [(mo, .inr (8, ms)), (kn, .inl (cK, 2, .inl kf))] H := hP
  have hD : va_D A [(mo, .inr (8, ms)), (kn, .inl (cK, 2, .inl kf))] := hD
  try dsimp only at hw
  obtain rfl : r_1 = 0 := hw
  refine lv_if_eq (tgt := 25) hx hb dX9_undone_5 (by decide) (fun _ => ?_) (fun c9 => absurd c9 (by decide))
  refine lv_iconst (v := (-1)) hx hb dX9_undone_25 (by decide) ?_
  have hP9 := hP.sub (ws' := []) [] rfl
  have hD9 := hD.sub (ws' := []) [] (by decide) rfl
  have hK9 := hK.sub (tys' := []) [] rfl
  exact W.iret (v := (-1)) hx hb hr (fun t ht hW => ⟨⟨(-1), (), rfl, rfl, by rw [ht]; exact hP9, va_K.moved hW.alike hK9, hD9⟩, hS.F ht⟩) hS.2.2 dX9_undone_26
def zo_m_met : List Cond := [.code yX9_met cX9_met 5 (some .int), .methodLink RX9 501 yX9_isWant, .instanceMethod yX9_isWant, .selects RX9 yX9_isWant yX9_isWant, .initialized RX9]
def zw_m_met : List Cond := zo_m_met ++ (zw_c_isWant ++ [])
theorem gz_m_met : zw_m_met.all goodWord = true := p1_ga (by decide +kernel) (p1_ga gz_c_isWant p1_g0)
theorem iz_m_met : ∀ w ∈ zw_m_met, w ∈ lw_tbl := p1_ia (p1_all [1581, 1582, 1584, 96, 116] (by decide +kernel)) (p1_ia iz_c_isWant p1_i0)
set_option maxHeartbeats 4000000 in
set_option maxRecDepth 100000 in
theorem m_met (l : Launch) (dC : Nat → ClassId) (dI : Nat → Nat → Nat) (sz : Nat) (mo : Nat) (ms : List Value) (wt : Nat) (cT : ClassId) (tf : Nat → Int32) (a1 : Int32) (a2 : Int32) (a3 : Int32) (a4 : Int32) (f_ms_15 : ms[15]? = some (.ref wt)) (f_ms_43 : ms[43]? = some (.int 0)) (h_tf_0 : tf 0 = 0) : Met l yX9_met zw_m_met ({ frames := 2, cells := 0, slots := 0, locals := 43 }) (va_Pc [.ref mo, .int a1, .int a2, .int a3, .int a4] (fun U => U.heap.size = sz ∧ va_P (dC, dI) vwCl [(mo, .inr (8, ms)), (wt, .inl (cT, 2, .inl tf))] U.heap ∧ va_K (dC, dI) vwCl [(cT, .int)] U ∧ va_D (fun _ => True) [(mo, .inr (8, ms)), (wt, .inl (cT, 2, .inl tf))])) (va_Qi (fun (r : Int32) (_ : Unit) => r = (-1)) (fun _ t => va_P (dC, dI) vwCl [] t.heap ∧ va_K (dC, dI) vwCl [] t ∧ va_D (va_A [(mo, .inr (8, ms)), (wt, .inl (cT, 2, .inl tf))] sz) []) (va_A [(mo, .inr (8, ms)), (wt, .inl (cT, 2, .inl tf))] sz)) 0 0 (va_A [(mo, .inr (8, ms)), (wt, .inl (cT, 2, .inl tf))] sz) := by
  refine Met.ofW (cc := cX9_met) (maxL := 5) (ret := (some .int)) (by decide) rfl ?_
  intro p e s m args below meth c s₁ B hml hv
  obtain ⟨rfl, hsz, hP, hK, hD0⟩ := hv
  have hx := B.exec
  have hb := B.bytes
  have hr := B.returns
  have hts := atoms_spec (ws := zw_m_met) B.pre
  have hown : s.vm.findClass RX9 = some m.cls := findClass_of_methodNamed B.named
  have hlocks := B.notSynchronized
  subst hsz
  have hD := hD0.self (sz := s.heap.size)
  generalize hAe : va_A [(mo, .inr (8, ms)), (wt, .inl (cT, 2, .inl tf))] s.heap.size = A at hD ⊢
  have hA : ∀ q : Nat, s.heap.size ≤ q → A q := fun q h => by rw [← hAe]; exact Or.inr h
  have hS : va_S A s.heap s.heap [] := va_S.rf
  have hP : va_P (dC, dI) vwCl [(mo, .inr (8, ms)), (wt, .inl (cT, 2, .inl tf))] s.heap := hP
  have m_0 : (.methodLink RX9 501 yX9_isWant : Cond) ∈ zw_m_met := List.mem_append_left _ (List.mem_of_getElem? (i := 1) rfl)
  have k_0 := hts _ m_0
  have m_1 : (.instanceMethod yX9_isWant : Cond) ∈ zw_m_met := List.mem_append_left _ (List.mem_of_getElem? (i := 2) rfl)
  have k_1 := hts _ m_1
  have m_2 : (.selects RX9 yX9_isWant yX9_isWant : Cond) ∈ zw_m_met := List.mem_append_left _ (List.mem_of_getElem? (i := 3) rfl)
  have k_2 := hts _ m_2
  have m_3 : (.initialized RX9 : Cond) ∈ zw_m_met := List.mem_append_left _ (List.mem_of_getElem? (i := 4) rfl)
  have k_3 := hts _ m_3
  have g_c_isWant : ∀ w ∈ zw_c_isWant, w ∈ zw_m_met := fun w h => List.mem_append_right _ (List.mem_append_left _ h)
  have hl := lv_entry ([.ref mo, .int a1, .int a2, .int a3, .int a4]) (n := 5) (Nat.le_of_ble_eq_true rfl)
  rw [lg_entry_eq]
  generalize (lg_sl ([.ref mo, .int a1, .int a2, .int a3, .int a4]) ++ List.replicate (5 - (lg_sl ([.ref mo, .int a1, .int a2, .int a3, .int a4])).length) Slot.unset).toArray = ls at hl ⊢
  have hl : lv_has ls 5 [(0, .ref mo), (1, .int a1), (2, .int a2), (3, .int a3), (4, .int a4)] := hl
  refine lv_aload_n hx hb dX9_met_0 rfl (lv_at hl 0 rfl) ?_
  refine lv_iload_n hx hb dX9_met_1 rfl (lv_at hl 1 rfl) ?_
  have hPc := hP.sub (ws' := [(mo, .inr (8, ms)), (wt, .inl (cT, 2, .inl tf))]) [0, 1] rfl
  have hDc := hD.sub (ws' := [(mo, .inr (8, ms)), (wt, .inl (cT, 2, .inl tf))]) [0, 1] (by decide) rfl
  have hKc := hK.sub (tys' := [(cT, .int)]) [0] rfl
  have hFc := va_free (wc := [(mo, .inr (8, ms)), (wt, .inl (cT, 2, .inl tf))]) hD hS hA [0, 1] rfl
  refine va_calli (va_runV (As := [.int a1]) (rest := []) ⟨hx, hb, hml, hown, hts⟩ (c_isWant l dC dI s.heap.size mo ms wt cT tf a1 f_ms_15 f_ms_43 h_tf_0) (cwV 1 hts (p1_gV m_0 m_1 m_2 m_3 g_c_isWant gz_c_isWant) rfl rfl rfl (by decide +kernel) ⟨by decide, by decide⟩) ⟨fun a U g mk q => by obtain ⟨q0, q1, qP, qK, qD⟩ := q; exact ⟨q0, q1, qP, va_K.moved (u := U) (U := U.calling g mk a) (Vm.Alike.refl U.vm) qK, qD⟩, va_recv hKc hPc (ci := 8) (q0 := 0) rfl rfl, fun U hU hW => ⟨rfl, by rw [hU], by rw [hU]; exact hPc, va_K.moved hW.alike hKc, hDc.weaken (fun _ _ _ _ => trivial)⟩⟩ rfl rfl hl.1 rfl (lv_room (Nat.le_of_ble_eq_true rfl)) dX9_met_2 ⟨by decide, by decide⟩) hS (fun q _ h => hFc q h) hFc (fun r_1 u t H1 locs ht hvm hw hB hz1 hk1 hS => ?_)
  obtain ⟨hP1, hK1, hD1⟩ := hB
  rw [ht] at hP1
  obtain ⟨hP, hD⟩ := va_join (wr := []) (w1 := [(mo, .inr (8, ms)), (wt, .inl (cT, 2, .inl tf))]) hP hD [0, 1] [] rfl rfl (by decide) (by decide) hk1 hFc hP1 hD1
  generalize H1 = H at hP hS ⊢
  have hP : va_P (dC, dI) vwCl [(mo, .inr (8, ms)), (wt, .inl (cT, 2, .inl tf))] H := hP
  have hD : va_D A [(mo, .inr (8, ms)), (wt, .inl (cT, 2, .inl tf))] := hD
  try dsimp only at hw
  obtain rfl : r_1 = 0 := hw
  refine lv_if_eq (tgt := 19) hx hb dX9_met_5 (by decide) (fun _ => ?_) (fun c9 => absurd c9 (by decide))
  refine lv_iconst (v := (-1)) hx hb dX9_met_19 (by decide) ?_
  refine lv_goto (tgt := 40) hx hb dX9_met_20 (by decide) ?_
  have hP9 := hP.sub (ws' := []) [] rfl
  have hD9 := hD.sub (ws' := []) [] (by decide) rfl
  have hK9 := hK.sub (tys' := []) [] rfl
  exact W.iret (v := (-1)) hx hb hr (fun t ht hW => ⟨⟨(-1), (), rfl, rfl, by rw [ht]; exact hP9, va_K.moved hW.alike hK9, hD9⟩, hS.F ht⟩) hS.2.2 dX9_met_40
def zo_m_meets : List Cond := [.code yX9_meets cX9_meets 6 (some .int), .methodLink RX9 501 yX9_isWant, .instanceMethod yX9_isWant, .selects RX9 yX9_isWant yX9_isWant, .initialized RX9]
def zw_m_meets : List Cond := zo_m_meets ++ (zw_c_isWant ++ [])
theorem gz_m_meets : zw_m_meets.all goodWord = true := p1_ga (by decide +kernel) (p1_ga gz_c_isWant p1_g0)
theorem iz_m_meets : ∀ w ∈ zw_m_meets, w ∈ lw_tbl := p1_ia (p1_all [1593, 1582, 1584, 96, 116] (by decide +kernel)) (p1_ia iz_c_isWant p1_i0)
set_option maxHeartbeats 4000000 in
set_option maxRecDepth 100000 in
theorem m_meets (l : Launch) (dC : Nat → ClassId) (dI : Nat → Nat → Nat) (sz : Nat) (mo : Nat) (ms : List Value) (wt : Nat) (cT : ClassId) (tf : Nat → Int32) (a1 : Int32) (a2 : Int32) (a3 : Int32) (f_ms_15 : ms[15]? = some (.ref wt)) (f_ms_43 : ms[43]? = some (.int 0)) (h_tf_0 : tf 0 = 0) : Met l yX9_meets zw_m_meets ({ frames := 2, cells := 0, slots := 0, locals := 43 }) (va_Pc [.ref mo, .int a1, .int a2, .int a3] (fun U => U.heap.size = sz ∧ va_P (dC, dI) vwCl [(mo, .inr (8, ms)), (wt, .inl (cT, 2, .inl tf))] U.heap ∧ va_K (dC, dI) vwCl [(cT, .int)] U ∧ va_D (fun _ => True) [(mo, .inr (8, ms)), (wt, .inl (cT, 2, .inl tf))])) (va_Qi (fun (r : Int32) (_ : Unit) => r = (-1)) (fun _ t => va_P (dC, dI) vwCl [] t.heap ∧ va_K (dC, dI) vwCl [] t ∧ va_D (va_A [(mo, .inr (8, ms)), (wt, .inl (cT, 2, .inl tf))] sz) []) (va_A [(mo, .inr (8, ms)), (wt, .inl (cT, 2, .inl tf))] sz)) 0 0 (va_A [(mo, .inr (8, ms)), (wt, .inl (cT, 2, .inl tf))] sz) := by
  refine Met.ofW (cc := cX9_meets) (maxL := 6) (ret := (some .int)) (by decide) rfl ?_
  intro p e s m args below meth c s₁ B hml hv
  obtain ⟨rfl, hsz, hP, hK, hD0⟩ := hv
  have hx := B.exec
  have hb := B.bytes
  have hr := B.returns
  have hts := atoms_spec (ws := zw_m_meets) B.pre
  have hown : s.vm.findClass RX9 = some m.cls := findClass_of_methodNamed B.named
  have hlocks := B.notSynchronized
  subst hsz
  have hD := hD0.self (sz := s.heap.size)
  generalize hAe : va_A [(mo, .inr (8, ms)), (wt, .inl (cT, 2, .inl tf))] s.heap.size = A at hD ⊢
  have hA : ∀ q : Nat, s.heap.size ≤ q → A q := fun q h => by rw [← hAe]; exact Or.inr h
  have hS : va_S A s.heap s.heap [] := va_S.rf
  have hP : va_P (dC, dI) vwCl [(mo, .inr (8, ms)), (wt, .inl (cT, 2, .inl tf))] s.heap := hP
  have m_0 : (.methodLink RX9 501 yX9_isWant : Cond) ∈ zw_m_meets := List.mem_append_left _ (List.mem_of_getElem? (i := 1) rfl)
  have k_0 := hts _ m_0
  have m_1 : (.instanceMethod yX9_isWant : Cond) ∈ zw_m_meets := List.mem_append_left _ (List.mem_of_getElem? (i := 2) rfl)
  have k_1 := hts _ m_1
  have m_2 : (.selects RX9 yX9_isWant yX9_isWant : Cond) ∈ zw_m_meets := List.mem_append_left _ (List.mem_of_getElem? (i := 3) rfl)
  have k_2 := hts _ m_2
  have m_3 : (.initialized RX9 : Cond) ∈ zw_m_meets := List.mem_append_left _ (List.mem_of_getElem? (i := 4) rfl)
  have k_3 := hts _ m_3
  have g_c_isWant : ∀ w ∈ zw_c_isWant, w ∈ zw_m_meets := fun w h => List.mem_append_right _ (List.mem_append_left _ h)
  have hl := lv_entry ([.ref mo, .int a1, .int a2, .int a3]) (n := 6) (Nat.le_of_ble_eq_true rfl)
  rw [lg_entry_eq]
  generalize (lg_sl ([.ref mo, .int a1, .int a2, .int a3]) ++ List.replicate (6 - (lg_sl ([.ref mo, .int a1, .int a2, .int a3])).length) Slot.unset).toArray = ls at hl ⊢
  have hl : lv_has ls 6 [(0, .ref mo), (1, .int a1), (2, .int a2), (3, .int a3)] := hl
  refine lv_aload_n hx hb dX9_meets_0 rfl (lv_at hl 0 rfl) ?_
  refine lv_iload_n hx hb dX9_meets_1 rfl (lv_at hl 1 rfl) ?_
  have hPc := hP.sub (ws' := [(mo, .inr (8, ms)), (wt, .inl (cT, 2, .inl tf))]) [0, 1] rfl
  have hDc := hD.sub (ws' := [(mo, .inr (8, ms)), (wt, .inl (cT, 2, .inl tf))]) [0, 1] (by decide) rfl
  have hKc := hK.sub (tys' := [(cT, .int)]) [0] rfl
  have hFc := va_free (wc := [(mo, .inr (8, ms)), (wt, .inl (cT, 2, .inl tf))]) hD hS hA [0, 1] rfl
  refine va_calli (va_runV (As := [.int a1]) (rest := []) ⟨hx, hb, hml, hown, hts⟩ (c_isWant l dC dI s.heap.size mo ms wt cT tf a1 f_ms_15 f_ms_43 h_tf_0) (cwV 1 hts (p1_gV m_0 m_1 m_2 m_3 g_c_isWant gz_c_isWant) rfl rfl rfl (by decide +kernel) ⟨by decide, by decide⟩) ⟨fun a U g mk q => by obtain ⟨q0, q1, qP, qK, qD⟩ := q; exact ⟨q0, q1, qP, va_K.moved (u := U) (U := U.calling g mk a) (Vm.Alike.refl U.vm) qK, qD⟩, va_recv hKc hPc (ci := 8) (q0 := 0) rfl rfl, fun U hU hW => ⟨rfl, by rw [hU], by rw [hU]; exact hPc, va_K.moved hW.alike hKc, hDc.weaken (fun _ _ _ _ => trivial)⟩⟩ rfl rfl hl.1 rfl (lv_room (Nat.le_of_ble_eq_true rfl)) dX9_meets_2 ⟨by decide, by decide⟩) hS (fun q _ h => hFc q h) hFc (fun r_1 u t H1 locs ht hvm hw hB hz1 hk1 hS => ?_)
  obtain ⟨hP1, hK1, hD1⟩ := hB
  rw [ht] at hP1
  obtain ⟨hP, hD⟩ := va_join (wr := []) (w1 := [(mo, .inr (8, ms)), (wt, .inl (cT, 2, .inl tf))]) hP hD [0, 1] [] rfl rfl (by decide) (by decide) hk1 hFc hP1 hD1
  generalize H1 = H at hP hS ⊢
  have hP : va_P (dC, dI) vwCl [(mo, .inr (8, ms)), (wt, .inl (cT, 2, .inl tf))] H := hP
  have hD : va_D A [(mo, .inr (8, ms)), (wt, .inl (cT, 2, .inl tf))] := hD
  try dsimp only at hw
  obtain rfl : r_1 = 0 := hw
  refine lv_if_eq (tgt := 24) hx hb dX9_meets_5 (by decide) (fun _ => ?_) (fun c9 => absurd c9 (by decide))
  refine lv_iconst (v := (-1)) hx hb dX9_meets_24 (by decide) ?_
  have hP9 := hP.sub (ws' := []) [] rfl
  have hD9 := hD.sub (ws' := []) [] (by decide) rfl
  have hK9 := hK.sub (tys' := []) [] rfl
  exact W.iret (v := (-1)) hx hb hr (fun t ht hW => ⟨⟨(-1), (), rfl, rfl, by rw [ht]; exact hP9, va_K.moved hW.alike hK9, hD9⟩, hS.F ht⟩) hS.2.2 dX9_meets_25
def zo_m_odds : List Cond := [.code yX9_odds cX9_odds 7 (some .int), .methodLink RX9 431 yX9_isKnot, .instanceMethod yX9_isKnot, .selects RX9 yX9_isKnot yX9_isKnot, .initialized RX9]
def zw_m_odds : List Cond := zo_m_odds ++ (zw_c_isKnot ++ [])
theorem gz_m_odds : zw_m_odds.all goodWord = true := p1_ga (by decide +kernel) (p1_ga gz_c_isKnot p1_g0)
theorem iz_m_odds : ∀ w ∈ zw_m_odds, w ∈ lw_tbl := p1_ia (p1_all [1597, 1435, 1437, 71, 116] (by decide +kernel)) (p1_ia iz_c_isKnot p1_i0)
set_option maxHeartbeats 4000000 in
set_option maxRecDepth 100000 in
theorem m_odds (l : Launch) (dC : Nat → ClassId) (dI : Nat → Nat → Nat) (sz : Nat) (mo : Nat) (ms : List Value) (kn : Nat) (cK : ClassId) (kf : Nat → Int32) (a1 : Int32) (a2 : Int32) (a3 : Int32) (f_ms_11 : ms[11]? = some (.ref kn)) (f_ms_43 : ms[43]? = some (.int 0)) (h_kf_0 : kf 0 = 0) : Met l yX9_odds zw_m_odds ({ frames := 2, cells := 0, slots := 0, locals := 43 }) (va_Pc [.ref mo, .int a1, .int a2, .int a3] (fun U => U.heap.size = sz ∧ va_P (dC, dI) vwCl [(mo, .inr (8, ms)), (kn, .inl (cK, 2, .inl kf))] U.heap ∧ va_K (dC, dI) vwCl [(cK, .int)] U ∧ va_D (fun _ => True) [(mo, .inr (8, ms)), (kn, .inl (cK, 2, .inl kf))])) (va_Qi (fun (r : Int32) (_ : Unit) => r = (-1)) (fun _ t => va_P (dC, dI) vwCl [] t.heap ∧ va_K (dC, dI) vwCl [] t ∧ va_D (va_A [(mo, .inr (8, ms)), (kn, .inl (cK, 2, .inl kf))] sz) []) (va_A [(mo, .inr (8, ms)), (kn, .inl (cK, 2, .inl kf))] sz)) 0 0 (va_A [(mo, .inr (8, ms)), (kn, .inl (cK, 2, .inl kf))] sz) := by
  refine Met.ofW (cc := cX9_odds) (maxL := 7) (ret := (some .int)) (by decide) rfl ?_
  intro p e s m args below meth c s₁ B hml hv
  obtain ⟨rfl, hsz, hP, hK, hD0⟩ := hv
  have hx := B.exec
  have hb := B.bytes
  have hr := B.returns
  have hts := atoms_spec (ws := zw_m_odds) B.pre
  have hown : s.vm.findClass RX9 = some m.cls := findClass_of_methodNamed B.named
  have hlocks := B.notSynchronized
  subst hsz
  have hD := hD0.self (sz := s.heap.size)
  generalize hAe : va_A [(mo, .inr (8, ms)), (kn, .inl (cK, 2, .inl kf))] s.heap.size = A at hD ⊢
  have hA : ∀ q : Nat, s.heap.size ≤ q → A q := fun q h => by rw [← hAe]; exact Or.inr h
  have hS : va_S A s.heap s.heap [] := va_S.rf
  have hP : va_P (dC, dI) vwCl [(mo, .inr (8, ms)), (kn, .inl (cK, 2, .inl kf))] s.heap := hP
  have m_0 : (.methodLink RX9 431 yX9_isKnot : Cond) ∈ zw_m_odds := List.mem_append_left _ (List.mem_of_getElem? (i := 1) rfl)
  have k_0 := hts _ m_0
  have m_1 : (.instanceMethod yX9_isKnot : Cond) ∈ zw_m_odds := List.mem_append_left _ (List.mem_of_getElem? (i := 2) rfl)
  have k_1 := hts _ m_1
  have m_2 : (.selects RX9 yX9_isKnot yX9_isKnot : Cond) ∈ zw_m_odds := List.mem_append_left _ (List.mem_of_getElem? (i := 3) rfl)
  have k_2 := hts _ m_2
  have m_3 : (.initialized RX9 : Cond) ∈ zw_m_odds := List.mem_append_left _ (List.mem_of_getElem? (i := 4) rfl)
  have k_3 := hts _ m_3
  have g_c_isKnot : ∀ w ∈ zw_c_isKnot, w ∈ zw_m_odds := fun w h => List.mem_append_right _ (List.mem_append_left _ h)
  have hl := lv_entry ([.ref mo, .int a1, .int a2, .int a3]) (n := 7) (Nat.le_of_ble_eq_true rfl)
  rw [lg_entry_eq]
  generalize (lg_sl ([.ref mo, .int a1, .int a2, .int a3]) ++ List.replicate (7 - (lg_sl ([.ref mo, .int a1, .int a2, .int a3])).length) Slot.unset).toArray = ls at hl ⊢
  have hl : lv_has ls 7 [(0, .ref mo), (1, .int a1), (2, .int a2), (3, .int a3)] := hl
  refine lv_aload_n hx hb dX9_odds_0 rfl (lv_at hl 0 rfl) ?_
  refine lv_iload_n hx hb dX9_odds_1 rfl (lv_at hl 1 rfl) ?_
  have hPc := hP.sub (ws' := [(mo, .inr (8, ms)), (kn, .inl (cK, 2, .inl kf))]) [0, 1] rfl
  have hDc := hD.sub (ws' := [(mo, .inr (8, ms)), (kn, .inl (cK, 2, .inl kf))]) [0, 1] (by decide) rfl
  have hKc := hK.sub (tys' := [(cK, .int)]) [0] rfl
  have hFc := va_free (wc := [(mo, .inr (8, ms)), (kn, .inl (cK, 2, .inl kf))]) hD hS hA [0, 1] rfl
  refine va_calli (va_runV (As := [.int a1]) (rest := []) ⟨hx, hb, hml, hown, hts⟩ (c_isKnot l dC dI s.heap.size mo ms kn cK kf a1 f_ms_11 f_ms_43 h_kf_0) (cwV 1 hts (p1_gV m_0 m_1 m_2 m_3 g_c_isKnot gz_c_isKnot) rfl rfl rfl (by decide +kernel) ⟨by decide, by decide⟩) ⟨fun a U g mk q => by obtain ⟨q0, q1, qP, qK, qD⟩ := q; exact ⟨q0, q1, qP, va_K.moved (u := U) (U := U.calling g mk a) (Vm.Alike.refl U.vm) qK, qD⟩, va_recv hKc hPc (ci := 8) (q0 := 0) rfl rfl, fun U hU hW => ⟨rfl, by rw [hU], by rw [hU]; exact hPc, va_K.moved hW.alike hKc, hDc.weaken (fun _ _ _ _ => trivial)⟩⟩ rfl rfl hl.1 rfl (lv_room (Nat.le_of_ble_eq_true rfl)) dX9_odds_2 ⟨by decide, by decide⟩) hS (fun q _ h => hFc q h) hFc (fun r_1 u t H1 locs ht hvm hw hB hz1 hk1 hS => ?_)
  obtain ⟨hP1, hK1, hD1⟩ := hB
  rw [ht] at hP1
  obtain ⟨hP, hD⟩ := va_join (wr := []) (w1 := [(mo, .inr (8, ms)), (kn, .inl (cK, 2, .inl kf))]) hP hD [0, 1] [] rfl rfl (by decide) (by decide) hk1 hFc hP1 hD1
  generalize H1 = H at hP hS ⊢
  have hP : va_P (dC, dI) vwCl [(mo, .inr (8, ms)), (kn, .inl (cK, 2, .inl kf))] H := hP
  have hD : va_D A [(mo, .inr (8, ms)), (kn, .inl (cK, 2, .inl kf))] := hD
  try dsimp only at hw
  obtain rfl : r_1 = 0 := hw
  refine lv_if_eq (tgt := 50) hx hb dX9_odds_5 (by decide) (fun _ => ?_) (fun c9 => absurd c9 (by decide))
  refine lv_iconst (v := (-1)) hx hb dX9_odds_50 (by decide) ?_
  have hP9 := hP.sub (ws' := []) [] rfl
  have hD9 := hD.sub (ws' := []) [] (by decide) rfl
  have hK9 := hK.sub (tys' := []) [] rfl
  exact W.iret (v := (-1)) hx hb hr (fun t ht hW => ⟨⟨(-1), (), rfl, rfl, by rw [ht]; exact hP9, va_K.moved hW.alike hK9, hD9⟩, hS.F ht⟩) hS.2.2 dX9_odds_51
def zo_m_worse : List Cond := [.code yX9_worse cX9_worse 5 (some .int), .methodLink RX9 485 yX9_isAll, .instanceMethod yX9_isAll, .selects RX9 yX9_isAll yX9_isAll, .initialized RX9]
def zw_m_worse : List Cond := zo_m_worse ++ (zw_c_isAll ++ [])
theorem gz_m_worse : zw_m_worse.all goodWord = true := p1_ga (by decide +kernel) (p1_ga gz_c_isAll p1_g0)
theorem iz_m_worse : ∀ w ∈ zw_m_worse, w ∈ lw_tbl := p1_ia (p1_all [1607, 1518, 1520, 84, 116] (by decide +kernel)) (p1_ia iz_c_isAll p1_i0)
set_option maxHeartbeats 4000000 in
set_option maxRecDepth 100000 in
theorem m_worse (l : Launch) (dC : Nat → ClassId) (dI : Nat → Nat → Nat) (sz : Nat) (mo : Nat) (ms : List Value) (kn : Nat) (cK : ClassId) (kf : Nat → Int32) (a1 : Int32) (a2 : Int32) (a3 : Int32) (a4 : Int32) (f_ms_11 : ms[11]? = some (.ref kn)) (f_ms_43 : ms[43]? = some (.int 0)) (h_kf_0 : kf 0 = 0) : Met l yX9_worse zw_m_worse ({ frames := 3, cells := 0, slots := 0, locals := 66 }) (va_Pc [.ref mo, .int a1, .int a2, .int a3, .int a4] (fun U => U.heap.size = sz ∧ va_P (dC, dI) vwCl [(mo, .inr (8, ms)), (kn, .inl (cK, 2, .inl kf))] U.heap ∧ va_K (dC, dI) vwCl [(cK, .int)] U ∧ va_D (fun _ => True) [(mo, .inr (8, ms)), (kn, .inl (cK, 2, .inl kf))])) (va_Qi (fun (r : Int32) (_ : Unit) => r = (-10000)) (fun _ t => va_P (dC, dI) vwCl [] t.heap ∧ va_K (dC, dI) vwCl [] t ∧ va_D (va_A [(mo, .inr (8, ms)), (kn, .inl (cK, 2, .inl kf))] sz) []) (va_A [(mo, .inr (8, ms)), (kn, .inl (cK, 2, .inl kf))] sz)) 0 0 (va_A [(mo, .inr (8, ms)), (kn, .inl (cK, 2, .inl kf))] sz) := by
  refine Met.ofW (cc := cX9_worse) (maxL := 5) (ret := (some .int)) (by decide) rfl ?_
  intro p e s m args below meth c s₁ B hml hv
  obtain ⟨rfl, hsz, hP, hK, hD0⟩ := hv
  have hx := B.exec
  have hb := B.bytes
  have hr := B.returns
  have hts := atoms_spec (ws := zw_m_worse) B.pre
  have hown : s.vm.findClass RX9 = some m.cls := findClass_of_methodNamed B.named
  have hlocks := B.notSynchronized
  subst hsz
  have hD := hD0.self (sz := s.heap.size)
  generalize hAe : va_A [(mo, .inr (8, ms)), (kn, .inl (cK, 2, .inl kf))] s.heap.size = A at hD ⊢
  have hA : ∀ q : Nat, s.heap.size ≤ q → A q := fun q h => by rw [← hAe]; exact Or.inr h
  have hS : va_S A s.heap s.heap [] := va_S.rf
  have hP : va_P (dC, dI) vwCl [(mo, .inr (8, ms)), (kn, .inl (cK, 2, .inl kf))] s.heap := hP
  have m_0 : (.methodLink RX9 485 yX9_isAll : Cond) ∈ zw_m_worse := List.mem_append_left _ (List.mem_of_getElem? (i := 1) rfl)
  have k_0 := hts _ m_0
  have m_1 : (.instanceMethod yX9_isAll : Cond) ∈ zw_m_worse := List.mem_append_left _ (List.mem_of_getElem? (i := 2) rfl)
  have k_1 := hts _ m_1
  have m_2 : (.selects RX9 yX9_isAll yX9_isAll : Cond) ∈ zw_m_worse := List.mem_append_left _ (List.mem_of_getElem? (i := 3) rfl)
  have k_2 := hts _ m_2
  have m_3 : (.initialized RX9 : Cond) ∈ zw_m_worse := List.mem_append_left _ (List.mem_of_getElem? (i := 4) rfl)
  have k_3 := hts _ m_3
  have g_c_isAll : ∀ w ∈ zw_c_isAll, w ∈ zw_m_worse := fun w h => List.mem_append_right _ (List.mem_append_left _ h)
  have hl := lv_entry ([.ref mo, .int a1, .int a2, .int a3, .int a4]) (n := 5) (Nat.le_of_ble_eq_true rfl)
  rw [lg_entry_eq]
  generalize (lg_sl ([.ref mo, .int a1, .int a2, .int a3, .int a4]) ++ List.replicate (5 - (lg_sl ([.ref mo, .int a1, .int a2, .int a3, .int a4])).length) Slot.unset).toArray = ls at hl ⊢
  have hl : lv_has ls 5 [(0, .ref mo), (1, .int a1), (2, .int a2), (3, .int a3), (4, .int a4)] := hl
  refine lv_aload_n hx hb dX9_worse_0 rfl (lv_at hl 0 rfl) ?_
  refine lv_iload_n hx hb dX9_worse_1 rfl (lv_at hl 1 rfl) ?_
  refine lv_iload_n hx hb dX9_worse_2 rfl (lv_at hl 2 rfl) ?_
  refine lv_iload_n hx hb dX9_worse_3 rfl (lv_at hl 3 rfl) ?_
  have hPc := hP.sub (ws' := [(mo, .inr (8, ms)), (kn, .inl (cK, 2, .inl kf))]) [0, 1] rfl
  have hDc := hD.sub (ws' := [(mo, .inr (8, ms)), (kn, .inl (cK, 2, .inl kf))]) [0, 1] (by decide) rfl
  have hKc := hK.sub (tys' := [(cK, .int)]) [0] rfl
  have hFc := va_free (wc := [(mo, .inr (8, ms)), (kn, .inl (cK, 2, .inl kf))]) hD hS hA [0, 1] rfl
  refine va_calli (va_runV (As := [.int a1, .int a2, .int a3]) (rest := []) ⟨hx, hb, hml, hown, hts⟩ (c_isAll l dC dI s.heap.size mo ms kn cK kf a1 a2 a3 f_ms_11 f_ms_43 h_kf_0) (cwV 3 hts (p1_gV m_0 m_1 m_2 m_3 g_c_isAll gz_c_isAll) rfl rfl rfl (by decide +kernel) ⟨by decide, by decide⟩) ⟨fun a U g mk q => by obtain ⟨q0, q1, qP, qK, qD⟩ := q; exact ⟨q0, q1, qP, va_K.moved (u := U) (U := U.calling g mk a) (Vm.Alike.refl U.vm) qK, qD⟩, va_recv hKc hPc (ci := 8) (q0 := 0) rfl rfl, fun U hU hW => ⟨rfl, by rw [hU], by rw [hU]; exact hPc, va_K.moved hW.alike hKc, hDc.weaken (fun _ _ _ _ => trivial)⟩⟩ rfl rfl hl.1 rfl (lv_room (Nat.le_of_ble_eq_true rfl)) dX9_worse_4 ⟨by decide, by decide⟩) hS (fun q _ h => hFc q h) hFc (fun r_1 u t H1 locs ht hvm hw hB hz1 hk1 hS => ?_)
  obtain ⟨hP1, hK1, hD1⟩ := hB
  rw [ht] at hP1
  obtain ⟨hP, hD⟩ := va_join (wr := []) (w1 := [(mo, .inr (8, ms)), (kn, .inl (cK, 2, .inl kf))]) hP hD [0, 1] [] rfl rfl (by decide) (by decide) hk1 hFc hP1 hD1
  generalize H1 = H at hP hS ⊢
  have hP : va_P (dC, dI) vwCl [(mo, .inr (8, ms)), (kn, .inl (cK, 2, .inl kf))] H := hP
  have hD : va_D A [(mo, .inr (8, ms)), (kn, .inl (cK, 2, .inl kf))] := hD
  try dsimp only at hw
  obtain rfl : r_1 = 0 := hw
  refine lv_if_eq (tgt := 47) hx hb dX9_worse_7 (by decide) (fun _ => ?_) (fun c9 => absurd c9 (by decide))
  refine lv_sipush (v := (-10000)) hx hb dX9_worse_47 (by decide) ?_
  have hP9 := hP.sub (ws' := []) [] rfl
  have hD9 := hD.sub (ws' := []) [] (by decide) rfl
  have hK9 := hK.sub (tys' := []) [] rfl
  exact W.iret (v := (-10000)) hx hb hr (fun t ht hW => ⟨⟨(-10000), (), rfl, rfl, by rw [ht]; exact hP9, va_K.moved hW.alike hK9, hD9⟩, hS.F ht⟩) hS.2.2 dX9_worse_50
def zo_m_which : List Cond := [.code yX9_which cX9_which 6 (some .int), .methodLink RX9 485 yX9_isAll, .instanceMethod yX9_isAll, .selects RX9 yX9_isAll yX9_isAll, .initialized RX9]
def zw_m_which : List Cond := zo_m_which ++ (zw_c_isAll ++ [])
theorem gz_m_which : zw_m_which.all goodWord = true := p1_ga (by decide +kernel) (p1_ga gz_c_isAll p1_g0)
theorem iz_m_which : ∀ w ∈ zw_m_which, w ∈ lw_tbl := p1_ia (p1_all [1615, 1518, 1520, 84, 116] (by decide +kernel)) (p1_ia iz_c_isAll p1_i0)
set_option maxHeartbeats 4000000 in
set_option maxRecDepth 100000 in
theorem m_which (l : Launch) (dC : Nat → ClassId) (dI : Nat → Nat → Nat) (sz : Nat) (mo : Nat) (ms : List Value) (kn : Nat) (cK : ClassId) (kf : Nat → Int32) (a1 : Int32) (a2 : Int32) (a3 : Int32) (f_ms_11 : ms[11]? = some (.ref kn)) (f_ms_43 : ms[43]? = some (.int 0)) (h_kf_0 : kf 0 = 0) : Met l yX9_which zw_m_which ({ frames := 3, cells := 0, slots := 0, locals := 66 }) (va_Pc [.ref mo, .int a1, .int a2, .int a3] (fun U => U.heap.size = sz ∧ va_P (dC, dI) vwCl [(mo, .inr (8, ms)), (kn, .inl (cK, 2, .inl kf))] U.heap ∧ va_K (dC, dI) vwCl [(cK, .int)] U ∧ va_D (fun _ => True) [(mo, .inr (8, ms)), (kn, .inl (cK, 2, .inl kf))])) (va_Qi (fun (r : Int32) (_ : Unit) => r = (-1)) (fun _ t => va_P (dC, dI) vwCl [] t.heap ∧ va_K (dC, dI) vwCl [] t ∧ va_D (va_A [(mo, .inr (8, ms)), (kn, .inl (cK, 2, .inl kf))] sz) []) (va_A [(mo, .inr (8, ms)), (kn, .inl (cK, 2, .inl kf))] sz)) 0 0 (va_A [(mo, .inr (8, ms)), (kn, .inl (cK, 2, .inl kf))] sz) := by
  refine Met.ofW (cc := cX9_which) (maxL := 6) (ret := (some .int)) (by decide) rfl ?_
  intro p e s m args below meth c s₁ B hml hv
  obtain ⟨rfl, hsz, hP, hK, hD0⟩ := hv
  have hx := B.exec
  have hb := B.bytes
  have hr := B.returns
  have hts := atoms_spec (ws := zw_m_which) B.pre
  have hown : s.vm.findClass RX9 = some m.cls := findClass_of_methodNamed B.named
  have hlocks := B.notSynchronized
  subst hsz
  have hD := hD0.self (sz := s.heap.size)
  generalize hAe : va_A [(mo, .inr (8, ms)), (kn, .inl (cK, 2, .inl kf))] s.heap.size = A at hD ⊢
  have hA : ∀ q : Nat, s.heap.size ≤ q → A q := fun q h => by rw [← hAe]; exact Or.inr h
  have hS : va_S A s.heap s.heap [] := va_S.rf
  have hP : va_P (dC, dI) vwCl [(mo, .inr (8, ms)), (kn, .inl (cK, 2, .inl kf))] s.heap := hP
  have m_0 : (.methodLink RX9 485 yX9_isAll : Cond) ∈ zw_m_which := List.mem_append_left _ (List.mem_of_getElem? (i := 1) rfl)
  have k_0 := hts _ m_0
  have m_1 : (.instanceMethod yX9_isAll : Cond) ∈ zw_m_which := List.mem_append_left _ (List.mem_of_getElem? (i := 2) rfl)
  have k_1 := hts _ m_1
  have m_2 : (.selects RX9 yX9_isAll yX9_isAll : Cond) ∈ zw_m_which := List.mem_append_left _ (List.mem_of_getElem? (i := 3) rfl)
  have k_2 := hts _ m_2
  have m_3 : (.initialized RX9 : Cond) ∈ zw_m_which := List.mem_append_left _ (List.mem_of_getElem? (i := 4) rfl)
  have k_3 := hts _ m_3
  have g_c_isAll : ∀ w ∈ zw_c_isAll, w ∈ zw_m_which := fun w h => List.mem_append_right _ (List.mem_append_left _ h)
  have hl := lv_entry ([.ref mo, .int a1, .int a2, .int a3]) (n := 6) (Nat.le_of_ble_eq_true rfl)
  rw [lg_entry_eq]
  generalize (lg_sl ([.ref mo, .int a1, .int a2, .int a3]) ++ List.replicate (6 - (lg_sl ([.ref mo, .int a1, .int a2, .int a3])).length) Slot.unset).toArray = ls at hl ⊢
  have hl : lv_has ls 6 [(0, .ref mo), (1, .int a1), (2, .int a2), (3, .int a3)] := hl
  refine lv_aload_n hx hb dX9_which_0 rfl (lv_at hl 0 rfl) ?_
  refine lv_iload_n hx hb dX9_which_1 rfl (lv_at hl 1 rfl) ?_
  refine lv_iload_n hx hb dX9_which_2 rfl (lv_at hl 2 rfl) ?_
  refine lv_iload_n hx hb dX9_which_3 rfl (lv_at hl 3 rfl) ?_
  have hPc := hP.sub (ws' := [(mo, .inr (8, ms)), (kn, .inl (cK, 2, .inl kf))]) [0, 1] rfl
  have hDc := hD.sub (ws' := [(mo, .inr (8, ms)), (kn, .inl (cK, 2, .inl kf))]) [0, 1] (by decide) rfl
  have hKc := hK.sub (tys' := [(cK, .int)]) [0] rfl
  have hFc := va_free (wc := [(mo, .inr (8, ms)), (kn, .inl (cK, 2, .inl kf))]) hD hS hA [0, 1] rfl
  refine va_calli (va_runV (As := [.int a1, .int a2, .int a3]) (rest := []) ⟨hx, hb, hml, hown, hts⟩ (c_isAll l dC dI s.heap.size mo ms kn cK kf a1 a2 a3 f_ms_11 f_ms_43 h_kf_0) (cwV 3 hts (p1_gV m_0 m_1 m_2 m_3 g_c_isAll gz_c_isAll) rfl rfl rfl (by decide +kernel) ⟨by decide, by decide⟩) ⟨fun a U g mk q => by obtain ⟨q0, q1, qP, qK, qD⟩ := q; exact ⟨q0, q1, qP, va_K.moved (u := U) (U := U.calling g mk a) (Vm.Alike.refl U.vm) qK, qD⟩, va_recv hKc hPc (ci := 8) (q0 := 0) rfl rfl, fun U hU hW => ⟨rfl, by rw [hU], by rw [hU]; exact hPc, va_K.moved hW.alike hKc, hDc.weaken (fun _ _ _ _ => trivial)⟩⟩ rfl rfl hl.1 rfl (lv_room (Nat.le_of_ble_eq_true rfl)) dX9_which_4 ⟨by decide, by decide⟩) hS (fun q _ h => hFc q h) hFc (fun r_1 u t H1 locs ht hvm hw hB hz1 hk1 hS => ?_)
  obtain ⟨hP1, hK1, hD1⟩ := hB
  rw [ht] at hP1
  obtain ⟨hP, hD⟩ := va_join (wr := []) (w1 := [(mo, .inr (8, ms)), (kn, .inl (cK, 2, .inl kf))]) hP hD [0, 1] [] rfl rfl (by decide) (by decide) hk1 hFc hP1 hD1
  generalize H1 = H at hP hS ⊢
  have hP : va_P (dC, dI) vwCl [(mo, .inr (8, ms)), (kn, .inl (cK, 2, .inl kf))] H := hP
  have hD : va_D A [(mo, .inr (8, ms)), (kn, .inl (cK, 2, .inl kf))] := hD
  try dsimp only at hw
  obtain rfl : r_1 = 0 := hw
  refine lv_if_ne (tgt := 12) hx hb dX9_which_7 (by decide) (fun c9 => absurd c9 (by decide)) (fun _ => ?_)
  refine lv_iconst (v := (-1)) hx hb dX9_which_10 (by decide) ?_
  have hP9 := hP.sub (ws' := []) [] rfl
  have hD9 := hD.sub (ws' := []) [] (by decide) rfl
  have hK9 := hK.sub (tys' := []) [] rfl
  exact W.iret (v := (-1)) hx hb hr (fun t ht hW => ⟨⟨(-1), (), rfl, rfl, by rw [ht]; exact hP9, va_K.moved hW.alike hK9, hD9⟩, hS.F ht⟩) hS.2.2 dX9_which_11
def zo_m_best : List Cond := [.code yX9_best cX9_best 11 (some .int), .methodLink RX9 389 yX9_isIn, .static yX9_isIn, .initialized RX9, .methodLink RX9 434 yX9_isCord, .instanceMethod yX9_isCord, .selects RX9 yX9_isCord yX9_isCord]
def zw_m_best : List Cond := zo_m_best ++ (zw_c_isIn ++ (zw_c_isCord ++ []))
theorem gz_m_best : zw_m_best.all goodWord = true := p1_ga (by decide +kernel) (p1_ga gz_c_isIn (p1_ga gz_c_isCord p1_g0))
theorem iz_m_best : ∀ w ∈ zw_m_best, w ∈ lw_tbl := p1_ia (p1_all [1619, 1439, 1440, 116, 1442, 1444, 72] (by decide +kernel)) (p1_ia iz_c_isIn (p1_ia iz_c_isCord p1_i0))
set_option maxHeartbeats 4000000 in
set_option maxRecDepth 100000 in
theorem m_best (l : Launch) (dC : Nat → ClassId) (dI : Nat → Nat → Nat) (sz : Nat) (mo : Nat) (ms : List Value) (co : Nat) (cC : ClassId) (cf : Nat → Int32) (a1 : Int32) (a2 : Int32) (a3 : Int32) (a4 : Int32) (a5 : Int32) (f_ms_12 : ms[12]? = some (.ref co)) (f_ms_43 : ms[43]? = some (.int 0)) (h_cf_0 : cf 0 = 0) : Met l yX9_best zw_m_best ({ frames := 2, cells := 0, slots := 0, locals := 43 }) (va_Pc [.ref mo, .int a1, .int a2, .int a3, .int a4, .int a5] (fun U => U.heap.size = sz ∧ va_P (dC, dI) vwCl [(mo, .inr (8, ms)), (co, .inl (cC, 2, .inl cf))] U.heap ∧ va_K (dC, dI) vwCl [(cC, .int)] U ∧ va_D (fun _ => True) [(mo, .inr (8, ms)), (co, .inl (cC, 2, .inl cf))])) (va_Qi (fun (r : Int32) (_ : Unit) => r = (-1)) (fun _ t => va_P (dC, dI) vwCl [] t.heap ∧ va_K (dC, dI) vwCl [] t ∧ va_D (va_A [(mo, .inr (8, ms)), (co, .inl (cC, 2, .inl cf))] sz) []) (va_A [(mo, .inr (8, ms)), (co, .inl (cC, 2, .inl cf))] sz)) 0 0 (va_A [(mo, .inr (8, ms)), (co, .inl (cC, 2, .inl cf))] sz) := by
  refine Met.ofW (cc := cX9_best) (maxL := 11) (ret := (some .int)) (by decide) rfl ?_
  intro p e s m args below meth c s₁ B hml hv
  obtain ⟨rfl, hsz, hP, hK, hD0⟩ := hv
  have hx := B.exec
  have hb := B.bytes
  have hr := B.returns
  have hts := atoms_spec (ws := zw_m_best) B.pre
  have hown : s.vm.findClass RX9 = some m.cls := findClass_of_methodNamed B.named
  have hlocks := B.notSynchronized
  subst hsz
  have hD := hD0.self (sz := s.heap.size)
  generalize hAe : va_A [(mo, .inr (8, ms)), (co, .inl (cC, 2, .inl cf))] s.heap.size = A at hD ⊢
  have hA : ∀ q : Nat, s.heap.size ≤ q → A q := fun q h => by rw [← hAe]; exact Or.inr h
  have hS : va_S A s.heap s.heap [] := va_S.rf
  have hP : va_P (dC, dI) vwCl [(mo, .inr (8, ms)), (co, .inl (cC, 2, .inl cf))] s.heap := hP
  have m_0 : (.methodLink RX9 389 yX9_isIn : Cond) ∈ zw_m_best := List.mem_append_left _ (List.mem_of_getElem? (i := 1) rfl)
  have k_0 := hts _ m_0
  have m_1 : (.static yX9_isIn : Cond) ∈ zw_m_best := List.mem_append_left _ (List.mem_of_getElem? (i := 2) rfl)
  have k_1 := hts _ m_1
  have m_2 : (.initialized RX9 : Cond) ∈ zw_m_best := List.mem_append_left _ (List.mem_of_getElem? (i := 3) rfl)
  have k_2 := hts _ m_2
  have m_3 : (.methodLink RX9 434 yX9_isCord : Cond) ∈ zw_m_best := List.mem_append_left _ (List.mem_of_getElem? (i := 4) rfl)
  have k_3 := hts _ m_3
  have m_4 : (.instanceMethod yX9_isCord : Cond) ∈ zw_m_best := List.mem_append_left _ (List.mem_of_getElem? (i := 5) rfl)
  have k_4 := hts _ m_4
  have m_5 : (.selects RX9 yX9_isCord yX9_isCord : Cond) ∈ zw_m_best := List.mem_append_left _ (List.mem_of_getElem? (i := 6) rfl)
  have k_5 := hts _ m_5
  have g_c_isIn : ∀ w ∈ zw_c_isIn, w ∈ zw_m_best := fun w h => List.mem_append_right _ (List.mem_append_left _ h)
  have g_c_isCord : ∀ w ∈ zw_c_isCord, w ∈ zw_m_best := fun w h => List.mem_append_right _ (List.mem_append_right _ (List.mem_append_left _ h))
  have hl := lv_entry ([.ref mo, .int a1, .int a2, .int a3, .int a4, .int a5]) (n := 11) (Nat.le_of_ble_eq_true rfl)
  rw [lg_entry_eq]
  generalize (lg_sl ([.ref mo, .int a1, .int a2, .int a3, .int a4, .int a5]) ++ List.replicate (11 - (lg_sl ([.ref mo, .int a1, .int a2, .int a3, .int a4, .int a5])).length) Slot.unset).toArray = ls at hl ⊢
  have hl : lv_has ls 11 [(0, .ref mo), (1, .int a1), (2, .int a2), (3, .int a3), (4, .int a4), (5, .int a5)] := hl
  refine lv_iload_n hx hb dX9_best_0 rfl (lv_at hl 1 rfl) ?_
  refine lv_iconst (v := 1) hx hb dX9_best_1 (by decide) ?_
  refine lv_bipush (v := 6) hx hb dX9_best_2 (by decide) ?_
  have hPc := hP.sub (ws' := []) [] rfl
  have hDc := hD.sub (ws' := []) [] (by decide) rfl
  have hKc := hK.sub (tys' := []) [] rfl
  have hFc := va_free (wc := []) hD hS hA [] rfl
  refine va_calli (va_runS (As := [.int a1, .int 1, .int 6]) (rest := []) ⟨hx, hb, hml, hown, hts⟩ (c_isIn l dC dI s.heap.size a1 1 6) (va_cwS 3 hts (p1_gS m_0 m_1 m_2 g_c_isIn gz_c_isIn) rfl rfl rfl (by decide +kernel) ⟨by decide, by decide⟩) ⟨fun a U g mk q => by obtain ⟨q0, q1, qP, qK, qD⟩ := q; exact ⟨q0, q1, qP, va_K.moved (u := U) (U := U.calling g mk a) (Vm.Alike.refl U.vm) qK, qD⟩, fun U hU hW => ⟨rfl, by rw [hU], by rw [hU]; exact hPc, va_K.moved hW.alike hKc, hDc.weaken (fun _ _ _ _ => trivial)⟩⟩ rfl rfl hl.1 rfl (lv_room (Nat.le_of_ble_eq_true rfl)) dX9_best_4 ⟨by decide, by decide⟩) hS (fun q _ h => hFc q h) hFc (fun r_1 u t H1 locs ht hvm hw hB hz1 hk1 hS => ?_)
  obtain ⟨hP1, hK1, hD1⟩ := hB
  rw [ht] at hP1
  obtain ⟨hP, hD⟩ := va_join (wr := [(mo, .inr (8, ms)), (co, .inl (cC, 2, .inl cf))]) (w1 := []) hP hD [] [0, 1] rfl rfl (by decide) (by decide) hk1 hFc hP1 hD1
  generalize H1 = H at hP hS ⊢
  have hP : va_P (dC, dI) vwCl [(mo, .inr (8, ms)), (co, .inl (cC, 2, .inl cf))] H := hP
  have hD : va_D A [(mo, .inr (8, ms)), (co, .inl (cC, 2, .inl cf))] := hD
  try dsimp only at hw
  rcases hw with ⟨rfl, hw_2⟩ | ⟨rfl, hw_2⟩
  · refine lv_if_eq (tgt := 48) hx hb dX9_best_7 (by decide) (fun c9 => absurd c9 (by decide)) (fun _ => ?_)
    refine lv_aload_n hx hb dX9_best_10 rfl (lv_at hl 0 rfl) ?_
    refine lv_iload_n hx hb dX9_best_11 rfl (lv_at hl 2 rfl) ?_
    have hPc := hP.sub (ws' := [(mo, .inr (8, ms)), (co, .inl (cC, 2, .inl cf))]) [0, 1] rfl
    have hDc := hD.sub (ws' := [(mo, .inr (8, ms)), (co, .inl (cC, 2, .inl cf))]) [0, 1] (by decide) rfl
    have hKc := hK.sub (tys' := [(cC, .int)]) [0] rfl
    have hFc := va_free (wc := [(mo, .inr (8, ms)), (co, .inl (cC, 2, .inl cf))]) hD hS hA [0, 1] rfl
    refine va_calli (va_runV (As := [.int a2]) (rest := []) ⟨hx, hb, hml, hown, hts⟩ (c_isCord l dC dI H.size mo ms co cC cf a2 f_ms_12 f_ms_43 h_cf_0) (cwV 1 hts (p1_gV m_3 m_4 m_5 m_2 g_c_isCord gz_c_isCord) rfl rfl rfl (by decide +kernel) ⟨by decide, by decide⟩) ⟨fun a U g mk q => by obtain ⟨q0, q1, qP, qK, qD⟩ := q; exact ⟨q0, q1, qP, va_K.moved (u := U) (U := U.calling g mk a) (Vm.Alike.refl U.vm) qK, qD⟩, va_recv hKc hPc (ci := 8) (q0 := 0) rfl rfl, fun U hU hW => ⟨rfl, by rw [hU], by rw [hU]; exact hPc, va_K.moved hW.alike hKc, hDc.weaken (fun _ _ _ _ => trivial)⟩⟩ rfl rfl hl.1 rfl (lv_room (Nat.le_of_ble_eq_true rfl)) dX9_best_12 ⟨by decide, by decide⟩) hS (fun q _ h => hFc q h) hFc (fun r_3 u t H1 locs ht hvm hw hB hz1 hk1 hS => ?_)
    obtain ⟨hP1, hK1, hD1⟩ := hB
    rw [ht] at hP1
    obtain ⟨hP, hD⟩ := va_join (wr := []) (w1 := [(mo, .inr (8, ms)), (co, .inl (cC, 2, .inl cf))]) hP hD [0, 1] [] rfl rfl (by decide) (by decide) hk1 hFc hP1 hD1
    generalize H1 = H at hP hS ⊢
    have hP : va_P (dC, dI) vwCl [(mo, .inr (8, ms)), (co, .inl (cC, 2, .inl cf))] H := hP
    have hD : va_D A [(mo, .inr (8, ms)), (co, .inl (cC, 2, .inl cf))] := hD
    try dsimp only at hw
    obtain rfl : r_3 = 0 := hw
    refine lv_if_eq (tgt := 48) hx hb dX9_best_15 (by decide) (fun _ => ?_) (fun c9 => absurd c9 (by decide))
    refine lv_iconst (v := (-1)) hx hb dX9_best_48 (by decide) ?_
    have hP9 := hP.sub (ws' := []) [] rfl
    have hD9 := hD.sub (ws' := []) [] (by decide) rfl
    have hK9 := hK.sub (tys' := []) [] rfl
    exact W.iret (v := (-1)) hx hb hr (fun t ht hW => ⟨⟨(-1), (), rfl, rfl, by rw [ht]; exact hP9, va_K.moved hW.alike hK9, hD9⟩, hS.F ht⟩) hS.2.2 dX9_best_49
  · refine lv_if_eq (tgt := 48) hx hb dX9_best_7 (by decide) (fun _ => ?_) (fun c9 => absurd c9 (by decide))
    refine lv_iconst (v := (-1)) hx hb dX9_best_48 (by decide) ?_
    have hP9 := hP.sub (ws' := []) [] rfl
    have hD9 := hD.sub (ws' := []) [] (by decide) rfl
    have hK9 := hK.sub (tys' := []) [] rfl
    exact W.iret (v := (-1)) hx hb hr (fun t ht hW => ⟨⟨(-1), (), rfl, rfl, by rw [ht]; exact hP9, va_K.moved hW.alike hK9, hD9⟩, hS.F ht⟩) hS.2.2 dX9_best_49
def zo_m_both : List Cond := [.code yX9_both cX9_both 7 (some .int), .methodLink RX9 434 yX9_isCord, .instanceMethod yX9_isCord, .selects RX9 yX9_isCord yX9_isCord, .initialized RX9]
def zw_m_both : List Cond := zo_m_both ++ (zw_c_isCord ++ [])
theorem gz_m_both : zw_m_both.all goodWord = true := p1_ga (by decide +kernel) (p1_ga gz_c_isCord p1_g0)
theorem iz_m_both : ∀ w ∈ zw_m_both, w ∈ lw_tbl := p1_ia (p1_all [1623, 1442, 1444, 72, 116] (by decide +kernel)) (p1_ia iz_c_isCord p1_i0)
set_option maxHeartbeats 4000000 in
set_option maxRecDepth 100000 in
theorem m_both (l : Launch) (dC : Nat → ClassId) (dI : Nat → Nat → Nat) (sz : Nat) (mo : Nat) (ms : List Value) (co : Nat) (cC : ClassId) (cf : Nat → Int32) (a1 : Int32) (a2 : Int32) (f_ms_12 : ms[12]? = some (.ref co)) (f_ms_43 : ms[43]? = some (.int 0)) (h_cf_0 : cf 0 = 0) : Met l yX9_both zw_m_both ({ frames := 2, cells := 0, slots := 0, locals := 43 }) (va_Pc [.ref mo, .int a1, .int a2] (fun U => U.heap.size = sz ∧ va_P (dC, dI) vwCl [(mo, .inr (8, ms)), (co, .inl (cC, 2, .inl cf))] U.heap ∧ va_K (dC, dI) vwCl [(cC, .int)] U ∧ va_D (fun _ => True) [(mo, .inr (8, ms)), (co, .inl (cC, 2, .inl cf))])) (va_Qi (fun (r : Int32) (_ : Unit) => r = (-1)) (fun _ t => va_P (dC, dI) vwCl [] t.heap ∧ va_K (dC, dI) vwCl [] t ∧ va_D (va_A [(mo, .inr (8, ms)), (co, .inl (cC, 2, .inl cf))] sz) []) (va_A [(mo, .inr (8, ms)), (co, .inl (cC, 2, .inl cf))] sz)) 0 0 (va_A [(mo, .inr (8, ms)), (co, .inl (cC, 2, .inl cf))] sz) := by
  refine Met.ofW (cc := cX9_both) (maxL := 7) (ret := (some .int)) (by decide) rfl ?_
  intro p e s m args below meth c s₁ B hml hv
  obtain ⟨rfl, hsz, hP, hK, hD0⟩ := hv
  have hx := B.exec
  have hb := B.bytes
  have hr := B.returns
  have hts := atoms_spec (ws := zw_m_both) B.pre
  have hown : s.vm.findClass RX9 = some m.cls := findClass_of_methodNamed B.named
  have hlocks := B.notSynchronized
  subst hsz
  have hD := hD0.self (sz := s.heap.size)
  generalize hAe : va_A [(mo, .inr (8, ms)), (co, .inl (cC, 2, .inl cf))] s.heap.size = A at hD ⊢
  have hA : ∀ q : Nat, s.heap.size ≤ q → A q := fun q h => by rw [← hAe]; exact Or.inr h
  have hS : va_S A s.heap s.heap [] := va_S.rf
  have hP : va_P (dC, dI) vwCl [(mo, .inr (8, ms)), (co, .inl (cC, 2, .inl cf))] s.heap := hP
  have m_0 : (.methodLink RX9 434 yX9_isCord : Cond) ∈ zw_m_both := List.mem_append_left _ (List.mem_of_getElem? (i := 1) rfl)
  have k_0 := hts _ m_0
  have m_1 : (.instanceMethod yX9_isCord : Cond) ∈ zw_m_both := List.mem_append_left _ (List.mem_of_getElem? (i := 2) rfl)
  have k_1 := hts _ m_1
  have m_2 : (.selects RX9 yX9_isCord yX9_isCord : Cond) ∈ zw_m_both := List.mem_append_left _ (List.mem_of_getElem? (i := 3) rfl)
  have k_2 := hts _ m_2
  have m_3 : (.initialized RX9 : Cond) ∈ zw_m_both := List.mem_append_left _ (List.mem_of_getElem? (i := 4) rfl)
  have k_3 := hts _ m_3
  have g_c_isCord : ∀ w ∈ zw_c_isCord, w ∈ zw_m_both := fun w h => List.mem_append_right _ (List.mem_append_left _ h)
  have hl := lv_entry ([.ref mo, .int a1, .int a2]) (n := 7) (Nat.le_of_ble_eq_true rfl)
  rw [lg_entry_eq]
  generalize (lg_sl ([.ref mo, .int a1, .int a2]) ++ List.replicate (7 - (lg_sl ([.ref mo, .int a1, .int a2])).length) Slot.unset).toArray = ls at hl ⊢
  have hl : lv_has ls 7 [(0, .ref mo), (1, .int a1), (2, .int a2)] := hl
  refine lv_aload_n hx hb dX9_both_0 rfl (lv_at hl 0 rfl) ?_
  refine lv_iload_n hx hb dX9_both_1 rfl (lv_at hl 1 rfl) ?_
  have hPc := hP.sub (ws' := [(mo, .inr (8, ms)), (co, .inl (cC, 2, .inl cf))]) [0, 1] rfl
  have hDc := hD.sub (ws' := [(mo, .inr (8, ms)), (co, .inl (cC, 2, .inl cf))]) [0, 1] (by decide) rfl
  have hKc := hK.sub (tys' := [(cC, .int)]) [0] rfl
  have hFc := va_free (wc := [(mo, .inr (8, ms)), (co, .inl (cC, 2, .inl cf))]) hD hS hA [0, 1] rfl
  refine va_calli (va_runV (As := [.int a1]) (rest := []) ⟨hx, hb, hml, hown, hts⟩ (c_isCord l dC dI s.heap.size mo ms co cC cf a1 f_ms_12 f_ms_43 h_cf_0) (cwV 1 hts (p1_gV m_0 m_1 m_2 m_3 g_c_isCord gz_c_isCord) rfl rfl rfl (by decide +kernel) ⟨by decide, by decide⟩) ⟨fun a U g mk q => by obtain ⟨q0, q1, qP, qK, qD⟩ := q; exact ⟨q0, q1, qP, va_K.moved (u := U) (U := U.calling g mk a) (Vm.Alike.refl U.vm) qK, qD⟩, va_recv hKc hPc (ci := 8) (q0 := 0) rfl rfl, fun U hU hW => ⟨rfl, by rw [hU], by rw [hU]; exact hPc, va_K.moved hW.alike hKc, hDc.weaken (fun _ _ _ _ => trivial)⟩⟩ rfl rfl hl.1 rfl (lv_room (Nat.le_of_ble_eq_true rfl)) dX9_both_2 ⟨by decide, by decide⟩) hS (fun q _ h => hFc q h) hFc (fun r_1 u t H1 locs ht hvm hw hB hz1 hk1 hS => ?_)
  obtain ⟨hP1, hK1, hD1⟩ := hB
  rw [ht] at hP1
  obtain ⟨hP, hD⟩ := va_join (wr := []) (w1 := [(mo, .inr (8, ms)), (co, .inl (cC, 2, .inl cf))]) hP hD [0, 1] [] rfl rfl (by decide) (by decide) hk1 hFc hP1 hD1
  generalize H1 = H at hP hS ⊢
  have hP : va_P (dC, dI) vwCl [(mo, .inr (8, ms)), (co, .inl (cC, 2, .inl cf))] H := hP
  have hD : va_D A [(mo, .inr (8, ms)), (co, .inl (cC, 2, .inl cf))] := hD
  try dsimp only at hw
  obtain rfl : r_1 = 0 := hw
  refine lv_if_eq (tgt := 16) hx hb dX9_both_5 (by decide) (fun _ => ?_) (fun c9 => absurd c9 (by decide))
  refine lv_iconst (v := (-1)) hx hb dX9_both_16 (by decide) ?_
  have hP9 := hP.sub (ws' := []) [] rfl
  have hD9 := hD.sub (ws' := []) [] (by decide) rfl
  have hK9 := hK.sub (tys' := []) [] rfl
  exact W.iret (v := (-1)) hx hb hr (fun t ht hW => ⟨⟨(-1), (), rfl, rfl, by rw [ht]; exact hP9, va_K.moved hW.alike hK9, hD9⟩, hS.F ht⟩) hS.2.2 dX9_both_17
def zo_m_ends : List Cond := [.code yX9_ends cX9_ends 6 (some .int), .methodLink RX9 485 yX9_isAll, .instanceMethod yX9_isAll, .selects RX9 yX9_isAll yX9_isAll, .initialized RX9]
def zw_m_ends : List Cond := zo_m_ends ++ (zw_c_isAll ++ [])
theorem gz_m_ends : zw_m_ends.all goodWord = true := p1_ga (by decide +kernel) (p1_ga gz_c_isAll p1_g0)
theorem iz_m_ends : ∀ w ∈ zw_m_ends, w ∈ lw_tbl := p1_ia (p1_all [1627, 1518, 1520, 84, 116] (by decide +kernel)) (p1_ia iz_c_isAll p1_i0)
set_option maxHeartbeats 4000000 in
set_option maxRecDepth 100000 in
theorem m_ends (l : Launch) (dC : Nat → ClassId) (dI : Nat → Nat → Nat) (sz : Nat) (mo : Nat) (ms : List Value) (kn : Nat) (cK : ClassId) (kf : Nat → Int32) (a1 : Int32) (a2 : Int32) (a3 : Int32) (a4 : Int32) (f_ms_11 : ms[11]? = some (.ref kn)) (f_ms_43 : ms[43]? = some (.int 0)) (h_kf_0 : kf 0 = 0) : Met l yX9_ends zw_m_ends ({ frames := 3, cells := 0, slots := 0, locals := 66 }) (va_Pc [.ref mo, .int a1, .int a2, .int a3, .int a4] (fun U => U.heap.size = sz ∧ va_P (dC, dI) vwCl [(mo, .inr (8, ms)), (kn, .inl (cK, 2, .inl kf))] U.heap ∧ va_K (dC, dI) vwCl [(cK, .int)] U ∧ va_D (fun _ => True) [(mo, .inr (8, ms)), (kn, .inl (cK, 2, .inl kf))])) (va_Qi (fun (r : Int32) (_ : Unit) => r = (-1)) (fun _ t => va_P (dC, dI) vwCl [] t.heap ∧ va_K (dC, dI) vwCl [] t ∧ va_D (va_A [(mo, .inr (8, ms)), (kn, .inl (cK, 2, .inl kf))] sz) []) (va_A [(mo, .inr (8, ms)), (kn, .inl (cK, 2, .inl kf))] sz)) 0 0 (va_A [(mo, .inr (8, ms)), (kn, .inl (cK, 2, .inl kf))] sz) := by
  refine Met.ofW (cc := cX9_ends) (maxL := 6) (ret := (some .int)) (by decide) rfl ?_
  intro p e s m args below meth c s₁ B hml hv
  obtain ⟨rfl, hsz, hP, hK, hD0⟩ := hv
  have hx := B.exec
  have hb := B.bytes
  have hr := B.returns
  have hts := atoms_spec (ws := zw_m_ends) B.pre
  have hown : s.vm.findClass RX9 = some m.cls := findClass_of_methodNamed B.named
  have hlocks := B.notSynchronized
  subst hsz
  have hD := hD0.self (sz := s.heap.size)
  generalize hAe : va_A [(mo, .inr (8, ms)), (kn, .inl (cK, 2, .inl kf))] s.heap.size = A at hD ⊢
  have hA : ∀ q : Nat, s.heap.size ≤ q → A q := fun q h => by rw [← hAe]; exact Or.inr h
  have hS : va_S A s.heap s.heap [] := va_S.rf
  have hP : va_P (dC, dI) vwCl [(mo, .inr (8, ms)), (kn, .inl (cK, 2, .inl kf))] s.heap := hP
  have m_0 : (.methodLink RX9 485 yX9_isAll : Cond) ∈ zw_m_ends := List.mem_append_left _ (List.mem_of_getElem? (i := 1) rfl)
  have k_0 := hts _ m_0
  have m_1 : (.instanceMethod yX9_isAll : Cond) ∈ zw_m_ends := List.mem_append_left _ (List.mem_of_getElem? (i := 2) rfl)
  have k_1 := hts _ m_1
  have m_2 : (.selects RX9 yX9_isAll yX9_isAll : Cond) ∈ zw_m_ends := List.mem_append_left _ (List.mem_of_getElem? (i := 3) rfl)
  have k_2 := hts _ m_2
  have m_3 : (.initialized RX9 : Cond) ∈ zw_m_ends := List.mem_append_left _ (List.mem_of_getElem? (i := 4) rfl)
  have k_3 := hts _ m_3
  have g_c_isAll : ∀ w ∈ zw_c_isAll, w ∈ zw_m_ends := fun w h => List.mem_append_right _ (List.mem_append_left _ h)
  have hl := lv_entry ([.ref mo, .int a1, .int a2, .int a3, .int a4]) (n := 6) (Nat.le_of_ble_eq_true rfl)
  rw [lg_entry_eq]
  generalize (lg_sl ([.ref mo, .int a1, .int a2, .int a3, .int a4]) ++ List.replicate (6 - (lg_sl ([.ref mo, .int a1, .int a2, .int a3, .int a4])).length) Slot.unset).toArray = ls at hl ⊢
  have hl : lv_has ls 6 [(0, .ref mo), (1, .int a1), (2, .int a2), (3, .int a3), (4, .int a4)] := hl
  refine lv_aload_n hx hb dX9_ends_0 rfl (lv_at hl 0 rfl) ?_
  refine lv_iload_n hx hb dX9_ends_1 rfl (lv_at hl 1 rfl) ?_
  refine lv_iload_n hx hb dX9_ends_2 rfl (lv_at hl 2 rfl) ?_
  refine lv_iload_n hx hb dX9_ends_3 rfl (lv_at hl 3 rfl) ?_
  have hPc := hP.sub (ws' := [(mo, .inr (8, ms)), (kn, .inl (cK, 2, .inl kf))]) [0, 1] rfl
  have hDc := hD.sub (ws' := [(mo, .inr (8, ms)), (kn, .inl (cK, 2, .inl kf))]) [0, 1] (by decide) rfl
  have hKc := hK.sub (tys' := [(cK, .int)]) [0] rfl
  have hFc := va_free (wc := [(mo, .inr (8, ms)), (kn, .inl (cK, 2, .inl kf))]) hD hS hA [0, 1] rfl
  refine va_calli (va_runV (As := [.int a1, .int a2, .int a3]) (rest := []) ⟨hx, hb, hml, hown, hts⟩ (c_isAll l dC dI s.heap.size mo ms kn cK kf a1 a2 a3 f_ms_11 f_ms_43 h_kf_0) (cwV 3 hts (p1_gV m_0 m_1 m_2 m_3 g_c_isAll gz_c_isAll) rfl rfl rfl (by decide +kernel) ⟨by decide, by decide⟩) ⟨fun a U g mk q => by obtain ⟨q0, q1, qP, qK, qD⟩ := q; exact ⟨q0, q1, qP, va_K.moved (u := U) (U := U.calling g mk a) (Vm.Alike.refl U.vm) qK, qD⟩, va_recv hKc hPc (ci := 8) (q0 := 0) rfl rfl, fun U hU hW => ⟨rfl, by rw [hU], by rw [hU]; exact hPc, va_K.moved hW.alike hKc, hDc.weaken (fun _ _ _ _ => trivial)⟩⟩ rfl rfl hl.1 rfl (lv_room (Nat.le_of_ble_eq_true rfl)) dX9_ends_4 ⟨by decide, by decide⟩) hS (fun q _ h => hFc q h) hFc (fun r_1 u t H1 locs ht hvm hw hB hz1 hk1 hS => ?_)
  obtain ⟨hP1, hK1, hD1⟩ := hB
  rw [ht] at hP1
  obtain ⟨hP, hD⟩ := va_join (wr := []) (w1 := [(mo, .inr (8, ms)), (kn, .inl (cK, 2, .inl kf))]) hP hD [0, 1] [] rfl rfl (by decide) (by decide) hk1 hFc hP1 hD1
  generalize H1 = H at hP hS ⊢
  have hP : va_P (dC, dI) vwCl [(mo, .inr (8, ms)), (kn, .inl (cK, 2, .inl kf))] H := hP
  have hD : va_D A [(mo, .inr (8, ms)), (kn, .inl (cK, 2, .inl kf))] := hD
  try dsimp only at hw
  obtain rfl : r_1 = 0 := hw
  refine lv_if_eq (tgt := 22) hx hb dX9_ends_7 (by decide) (fun _ => ?_) (fun c9 => absurd c9 (by decide))
  refine lv_iconst (v := (-1)) hx hb dX9_ends_22 (by decide) ?_
  have hP9 := hP.sub (ws' := []) [] rfl
  have hD9 := hD.sub (ws' := []) [] (by decide) rfl
  have hK9 := hK.sub (tys' := []) [] rfl
  exact W.iret (v := (-1)) hx hb hr (fun t ht hW => ⟨⟨(-1), (), rfl, rfl, by rw [ht]; exact hP9, va_K.moved hW.alike hK9, hD9⟩, hS.F ht⟩) hS.2.2 dX9_ends_23
def zo_m_change : List Cond := [.code yX9_change cX9_change 8 (some .int), .methodLink RX9 485 yX9_isAll, .instanceMethod yX9_isAll, .selects RX9 yX9_isAll yX9_isAll, .initialized RX9]
def zw_m_change : List Cond := zo_m_change ++ (zw_c_isAll ++ [])
theorem gz_m_change : zw_m_change.all goodWord = true := p1_ga (by decide +kernel) (p1_ga gz_c_isAll p1_g0)
theorem iz_m_change : ∀ w ∈ zw_m_change, w ∈ lw_tbl := p1_ia (p1_all [1631, 1518, 1520, 84, 116] (by decide +kernel)) (p1_ia iz_c_isAll p1_i0)
set_option maxHeartbeats 4000000 in
set_option maxRecDepth 100000 in
theorem m_change (l : Launch) (dC : Nat → ClassId) (dI : Nat → Nat → Nat) (sz : Nat) (mo : Nat) (ms : List Value) (kn : Nat) (cK : ClassId) (kf : Nat → Int32) (a1 : Int32) (a2 : Int32) (a3 : Int32) (a4 : Int32) (a5 : Int32) (f_ms_11 : ms[11]? = some (.ref kn)) (f_ms_43 : ms[43]? = some (.int 0)) (h_kf_0 : kf 0 = 0) : Met l yX9_change zw_m_change ({ frames := 3, cells := 0, slots := 0, locals := 66 }) (va_Pc [.ref mo, .int a1, .int a2, .int a3, .int a4, .int a5] (fun U => U.heap.size = sz ∧ va_P (dC, dI) vwCl [(mo, .inr (8, ms)), (kn, .inl (cK, 2, .inl kf))] U.heap ∧ va_K (dC, dI) vwCl [(cK, .int)] U ∧ va_D (fun _ => True) [(mo, .inr (8, ms)), (kn, .inl (cK, 2, .inl kf))])) (va_Qi (fun (r : Int32) (_ : Unit) => r = (-1)) (fun _ t => va_P (dC, dI) vwCl [] t.heap ∧ va_K (dC, dI) vwCl [] t ∧ va_D (va_A [(mo, .inr (8, ms)), (kn, .inl (cK, 2, .inl kf))] sz) []) (va_A [(mo, .inr (8, ms)), (kn, .inl (cK, 2, .inl kf))] sz)) 0 0 (va_A [(mo, .inr (8, ms)), (kn, .inl (cK, 2, .inl kf))] sz) := by
  refine Met.ofW (cc := cX9_change) (maxL := 8) (ret := (some .int)) (by decide) rfl ?_
  intro p e s m args below meth c s₁ B hml hv
  obtain ⟨rfl, hsz, hP, hK, hD0⟩ := hv
  have hx := B.exec
  have hb := B.bytes
  have hr := B.returns
  have hts := atoms_spec (ws := zw_m_change) B.pre
  have hown : s.vm.findClass RX9 = some m.cls := findClass_of_methodNamed B.named
  have hlocks := B.notSynchronized
  subst hsz
  have hD := hD0.self (sz := s.heap.size)
  generalize hAe : va_A [(mo, .inr (8, ms)), (kn, .inl (cK, 2, .inl kf))] s.heap.size = A at hD ⊢
  have hA : ∀ q : Nat, s.heap.size ≤ q → A q := fun q h => by rw [← hAe]; exact Or.inr h
  have hS : va_S A s.heap s.heap [] := va_S.rf
  have hP : va_P (dC, dI) vwCl [(mo, .inr (8, ms)), (kn, .inl (cK, 2, .inl kf))] s.heap := hP
  have m_0 : (.methodLink RX9 485 yX9_isAll : Cond) ∈ zw_m_change := List.mem_append_left _ (List.mem_of_getElem? (i := 1) rfl)
  have k_0 := hts _ m_0
  have m_1 : (.instanceMethod yX9_isAll : Cond) ∈ zw_m_change := List.mem_append_left _ (List.mem_of_getElem? (i := 2) rfl)
  have k_1 := hts _ m_1
  have m_2 : (.selects RX9 yX9_isAll yX9_isAll : Cond) ∈ zw_m_change := List.mem_append_left _ (List.mem_of_getElem? (i := 3) rfl)
  have k_2 := hts _ m_2
  have m_3 : (.initialized RX9 : Cond) ∈ zw_m_change := List.mem_append_left _ (List.mem_of_getElem? (i := 4) rfl)
  have k_3 := hts _ m_3
  have g_c_isAll : ∀ w ∈ zw_c_isAll, w ∈ zw_m_change := fun w h => List.mem_append_right _ (List.mem_append_left _ h)
  have hl := lv_entry ([.ref mo, .int a1, .int a2, .int a3, .int a4, .int a5]) (n := 8) (Nat.le_of_ble_eq_true rfl)
  rw [lg_entry_eq]
  generalize (lg_sl ([.ref mo, .int a1, .int a2, .int a3, .int a4, .int a5]) ++ List.replicate (8 - (lg_sl ([.ref mo, .int a1, .int a2, .int a3, .int a4, .int a5])).length) Slot.unset).toArray = ls at hl ⊢
  have hl : lv_has ls 8 [(0, .ref mo), (1, .int a1), (2, .int a2), (3, .int a3), (4, .int a4), (5, .int a5)] := hl
  refine lv_aload_n hx hb dX9_change_0 rfl (lv_at hl 0 rfl) ?_
  refine lv_iload_n hx hb dX9_change_1 rfl (lv_at hl 1 rfl) ?_
  refine lv_iload_n hx hb dX9_change_2 rfl (lv_at hl 2 rfl) ?_
  refine lv_iload_n hx hb dX9_change_3 rfl (lv_at hl 3 rfl) ?_
  have hPc := hP.sub (ws' := [(mo, .inr (8, ms)), (kn, .inl (cK, 2, .inl kf))]) [0, 1] rfl
  have hDc := hD.sub (ws' := [(mo, .inr (8, ms)), (kn, .inl (cK, 2, .inl kf))]) [0, 1] (by decide) rfl
  have hKc := hK.sub (tys' := [(cK, .int)]) [0] rfl
  have hFc := va_free (wc := [(mo, .inr (8, ms)), (kn, .inl (cK, 2, .inl kf))]) hD hS hA [0, 1] rfl
  refine va_calli (va_runV (As := [.int a1, .int a2, .int a3]) (rest := []) ⟨hx, hb, hml, hown, hts⟩ (c_isAll l dC dI s.heap.size mo ms kn cK kf a1 a2 a3 f_ms_11 f_ms_43 h_kf_0) (cwV 3 hts (p1_gV m_0 m_1 m_2 m_3 g_c_isAll gz_c_isAll) rfl rfl rfl (by decide +kernel) ⟨by decide, by decide⟩) ⟨fun a U g mk q => by obtain ⟨q0, q1, qP, qK, qD⟩ := q; exact ⟨q0, q1, qP, va_K.moved (u := U) (U := U.calling g mk a) (Vm.Alike.refl U.vm) qK, qD⟩, va_recv hKc hPc (ci := 8) (q0 := 0) rfl rfl, fun U hU hW => ⟨rfl, by rw [hU], by rw [hU]; exact hPc, va_K.moved hW.alike hKc, hDc.weaken (fun _ _ _ _ => trivial)⟩⟩ rfl rfl hl.1 rfl (lv_room (Nat.le_of_ble_eq_true rfl)) dX9_change_4 ⟨by decide, by decide⟩) hS (fun q _ h => hFc q h) hFc (fun r_1 u t H1 locs ht hvm hw hB hz1 hk1 hS => ?_)
  obtain ⟨hP1, hK1, hD1⟩ := hB
  rw [ht] at hP1
  obtain ⟨hP, hD⟩ := va_join (wr := []) (w1 := [(mo, .inr (8, ms)), (kn, .inl (cK, 2, .inl kf))]) hP hD [0, 1] [] rfl rfl (by decide) (by decide) hk1 hFc hP1 hD1
  generalize H1 = H at hP hS ⊢
  have hP : va_P (dC, dI) vwCl [(mo, .inr (8, ms)), (kn, .inl (cK, 2, .inl kf))] H := hP
  have hD : va_D A [(mo, .inr (8, ms)), (kn, .inl (cK, 2, .inl kf))] := hD
  try dsimp only at hw
  obtain rfl : r_1 = 0 := hw
  refine lv_if_eq (tgt := 32) hx hb dX9_change_7 (by decide) (fun _ => ?_) (fun c9 => absurd c9 (by decide))
  refine lv_iconst (v := (-1)) hx hb dX9_change_32 (by decide) ?_
  have hP9 := hP.sub (ws' := []) [] rfl
  have hD9 := hD.sub (ws' := []) [] (by decide) rfl
  have hK9 := hK.sub (tys' := []) [] rfl
  exact W.iret (v := (-1)) hx hb hr (fun t ht hW => ⟨⟨(-1), (), rfl, rfl, by rw [ht]; exact hP9, va_K.moved hW.alike hK9, hD9⟩, hS.F ht⟩) hS.2.2 dX9_change_33
def zo_m_film : List Cond := [.code yX9_film cX9_film 6 (some .int), .methodLink RX9 431 yX9_isKnot, .instanceMethod yX9_isKnot, .selects RX9 yX9_isKnot yX9_isKnot, .initialized RX9]
def zw_m_film : List Cond := zo_m_film ++ (zw_c_isKnot ++ [])
theorem gz_m_film : zw_m_film.all goodWord = true := p1_ga (by decide +kernel) (p1_ga gz_c_isKnot p1_g0)
theorem iz_m_film : ∀ w ∈ zw_m_film, w ∈ lw_tbl := p1_ia (p1_all [1635, 1435, 1437, 71, 116] (by decide +kernel)) (p1_ia iz_c_isKnot p1_i0)
set_option maxHeartbeats 4000000 in
set_option maxRecDepth 100000 in
theorem m_film (l : Launch) (dC : Nat → ClassId) (dI : Nat → Nat → Nat) (sz : Nat) (mo : Nat) (ms : List Value) (kn : Nat) (cK : ClassId) (kf : Nat → Int32) (a1 : Int32) (a2 : Int32) (a3 : Int32) (a4 : Int32) (a5 : Int32) (f_ms_11 : ms[11]? = some (.ref kn)) (f_ms_43 : ms[43]? = some (.int 0)) (h_kf_0 : kf 0 = 0) : Met l yX9_film zw_m_film ({ frames := 2, cells := 0, slots := 0, locals := 43 }) (va_Pc [.ref mo, .int a1, .int a2, .int a3, .int a4, .int a5] (fun U => U.heap.size = sz ∧ va_P (dC, dI) vwCl [(mo, .inr (8, ms)), (kn, .inl (cK, 2, .inl kf))] U.heap ∧ va_K (dC, dI) vwCl [(cK, .int)] U ∧ va_D (fun _ => True) [(mo, .inr (8, ms)), (kn, .inl (cK, 2, .inl kf))])) (va_Qi (fun (r : Int32) (_ : Unit) => r = (-1)) (fun _ t => va_P (dC, dI) vwCl [] t.heap ∧ va_K (dC, dI) vwCl [] t ∧ va_D (va_A [(mo, .inr (8, ms)), (kn, .inl (cK, 2, .inl kf))] sz) []) (va_A [(mo, .inr (8, ms)), (kn, .inl (cK, 2, .inl kf))] sz)) 0 0 (va_A [(mo, .inr (8, ms)), (kn, .inl (cK, 2, .inl kf))] sz) := by
  refine Met.ofW (cc := cX9_film) (maxL := 6) (ret := (some .int)) (by decide) rfl ?_
  intro p e s m args below meth c s₁ B hml hv
  obtain ⟨rfl, hsz, hP, hK, hD0⟩ := hv
  have hx := B.exec
  have hb := B.bytes
  have hr := B.returns
  have hts := atoms_spec (ws := zw_m_film) B.pre
  have hown : s.vm.findClass RX9 = some m.cls := findClass_of_methodNamed B.named
  have hlocks := B.notSynchronized
  subst hsz
  have hD := hD0.self (sz := s.heap.size)
  generalize hAe : va_A [(mo, .inr (8, ms)), (kn, .inl (cK, 2, .inl kf))] s.heap.size = A at hD ⊢
  have hA : ∀ q : Nat, s.heap.size ≤ q → A q := fun q h => by rw [← hAe]; exact Or.inr h
  have hS : va_S A s.heap s.heap [] := va_S.rf
  have hP : va_P (dC, dI) vwCl [(mo, .inr (8, ms)), (kn, .inl (cK, 2, .inl kf))] s.heap := hP
  have m_0 : (.methodLink RX9 431 yX9_isKnot : Cond) ∈ zw_m_film := List.mem_append_left _ (List.mem_of_getElem? (i := 1) rfl)
  have k_0 := hts _ m_0
  have m_1 : (.instanceMethod yX9_isKnot : Cond) ∈ zw_m_film := List.mem_append_left _ (List.mem_of_getElem? (i := 2) rfl)
  have k_1 := hts _ m_1
  have m_2 : (.selects RX9 yX9_isKnot yX9_isKnot : Cond) ∈ zw_m_film := List.mem_append_left _ (List.mem_of_getElem? (i := 3) rfl)
  have k_2 := hts _ m_2
  have m_3 : (.initialized RX9 : Cond) ∈ zw_m_film := List.mem_append_left _ (List.mem_of_getElem? (i := 4) rfl)
  have k_3 := hts _ m_3
  have g_c_isKnot : ∀ w ∈ zw_c_isKnot, w ∈ zw_m_film := fun w h => List.mem_append_right _ (List.mem_append_left _ h)
  have hl := lv_entry ([.ref mo, .int a1, .int a2, .int a3, .int a4, .int a5]) (n := 6) (Nat.le_of_ble_eq_true rfl)
  rw [lg_entry_eq]
  generalize (lg_sl ([.ref mo, .int a1, .int a2, .int a3, .int a4, .int a5]) ++ List.replicate (6 - (lg_sl ([.ref mo, .int a1, .int a2, .int a3, .int a4, .int a5])).length) Slot.unset).toArray = ls at hl ⊢
  have hl : lv_has ls 6 [(0, .ref mo), (1, .int a1), (2, .int a2), (3, .int a3), (4, .int a4), (5, .int a5)] := hl
  refine lv_aload_n hx hb dX9_film_0 rfl (lv_at hl 0 rfl) ?_
  refine lv_iload_n hx hb dX9_film_1 rfl (lv_at hl 1 rfl) ?_
  have hPc := hP.sub (ws' := [(mo, .inr (8, ms)), (kn, .inl (cK, 2, .inl kf))]) [0, 1] rfl
  have hDc := hD.sub (ws' := [(mo, .inr (8, ms)), (kn, .inl (cK, 2, .inl kf))]) [0, 1] (by decide) rfl
  have hKc := hK.sub (tys' := [(cK, .int)]) [0] rfl
  have hFc := va_free (wc := [(mo, .inr (8, ms)), (kn, .inl (cK, 2, .inl kf))]) hD hS hA [0, 1] rfl
  refine va_calli (va_runV (As := [.int a1]) (rest := []) ⟨hx, hb, hml, hown, hts⟩ (c_isKnot l dC dI s.heap.size mo ms kn cK kf a1 f_ms_11 f_ms_43 h_kf_0) (cwV 1 hts (p1_gV m_0 m_1 m_2 m_3 g_c_isKnot gz_c_isKnot) rfl rfl rfl (by decide +kernel) ⟨by decide, by decide⟩) ⟨fun a U g mk q => by obtain ⟨q0, q1, qP, qK, qD⟩ := q; exact ⟨q0, q1, qP, va_K.moved (u := U) (U := U.calling g mk a) (Vm.Alike.refl U.vm) qK, qD⟩, va_recv hKc hPc (ci := 8) (q0 := 0) rfl rfl, fun U hU hW => ⟨rfl, by rw [hU], by rw [hU]; exact hPc, va_K.moved hW.alike hKc, hDc.weaken (fun _ _ _ _ => trivial)⟩⟩ rfl rfl hl.1 rfl (lv_room (Nat.le_of_ble_eq_true rfl)) dX9_film_2 ⟨by decide, by decide⟩) hS (fun q _ h => hFc q h) hFc (fun r_1 u t H1 locs ht hvm hw hB hz1 hk1 hS => ?_)
  obtain ⟨hP1, hK1, hD1⟩ := hB
  rw [ht] at hP1
  obtain ⟨hP, hD⟩ := va_join (wr := []) (w1 := [(mo, .inr (8, ms)), (kn, .inl (cK, 2, .inl kf))]) hP hD [0, 1] [] rfl rfl (by decide) (by decide) hk1 hFc hP1 hD1
  generalize H1 = H at hP hS ⊢
  have hP : va_P (dC, dI) vwCl [(mo, .inr (8, ms)), (kn, .inl (cK, 2, .inl kf))] H := hP
  have hD : va_D A [(mo, .inr (8, ms)), (kn, .inl (cK, 2, .inl kf))] := hD
  try dsimp only at hw
  obtain rfl : r_1 = 0 := hw
  refine lv_if_eq (tgt := 60) hx hb dX9_film_5 (by decide) (fun _ => ?_) (fun c9 => absurd c9 (by decide))
  refine lv_iconst (v := (-1)) hx hb dX9_film_60 (by decide) ?_
  have hP9 := hP.sub (ws' := []) [] rfl
  have hD9 := hD.sub (ws' := []) [] (by decide) rfl
  have hK9 := hK.sub (tys' := []) [] rfl
  exact W.iret (v := (-1)) hx hb hr (fun t ht hW => ⟨⟨(-1), (), rfl, rfl, by rw [ht]; exact hP9, va_K.moved hW.alike hK9, hD9⟩, hS.F ht⟩) hS.2.2 dX9_film_61
def zo_m_untell : List Cond := [.code yX9_untell cX9_untell 2 (some .boolean), .fieldLink RX9 301 "BowWalkModel" "films" "I", .methodLink RX9 389 yX9_isIn, .static yX9_isIn, .initialized RX9]
def zw_m_untell : List Cond := zo_m_untell ++ (zw_c_isInNeg ++ (wsX90 ++ []))
theorem gz_m_untell : zw_m_untell.all goodWord = true := p1_ga (by decide +kernel) (p1_ga gz_c_isInNeg (p1_ga gk_X9 p1_g0))
theorem iz_m_untell : ∀ w ∈ zw_m_untell, w ∈ lw_tbl := p1_ia (p1_all [1639, 1112, 1439, 1440, 116] (by decide +kernel)) (p1_ia iz_c_isInNeg (p1_ia ik_X9 p1_i0))
set_option maxHeartbeats 4000000 in
set_option maxRecDepth 100000 in
theorem m_untell (l : Launch) (dC : Nat → ClassId) (dI : Nat → Nat → Nat) (sz : Nat) (mo : Nat) (ms : List Value) (a1 : Int32) (f_ms_75 : ms[75]? = some (.int 0)) : Met l yX9_untell zw_m_untell ({ frames := 1, cells := 0, slots := 0, locals := 22 }) (va_Pc [.ref mo, .int a1] (fun U => U.heap.size = sz ∧ va_P (dC, dI) vwCl [(mo, .inr (8, ms))] U.heap ∧ va_K (dC, dI) vwCl [] U ∧ va_D (fun _ => True) [(mo, .inr (8, ms))])) (va_Qi (fun (r : Int32) (_ : Unit) => r = 0) (fun _ t => va_P (dC, dI) vwCl [] t.heap ∧ va_K (dC, dI) vwCl [] t ∧ va_D (va_A [(mo, .inr (8, ms))] sz) []) (va_A [(mo, .inr (8, ms))] sz)) 0 0 (va_A [(mo, .inr (8, ms))] sz) := by
  refine Met.ofW (cc := cX9_untell) (maxL := 2) (ret := (some .boolean)) (by decide) rfl ?_
  intro p e s m args below meth c s₁ B hml hv
  obtain ⟨rfl, hsz, hP, hK, hD0⟩ := hv
  have hx := B.exec
  have hb := B.bytes
  have hr := B.returns
  have hts := atoms_spec (ws := zw_m_untell) B.pre
  have hown : s.vm.findClass RX9 = some m.cls := findClass_of_methodNamed B.named
  have hlocks := B.notSynchronized
  subst hsz
  have hD := hD0.self (sz := s.heap.size)
  generalize hAe : va_A [(mo, .inr (8, ms))] s.heap.size = A at hD ⊢
  have hA : ∀ q : Nat, s.heap.size ≤ q → A q := fun q h => by rw [← hAe]; exact Or.inr h
  have hS : va_S A s.heap s.heap [] := va_S.rf
  have hP : va_P (dC, dI) vwCl [(mo, .inr (8, ms))] s.heap := hP
  have m_0 : (.fieldLink RX9 301 "BowWalkModel" "films" "I" : Cond) ∈ zw_m_untell := List.mem_append_left _ (List.mem_of_getElem? (i := 1) rfl)
  have k_0 := hts _ m_0
  have m_1 : (.methodLink RX9 389 yX9_isIn : Cond) ∈ zw_m_untell := List.mem_append_left _ (List.mem_of_getElem? (i := 2) rfl)
  have k_1 := hts _ m_1
  have m_2 : (.static yX9_isIn : Cond) ∈ zw_m_untell := List.mem_append_left _ (List.mem_of_getElem? (i := 3) rfl)
  have k_2 := hts _ m_2
  have m_3 : (.initialized RX9 : Cond) ∈ zw_m_untell := List.mem_append_left _ (List.mem_of_getElem? (i := 4) rfl)
  have k_3 := hts _ m_3
  have g_c_isInNeg : ∀ w ∈ zw_c_isInNeg, w ∈ zw_m_untell := fun w h => List.mem_append_right _ (List.mem_append_left _ h)
  have i_X9 : ∀ w ∈ u_ws RX9 TX9 81, w ∈ zw_m_untell := fun w h => List.mem_append_right _ (List.mem_append_right _ (List.mem_append_left _ h))
  have hl := lv_entry ([.ref mo, .int a1]) (n := 2) (Nat.le_of_ble_eq_true rfl)
  rw [lg_entry_eq]
  generalize (lg_sl ([.ref mo, .int a1]) ++ List.replicate (2 - (lg_sl ([.ref mo, .int a1])).length) Slot.unset).toArray = ls at hl ⊢
  have hl : lv_has ls 2 [(0, .ref mo), (1, .int a1)] := hl
  refine lv_iload_n hx hb dX9_untell_0 rfl (lv_at hl 1 rfl) ?_
  refine lv_iconst (v := 0) hx hb dX9_untell_1 (by decide) ?_
  refine lv_aload_n hx hb dX9_untell_2 rfl (lv_at hl 0 rfl) ?_
  refine va_get (D := (dC, dI)) (ci := 8) (v := .int 0) (C := RX9) (T := TX9) (N := 81) hx hb hts i_X9 hown hK hP 0 rfl rfl 75 (by decide) k_0 (fun _ h9 => h9) f_ms_75 dX9_untell_3 ?_
  refine lv_iconst (v := 1) hx hb dX9_untell_6 (by decide) ?_
  refine lv_isub hx hb dX9_untell_7 ?_
  refine lv_topi (fun v_1 ev_1 => ?_)
  obtain rfl : v_1 = (-1) := ev_1.trans (by decide)
  have hPc := hP.sub (ws' := []) [] rfl
  have hDc := hD.sub (ws' := []) [] (by decide) rfl
  have hKc := hK.sub (tys' := []) [] rfl
  have hFc := va_free (wc := []) hD hS hA [] rfl
  refine va_calli (va_runS (As := [.int a1, .int 0, .int (-1)]) (rest := []) ⟨hx, hb, hml, hown, hts⟩ (c_isInNeg l dC dI s.heap.size a1) (va_cwS 3 hts (p1_gS m_1 m_2 m_3 g_c_isInNeg gz_c_isInNeg) rfl rfl rfl (by decide +kernel) ⟨by decide, by decide⟩) ⟨fun a U g mk q => by obtain ⟨q0, q1, qP, qK, qD⟩ := q; exact ⟨q0, q1, qP, va_K.moved (u := U) (U := U.calling g mk a) (Vm.Alike.refl U.vm) qK, qD⟩, fun U hU hW => ⟨rfl, by rw [hU], by rw [hU]; exact hPc, va_K.moved hW.alike hKc, hDc.weaken (fun _ _ _ _ => trivial)⟩⟩ rfl rfl hl.1 rfl (lv_room (Nat.le_of_ble_eq_true rfl)) dX9_untell_8 ⟨by decide, by decide⟩) hS (fun q _ h => hFc q h) hFc (fun r_2 u t H1 locs ht hvm hw hB hz1 hk1 hS => ?_)
  obtain ⟨hP1, hK1, hD1⟩ := hB
  rw [ht] at hP1
  obtain ⟨hP, hD⟩ := va_join (wr := [(mo, .inr (8, ms))]) (w1 := []) hP hD [] [0] rfl rfl (by decide) (by decide) hk1 hFc hP1 hD1
  generalize H1 = H at hP hS ⊢
  have hP : va_P (dC, dI) vwCl [(mo, .inr (8, ms))] H := hP
  have hD : va_D A [(mo, .inr (8, ms))] := hD
  try dsimp only at hw
  obtain rfl : r_2 = 0 := hw
  refine lv_if_eq (tgt := 23) hx hb dX9_untell_11 (by decide) (fun _ => ?_) (fun c9 => absurd c9 (by decide))
  refine lv_iconst (v := 0) hx hb dX9_untell_23 (by decide) ?_
  have hP9 := hP.sub (ws' := []) [] rfl
  have hD9 := hD.sub (ws' := []) [] (by decide) rfl
  have hK9 := hK.sub (tys' := []) [] rfl
  exact W.zret (v := 0) hx hb hr (by decide) (fun t ht hW => ⟨⟨0, (), rfl, rfl, by rw [ht]; exact hP9, va_K.moved hW.alike hK9, hD9⟩, hS.F ht⟩) hS.2.2 dX9_untell_24
def zo_m_began : List Cond := [.code yX9_began cX9_began 5 (some .int), .fieldLink RX9 301 "BowWalkModel" "films" "I", .methodLink RX9 389 yX9_isIn, .static yX9_isIn, .initialized RX9]
def zw_m_began : List Cond := zo_m_began ++ (zw_c_isInNeg ++ (wsX90 ++ []))
theorem gz_m_began : zw_m_began.all goodWord = true := p1_ga (by decide +kernel) (p1_ga gz_c_isInNeg (p1_ga gk_X9 p1_g0))
theorem iz_m_began : ∀ w ∈ zw_m_began, w ∈ lw_tbl := p1_ia (p1_all [1672, 1112, 1439, 1440, 116] (by decide +kernel)) (p1_ia iz_c_isInNeg (p1_ia ik_X9 p1_i0))
set_option maxHeartbeats 4000000 in
set_option maxRecDepth 100000 in
theorem m_began (l : Launch) (dC : Nat → ClassId) (dI : Nat → Nat → Nat) (sz : Nat) (mo : Nat) (ms : List Value) (a1 : Int32) (a2 : Int32) (f_ms_75 : ms[75]? = some (.int 0)) : Met l yX9_began zw_m_began ({ frames := 1, cells := 0, slots := 0, locals := 22 }) (va_Pc [.ref mo, .int a1, .int a2] (fun U => U.heap.size = sz ∧ va_P (dC, dI) vwCl [(mo, .inr (8, ms))] U.heap ∧ va_K (dC, dI) vwCl [] U ∧ va_D (fun _ => True) [(mo, .inr (8, ms))])) (va_Qi (fun (r : Int32) (_ : Unit) => r = (-1)) (fun _ t => va_P (dC, dI) vwCl [] t.heap ∧ va_K (dC, dI) vwCl [] t ∧ va_D (va_A [(mo, .inr (8, ms))] sz) []) (va_A [(mo, .inr (8, ms))] sz)) 0 0 (va_A [(mo, .inr (8, ms))] sz) := by
  refine Met.ofW (cc := cX9_began) (maxL := 5) (ret := (some .int)) (by decide) rfl ?_
  intro p e s m args below meth c s₁ B hml hv
  obtain ⟨rfl, hsz, hP, hK, hD0⟩ := hv
  have hx := B.exec
  have hb := B.bytes
  have hr := B.returns
  have hts := atoms_spec (ws := zw_m_began) B.pre
  have hown : s.vm.findClass RX9 = some m.cls := findClass_of_methodNamed B.named
  have hlocks := B.notSynchronized
  subst hsz
  have hD := hD0.self (sz := s.heap.size)
  generalize hAe : va_A [(mo, .inr (8, ms))] s.heap.size = A at hD ⊢
  have hA : ∀ q : Nat, s.heap.size ≤ q → A q := fun q h => by rw [← hAe]; exact Or.inr h
  have hS : va_S A s.heap s.heap [] := va_S.rf
  have hP : va_P (dC, dI) vwCl [(mo, .inr (8, ms))] s.heap := hP
  have m_0 : (.fieldLink RX9 301 "BowWalkModel" "films" "I" : Cond) ∈ zw_m_began := List.mem_append_left _ (List.mem_of_getElem? (i := 1) rfl)
  have k_0 := hts _ m_0
  have m_1 : (.methodLink RX9 389 yX9_isIn : Cond) ∈ zw_m_began := List.mem_append_left _ (List.mem_of_getElem? (i := 2) rfl)
  have k_1 := hts _ m_1
  have m_2 : (.static yX9_isIn : Cond) ∈ zw_m_began := List.mem_append_left _ (List.mem_of_getElem? (i := 3) rfl)
  have k_2 := hts _ m_2
  have m_3 : (.initialized RX9 : Cond) ∈ zw_m_began := List.mem_append_left _ (List.mem_of_getElem? (i := 4) rfl)
  have k_3 := hts _ m_3
  have g_c_isInNeg : ∀ w ∈ zw_c_isInNeg, w ∈ zw_m_began := fun w h => List.mem_append_right _ (List.mem_append_left _ h)
  have i_X9 : ∀ w ∈ u_ws RX9 TX9 81, w ∈ zw_m_began := fun w h => List.mem_append_right _ (List.mem_append_right _ (List.mem_append_left _ h))
  have hl := lv_entry ([.ref mo, .int a1, .int a2]) (n := 5) (Nat.le_of_ble_eq_true rfl)
  rw [lg_entry_eq]
  generalize (lg_sl ([.ref mo, .int a1, .int a2]) ++ List.replicate (5 - (lg_sl ([.ref mo, .int a1, .int a2])).length) Slot.unset).toArray = ls at hl ⊢
  have hl : lv_has ls 5 [(0, .ref mo), (1, .int a1), (2, .int a2)] := hl
  refine lv_iload_n hx hb dX9_began_0 rfl (lv_at hl 1 rfl) ?_
  refine lv_iconst (v := 0) hx hb dX9_began_1 (by decide) ?_
  refine lv_aload_n hx hb dX9_began_2 rfl (lv_at hl 0 rfl) ?_
  refine va_get (D := (dC, dI)) (ci := 8) (v := .int 0) (C := RX9) (T := TX9) (N := 81) hx hb hts i_X9 hown hK hP 0 rfl rfl 75 (by decide) k_0 (fun _ h9 => h9) f_ms_75 dX9_began_3 ?_
  refine lv_iconst (v := 1) hx hb dX9_began_6 (by decide) ?_
  refine lv_isub hx hb dX9_began_7 ?_
  refine lv_topi (fun v_1 ev_1 => ?_)
  obtain rfl : v_1 = (-1) := ev_1.trans (by decide)
  have hPc := hP.sub (ws' := []) [] rfl
  have hDc := hD.sub (ws' := []) [] (by decide) rfl
  have hKc := hK.sub (tys' := []) [] rfl
  have hFc := va_free (wc := []) hD hS hA [] rfl
  refine va_calli (va_runS (As := [.int a1, .int 0, .int (-1)]) (rest := []) ⟨hx, hb, hml, hown, hts⟩ (c_isInNeg l dC dI s.heap.size a1) (va_cwS 3 hts (p1_gS m_1 m_2 m_3 g_c_isInNeg gz_c_isInNeg) rfl rfl rfl (by decide +kernel) ⟨by decide, by decide⟩) ⟨fun a U g mk q => by obtain ⟨q0, q1, qP, qK, qD⟩ := q; exact ⟨q0, q1, qP, va_K.moved (u := U) (U := U.calling g mk a) (Vm.Alike.refl U.vm) qK, qD⟩, fun U hU hW => ⟨rfl, by rw [hU], by rw [hU]; exact hPc, va_K.moved hW.alike hKc, hDc.weaken (fun _ _ _ _ => trivial)⟩⟩ rfl rfl hl.1 rfl (lv_room (Nat.le_of_ble_eq_true rfl)) dX9_began_8 ⟨by decide, by decide⟩) hS (fun q _ h => hFc q h) hFc (fun r_2 u t H1 locs ht hvm hw hB hz1 hk1 hS => ?_)
  obtain ⟨hP1, hK1, hD1⟩ := hB
  rw [ht] at hP1
  obtain ⟨hP, hD⟩ := va_join (wr := [(mo, .inr (8, ms))]) (w1 := []) hP hD [] [0] rfl rfl (by decide) (by decide) hk1 hFc hP1 hD1
  generalize H1 = H at hP hS ⊢
  have hP : va_P (dC, dI) vwCl [(mo, .inr (8, ms))] H := hP
  have hD : va_D A [(mo, .inr (8, ms))] := hD
  try dsimp only at hw
  obtain rfl : r_2 = 0 := hw
  refine lv_if_eq (tgt := 40) hx hb dX9_began_11 (by decide) (fun _ => ?_) (fun c9 => absurd c9 (by decide))
  refine lv_iconst (v := (-1)) hx hb dX9_began_40 (by decide) ?_
  have hP9 := hP.sub (ws' := []) [] rfl
  have hD9 := hD.sub (ws' := []) [] (by decide) rfl
  have hK9 := hK.sub (tys' := []) [] rfl
  exact W.iret (v := (-1)) hx hb hr (fun t ht hW => ⟨⟨(-1), (), rfl, rfl, by rw [ht]; exact hP9, va_K.moved hW.alike hK9, hD9⟩, hS.F ht⟩) hS.2.2 dX9_began_41
def zo_m_parts : List Cond := [.code yX9_parts cX9_parts 10 (some .int), .methodLink RX9 431 yX9_isKnot, .instanceMethod yX9_isKnot, .selects RX9 yX9_isKnot yX9_isKnot, .initialized RX9]
def zw_m_parts : List Cond := zo_m_parts ++ (zw_c_isKnot ++ [])
theorem gz_m_parts : zw_m_parts.all goodWord = true := p1_ga (by decide +kernel) (p1_ga gz_c_isKnot p1_g0)
theorem iz_m_parts : ∀ w ∈ zw_m_parts, w ∈ lw_tbl := p1_ia (p1_all [1663, 1435, 1437, 71, 116] (by decide +kernel)) (p1_ia iz_c_isKnot p1_i0)
set_option maxHeartbeats 4000000 in
set_option maxRecDepth 100000 in
theorem m_parts (l : Launch) (dC : Nat → ClassId) (dI : Nat → Nat → Nat) (sz : Nat) (mo : Nat) (ms : List Value) (kn : Nat) (cK : ClassId) (kf : Nat → Int32) (a1 : Int32) (a2 : Int32) (a3 : Int32) (a4 : Int32) (f_ms_11 : ms[11]? = some (.ref kn)) (f_ms_43 : ms[43]? = some (.int 0)) (h_kf_0 : kf 0 = 0) : Met l yX9_parts zw_m_parts ({ frames := 2, cells := 0, slots := 0, locals := 43 }) (va_Pc [.ref mo, .int a1, .int a2, .int a3, .int a4] (fun U => U.heap.size = sz ∧ va_P (dC, dI) vwCl [(mo, .inr (8, ms)), (kn, .inl (cK, 2, .inl kf))] U.heap ∧ va_K (dC, dI) vwCl [(cK, .int)] U ∧ va_D (fun _ => True) [(mo, .inr (8, ms)), (kn, .inl (cK, 2, .inl kf))])) (va_Qi (fun (r : Int32) (_ : Unit) => r = (-1)) (fun _ t => va_P (dC, dI) vwCl [] t.heap ∧ va_K (dC, dI) vwCl [] t ∧ va_D (va_A [(mo, .inr (8, ms)), (kn, .inl (cK, 2, .inl kf))] sz) []) (va_A [(mo, .inr (8, ms)), (kn, .inl (cK, 2, .inl kf))] sz)) 0 0 (va_A [(mo, .inr (8, ms)), (kn, .inl (cK, 2, .inl kf))] sz) := by
  refine Met.ofW (cc := cX9_parts) (maxL := 10) (ret := (some .int)) (by decide) rfl ?_
  intro p e s m args below meth c s₁ B hml hv
  obtain ⟨rfl, hsz, hP, hK, hD0⟩ := hv
  have hx := B.exec
  have hb := B.bytes
  have hr := B.returns
  have hts := atoms_spec (ws := zw_m_parts) B.pre
  have hown : s.vm.findClass RX9 = some m.cls := findClass_of_methodNamed B.named
  have hlocks := B.notSynchronized
  subst hsz
  have hD := hD0.self (sz := s.heap.size)
  generalize hAe : va_A [(mo, .inr (8, ms)), (kn, .inl (cK, 2, .inl kf))] s.heap.size = A at hD ⊢
  have hA : ∀ q : Nat, s.heap.size ≤ q → A q := fun q h => by rw [← hAe]; exact Or.inr h
  have hS : va_S A s.heap s.heap [] := va_S.rf
  have hP : va_P (dC, dI) vwCl [(mo, .inr (8, ms)), (kn, .inl (cK, 2, .inl kf))] s.heap := hP
  have m_0 : (.methodLink RX9 431 yX9_isKnot : Cond) ∈ zw_m_parts := List.mem_append_left _ (List.mem_of_getElem? (i := 1) rfl)
  have k_0 := hts _ m_0
  have m_1 : (.instanceMethod yX9_isKnot : Cond) ∈ zw_m_parts := List.mem_append_left _ (List.mem_of_getElem? (i := 2) rfl)
  have k_1 := hts _ m_1
  have m_2 : (.selects RX9 yX9_isKnot yX9_isKnot : Cond) ∈ zw_m_parts := List.mem_append_left _ (List.mem_of_getElem? (i := 3) rfl)
  have k_2 := hts _ m_2
  have m_3 : (.initialized RX9 : Cond) ∈ zw_m_parts := List.mem_append_left _ (List.mem_of_getElem? (i := 4) rfl)
  have k_3 := hts _ m_3
  have g_c_isKnot : ∀ w ∈ zw_c_isKnot, w ∈ zw_m_parts := fun w h => List.mem_append_right _ (List.mem_append_left _ h)
  have hl := lv_entry ([.ref mo, .int a1, .int a2, .int a3, .int a4]) (n := 10) (Nat.le_of_ble_eq_true rfl)
  rw [lg_entry_eq]
  generalize (lg_sl ([.ref mo, .int a1, .int a2, .int a3, .int a4]) ++ List.replicate (10 - (lg_sl ([.ref mo, .int a1, .int a2, .int a3, .int a4])).length) Slot.unset).toArray = ls at hl ⊢
  have hl : lv_has ls 10 [(0, .ref mo), (1, .int a1), (2, .int a2), (3, .int a3), (4, .int a4)] := hl
  refine lv_aload_n hx hb dX9_parts_0 rfl (lv_at hl 0 rfl) ?_
  refine lv_iload_n hx hb dX9_parts_1 rfl (lv_at hl 1 rfl) ?_
  have hPc := hP.sub (ws' := [(mo, .inr (8, ms)), (kn, .inl (cK, 2, .inl kf))]) [0, 1] rfl
  have hDc := hD.sub (ws' := [(mo, .inr (8, ms)), (kn, .inl (cK, 2, .inl kf))]) [0, 1] (by decide) rfl
  have hKc := hK.sub (tys' := [(cK, .int)]) [0] rfl
  have hFc := va_free (wc := [(mo, .inr (8, ms)), (kn, .inl (cK, 2, .inl kf))]) hD hS hA [0, 1] rfl
  refine va_calli (va_runV (As := [.int a1]) (rest := []) ⟨hx, hb, hml, hown, hts⟩ (c_isKnot l dC dI s.heap.size mo ms kn cK kf a1 f_ms_11 f_ms_43 h_kf_0) (cwV 1 hts (p1_gV m_0 m_1 m_2 m_3 g_c_isKnot gz_c_isKnot) rfl rfl rfl (by decide +kernel) ⟨by decide, by decide⟩) ⟨fun a U g mk q => by obtain ⟨q0, q1, qP, qK, qD⟩ := q; exact ⟨q0, q1, qP, va_K.moved (u := U) (U := U.calling g mk a) (Vm.Alike.refl U.vm) qK, qD⟩, va_recv hKc hPc (ci := 8) (q0 := 0) rfl rfl, fun U hU hW => ⟨rfl, by rw [hU], by rw [hU]; exact hPc, va_K.moved hW.alike hKc, hDc.weaken (fun _ _ _ _ => trivial)⟩⟩ rfl rfl hl.1 rfl (lv_room (Nat.le_of_ble_eq_true rfl)) dX9_parts_2 ⟨by decide, by decide⟩) hS (fun q _ h => hFc q h) hFc (fun r_1 u t H1 locs ht hvm hw hB hz1 hk1 hS => ?_)
  obtain ⟨hP1, hK1, hD1⟩ := hB
  rw [ht] at hP1
  obtain ⟨hP, hD⟩ := va_join (wr := []) (w1 := [(mo, .inr (8, ms)), (kn, .inl (cK, 2, .inl kf))]) hP hD [0, 1] [] rfl rfl (by decide) (by decide) hk1 hFc hP1 hD1
  generalize H1 = H at hP hS ⊢
  have hP : va_P (dC, dI) vwCl [(mo, .inr (8, ms)), (kn, .inl (cK, 2, .inl kf))] H := hP
  have hD : va_D A [(mo, .inr (8, ms)), (kn, .inl (cK, 2, .inl kf))] := hD
  try dsimp only at hw
  obtain rfl : r_1 = 0 := hw
  refine lv_if_eq (tgt := 28) hx hb dX9_parts_5 (by decide) (fun _ => ?_) (fun c9 => absurd c9 (by decide))
  refine lv_iconst (v := (-1)) hx hb dX9_parts_28 (by decide) ?_
  have hP9 := hP.sub (ws' := []) [] rfl
  have hD9 := hD.sub (ws' := []) [] (by decide) rfl
  have hK9 := hK.sub (tys' := []) [] rfl
  exact W.iret (v := (-1)) hx hb hr (fun t ht hW => ⟨⟨(-1), (), rfl, rfl, by rw [ht]; exact hP9, va_K.moved hW.alike hK9, hD9⟩, hS.F ht⟩) hS.2.2 dX9_parts_29
def zo_m_seed : List Cond := [.code yX9_seed cX9_seed 3 (some .int), .fieldLink RX9 125 "BowWalkModel" "w" "I"]
def zw_m_seed : List Cond := zo_m_seed ++ (wsX90 ++ [])
theorem gz_m_seed : zw_m_seed.all goodWord = true := p1_ga (by decide +kernel) (p1_ga gk_X9 p1_g0)
theorem iz_m_seed : ∀ w ∈ zw_m_seed, w ∈ lw_tbl := p1_ia (p1_all [1676, 1102] (by decide +kernel)) (p1_ia ik_X9 p1_i0)
set_option maxHeartbeats 4000000 in
set_option maxRecDepth 100000 in
theorem m_seed (l : Launch) (dC : Nat → ClassId) (dI : Nat → Nat → Nat) (sz : Nat) (mo : Nat) (ms : List Value) (a1 : Int32) (f_ms_65 : ms[65]? = some (.int 1)) (l_ms : ms.length = 81) : Met l yX9_seed zw_m_seed ({ frames := 0, cells := 0, slots := 0, locals := 0 }) (va_Pc [.ref mo, .int a1] (fun U => U.heap.size = sz ∧ va_P (dC, dI) vwCl [(mo, .inr (8, ms))] U.heap ∧ va_K (dC, dI) vwCl [] U ∧ va_D (fun _ => True) [(mo, .inr (8, ms))])) (va_Qi (fun (r : Int32) (_ : Unit) => r = 1) (fun _ t => va_P (dC, dI) vwCl [] t.heap ∧ va_K (dC, dI) vwCl [] t ∧ va_D (va_A [(mo, .inr (8, ms))] sz) []) (va_A [(mo, .inr (8, ms))] sz)) 0 0 (va_A [(mo, .inr (8, ms))] sz) := by
  refine Met.ofW (cc := cX9_seed) (maxL := 3) (ret := (some .int)) (by decide) rfl ?_
  intro p e s m args below meth c s₁ B hml hv
  obtain ⟨rfl, hsz, hP, hK, hD0⟩ := hv
  have hx := B.exec
  have hb := B.bytes
  have hr := B.returns
  have hts := atoms_spec (ws := zw_m_seed) B.pre
  have hown : s.vm.findClass RX9 = some m.cls := findClass_of_methodNamed B.named
  have hlocks := B.notSynchronized
  subst hsz
  have hD := hD0.self (sz := s.heap.size)
  generalize hAe : va_A [(mo, .inr (8, ms))] s.heap.size = A at hD ⊢
  have hA : ∀ q : Nat, s.heap.size ≤ q → A q := fun q h => by rw [← hAe]; exact Or.inr h
  have hS : va_S A s.heap s.heap [] := va_S.rf
  have hP : va_P (dC, dI) vwCl [(mo, .inr (8, ms))] s.heap := hP
  have m_0 : (.fieldLink RX9 125 "BowWalkModel" "w" "I" : Cond) ∈ zw_m_seed := List.mem_append_left _ (List.mem_of_getElem? (i := 1) rfl)
  have k_0 := hts _ m_0
  have i_X9 : ∀ w ∈ u_ws RX9 TX9 81, w ∈ zw_m_seed := fun w h => List.mem_append_right _ (List.mem_append_left _ h)
  have hl := lv_entry ([.ref mo, .int a1]) (n := 3) (Nat.le_of_ble_eq_true rfl)
  rw [lg_entry_eq]
  generalize (lg_sl ([.ref mo, .int a1]) ++ List.replicate (3 - (lg_sl ([.ref mo, .int a1])).length) Slot.unset).toArray = ls at hl ⊢
  have hl : lv_has ls 3 [(0, .ref mo), (1, .int a1)] := hl
  refine lv_aload_n hx hb dX9_seed_0 rfl (lv_at hl 0 rfl) ?_
  refine va_get (D := (dC, dI)) (ci := 8) (v := .int 1) (C := RX9) (T := TX9) (N := 81) hx hb hts i_X9 hown hK hP 0 rfl rfl 65 (by decide) k_0 (fun _ h9 => h9) f_ms_65 dX9_seed_1 ?_
  refine lv_istore_n (lv' := [(2, .int 1), (0, .ref mo), (1, .int a1)]) hx hb dX9_seed_4 rfl hl (by decide) rfl (fun ls hl => ?_)
  refine lv_aload_n hx hb dX9_seed_5 rfl (lv_at hl 1 rfl) ?_
  refine lv_iload_n hx hb dX9_seed_6 rfl (lv_at hl 2 rfl) ?_
  refine va_put (D := (dC, dI)) (ci := 8) (v := .int a1) (ty := .int) (C := RX9) (T := TX9) (N := 81) hx hb hts i_X9 tyX9 tyX9_ok nmX9 hown hK hP hD hS 0 rfl rfl 65 (by decide) k_0 (fun _ h9 => h9) rfl (by decide +kernel) rfl rfl (by rw [l_ms]; decide) dX9_seed_7 (fun H locs hP hD hS => ?_)
  have hP : va_P (dC, dI) vwCl [(mo, .inr (8, (ms.set 65 (.int a1))))] H := hP
  have hD : va_D A [(mo, .inr (8, (ms.set 65 (.int a1))))] := hD
  generalize efs_1 : (ms.set 65 (.int a1)) = fs_1 at hP hD
  have lfs_1 : fs_1.length = 81 := by rw [← efs_1, List.length_set]; exact l_ms
  have ffs_1_65 : fs_1[65]? = some (.int a1) := by rw [← efs_1]; exact p1_sa l_ms (by decide)
  refine lv_iload_n hx hb dX9_seed_10 rfl (lv_at hl 0 rfl) ?_
  have hP9 := hP.sub (ws' := []) [] rfl
  have hD9 := hD.sub (ws' := []) [] (by decide) rfl
  have hK9 := hK.sub (tys' := []) [] rfl
  exact W.iret (v := 1) hx hb hr (fun t ht hW => ⟨⟨1, (), rfl, rfl, by rw [ht]; exact hP9, va_K.moved hW.alike hK9, hD9⟩, hS.F ht⟩) hS.2.2 dX9_seed_11
def zo_m_end : List Cond := [.code yX9_end cX9_end 2 (some .int), .fieldLink RX9 288 "BowWalkModel" "taped" "I"]
def zw_m_end : List Cond := zo_m_end ++ (wsX90 ++ [])
theorem gz_m_end : zw_m_end.all goodWord = true := p1_ga (by decide +kernel) (p1_ga gk_X9 p1_g0)
theorem iz_m_end : ∀ w ∈ zw_m_end, w ∈ lw_tbl := p1_ia (p1_all [1696, 1039] (by decide +kernel)) (p1_ia ik_X9 p1_i0)
set_option maxHeartbeats 4000000 in
set_option maxRecDepth 100000 in
theorem m_end (l : Launch) (dC : Nat → ClassId) (dI : Nat → Nat → Nat) (sz : Nat) (mo : Nat) (ms : List Value) (a1 : Int32) (f_ms_2 : ms[2]? = some (.int 0)) (l_ms : ms.length = 81) : Met l yX9_end zw_m_end ({ frames := 0, cells := 0, slots := 0, locals := 0 }) (va_Pc [.ref mo, .int a1] (fun U => U.heap.size = sz ∧ va_P (dC, dI) vwCl [(mo, .inr (8, ms))] U.heap ∧ va_K (dC, dI) vwCl [] U ∧ va_D (fun _ => True) [(mo, .inr (8, ms))])) (va_Qi (fun (r : Int32) (_ : Unit) => r = p1_end a1) (fun _ t => va_P (dC, dI) vwCl [] t.heap ∧ va_K (dC, dI) vwCl [] t ∧ va_D (va_A [(mo, .inr (8, ms))] sz) []) (va_A [(mo, .inr (8, ms))] sz)) 0 0 (va_A [(mo, .inr (8, ms))] sz) := by
  refine Met.ofW (cc := cX9_end) (maxL := 2) (ret := (some .int)) (by decide) rfl ?_
  intro p e s m args below meth c s₁ B hml hv
  obtain ⟨rfl, hsz, hP, hK, hD0⟩ := hv
  have hx := B.exec
  have hb := B.bytes
  have hr := B.returns
  have hts := atoms_spec (ws := zw_m_end) B.pre
  have hown : s.vm.findClass RX9 = some m.cls := findClass_of_methodNamed B.named
  have hlocks := B.notSynchronized
  subst hsz
  have hD := hD0.self (sz := s.heap.size)
  generalize hAe : va_A [(mo, .inr (8, ms))] s.heap.size = A at hD ⊢
  have hA : ∀ q : Nat, s.heap.size ≤ q → A q := fun q h => by rw [← hAe]; exact Or.inr h
  have hS : va_S A s.heap s.heap [] := va_S.rf
  have hP : va_P (dC, dI) vwCl [(mo, .inr (8, ms))] s.heap := hP
  have m_0 : (.fieldLink RX9 288 "BowWalkModel" "taped" "I" : Cond) ∈ zw_m_end := List.mem_append_left _ (List.mem_of_getElem? (i := 1) rfl)
  have k_0 := hts _ m_0
  have i_X9 : ∀ w ∈ u_ws RX9 TX9 81, w ∈ zw_m_end := fun w h => List.mem_append_right _ (List.mem_append_left _ h)
  have hl := lv_entry ([.ref mo, .int a1]) (n := 2) (Nat.le_of_ble_eq_true rfl)
  rw [lg_entry_eq]
  generalize (lg_sl ([.ref mo, .int a1]) ++ List.replicate (2 - (lg_sl ([.ref mo, .int a1])).length) Slot.unset).toArray = ls at hl ⊢
  have hl : lv_has ls 2 [(0, .ref mo), (1, .int a1)] := hl
  refine lv_iload_n hx hb dX9_end_0 rfl (lv_at hl 1 rfl) ?_
  refine lv_if_lt (tgt := 12) hx hb dX9_end_1 (by decide) (fun c1 => ?_) (fun c1 => ?_)
  · refine lv_iconst (v := (-1)) hx hb dX9_end_12 (by decide) ?_
    have hP9 := hP.sub (ws' := []) [] rfl
    have hD9 := hD.sub (ws' := []) [] (by decide) rfl
    have hK9 := hK.sub (tys' := []) [] rfl
    exact W.iret (v := (-1)) hx hb hr (fun t ht hW => ⟨⟨(-1), (), rfl, by first | exact p1_end_no (by assumption) (by assumption) | exact p1_end_lt (by assumption) | exact p1_end_gt (by assumption), by rw [ht]; exact hP9, va_K.moved hW.alike hK9, hD9⟩, hS.F ht⟩) hS.2.2 dX9_end_13
  · refine lv_iload_n hx hb dX9_end_4 rfl (lv_at hl 1 rfl) ?_
    refine lv_aload_n hx hb dX9_end_5 rfl (lv_at hl 0 rfl) ?_
    refine va_get (D := (dC, dI)) (ci := 8) (v := .int 0) (C := RX9) (T := TX9) (N := 81) hx hb hts i_X9 hown hK hP 0 rfl rfl 2 (by decide) k_0 (fun _ h9 => h9) f_ms_2 dX9_end_6 ?_
    refine lv_icmp_le (tgt := 14) hx hb dX9_end_9 (by decide) (fun c9 => ?_) (fun c9 => ?_)
    · refine lv_aload_n hx hb dX9_end_14 rfl (lv_at hl 0 rfl) ?_
      refine lv_iload_n hx hb dX9_end_15 rfl (lv_at hl 1 rfl) ?_
      refine va_put (D := (dC, dI)) (ci := 8) (v := .int a1) (ty := .int) (C := RX9) (T := TX9) (N := 81) hx hb hts i_X9 tyX9 tyX9_ok nmX9 hown hK hP hD hS 0 rfl rfl 2 (by decide) k_0 (fun _ h9 => h9) rfl (by decide +kernel) rfl rfl (by rw [l_ms]; decide) dX9_end_16 (fun H locs hP hD hS => ?_)
      have hP : va_P (dC, dI) vwCl [(mo, .inr (8, (ms.set 2 (.int a1))))] H := hP
      have hD : va_D A [(mo, .inr (8, (ms.set 2 (.int a1))))] := hD
      generalize efs_1 : (ms.set 2 (.int a1)) = fs_1 at hP hD
      have lfs_1 : fs_1.length = 81 := by rw [← efs_1, List.length_set]; exact l_ms
      have ffs_1_2 : fs_1[2]? = some (.int a1) := by rw [← efs_1]; exact p1_sa l_ms (by decide)
      refine lv_iload_n hx hb dX9_end_19 rfl (lv_at hl 1 rfl) ?_
      have hP9 := hP.sub (ws' := []) [] rfl
      have hD9 := hD.sub (ws' := []) [] (by decide) rfl
      have hK9 := hK.sub (tys' := []) [] rfl
      exact W.iret (v := a1) hx hb hr (fun t ht hW => ⟨⟨a1, (), rfl, by first | exact p1_end_no (by assumption) (by assumption) | exact p1_end_lt (by assumption) | exact p1_end_gt (by assumption), by rw [ht]; exact hP9, va_K.moved hW.alike hK9, hD9⟩, hS.F ht⟩) hS.2.2 dX9_end_20
    · refine lv_iconst (v := (-1)) hx hb dX9_end_12 (by decide) ?_
      have hP9 := hP.sub (ws' := []) [] rfl
      have hD9 := hD.sub (ws' := []) [] (by decide) rfl
      have hK9 := hK.sub (tys' := []) [] rfl
      exact W.iret (v := (-1)) hx hb hr (fun t ht hW => ⟨⟨(-1), (), rfl, by first | exact p1_end_no (by assumption) (by assumption) | exact p1_end_lt (by assumption) | exact p1_end_gt (by assumption), by rw [ht]; exact hP9, va_K.moved hW.alike hK9, hD9⟩, hS.F ht⟩) hS.2.2 dX9_end_13
def zo_m_later : List Cond := [.code yX9_later cX9_later 2 (some .int), .methodLink RX9 389 yX9_isIn, .static yX9_isIn, .initialized RX9, .fieldLink RX9 517 "BowWalkModel" "time" "I", .constant RX9 458 (100000)]
def zw_m_later : List Cond := zo_m_later ++ (zw_c_isIn ++ (wsX90 ++ []))
theorem gz_m_later : zw_m_later.all goodWord = true := p1_ga (by decide +kernel) (p1_ga gz_c_isIn (p1_ga gk_X9 p1_g0))
theorem iz_m_later : ∀ w ∈ zw_m_later, w ∈ lw_tbl := p1_ia (p1_all [1643, 1439, 1440, 116, 1113, 1462] (by decide +kernel)) (p1_ia iz_c_isIn (p1_ia ik_X9 p1_i0))
set_option maxHeartbeats 4000000 in
set_option maxRecDepth 100000 in
theorem m_later (l : Launch) (dC : Nat → ClassId) (dI : Nat → Nat → Nat) (sz : Nat) (mo : Nat) (ms : List Value) (a1 : Int32) (f_ms_76 : ms[76]? = some (.int 0)) (l_ms : ms.length = 81) : Met l yX9_later zw_m_later ({ frames := 1, cells := 0, slots := 0, locals := 22 }) (va_Pc [.ref mo, .int a1] (fun U => U.heap.size = sz ∧ va_P (dC, dI) vwCl [(mo, .inr (8, ms))] U.heap ∧ va_K (dC, dI) vwCl [] U ∧ va_D (fun _ => True) [(mo, .inr (8, ms))])) (va_Qi (fun (r : Int32) (_ : Unit) => r = p1_later a1) (fun _ t => va_P (dC, dI) vwCl [] t.heap ∧ va_K (dC, dI) vwCl [] t ∧ va_D (va_A [(mo, .inr (8, ms))] sz) []) (va_A [(mo, .inr (8, ms))] sz)) 0 0 (va_A [(mo, .inr (8, ms))] sz) := by
  refine Met.ofW (cc := cX9_later) (maxL := 2) (ret := (some .int)) (by decide) rfl ?_
  intro p e s m args below meth c s₁ B hml hv
  obtain ⟨rfl, hsz, hP, hK, hD0⟩ := hv
  have hx := B.exec
  have hb := B.bytes
  have hr := B.returns
  have hts := atoms_spec (ws := zw_m_later) B.pre
  have hown : s.vm.findClass RX9 = some m.cls := findClass_of_methodNamed B.named
  have hlocks := B.notSynchronized
  subst hsz
  have hD := hD0.self (sz := s.heap.size)
  generalize hAe : va_A [(mo, .inr (8, ms))] s.heap.size = A at hD ⊢
  have hA : ∀ q : Nat, s.heap.size ≤ q → A q := fun q h => by rw [← hAe]; exact Or.inr h
  have hS : va_S A s.heap s.heap [] := va_S.rf
  have hP : va_P (dC, dI) vwCl [(mo, .inr (8, ms))] s.heap := hP
  have m_0 : (.methodLink RX9 389 yX9_isIn : Cond) ∈ zw_m_later := List.mem_append_left _ (List.mem_of_getElem? (i := 1) rfl)
  have k_0 := hts _ m_0
  have m_1 : (.static yX9_isIn : Cond) ∈ zw_m_later := List.mem_append_left _ (List.mem_of_getElem? (i := 2) rfl)
  have k_1 := hts _ m_1
  have m_2 : (.initialized RX9 : Cond) ∈ zw_m_later := List.mem_append_left _ (List.mem_of_getElem? (i := 3) rfl)
  have k_2 := hts _ m_2
  have m_3 : (.fieldLink RX9 517 "BowWalkModel" "time" "I" : Cond) ∈ zw_m_later := List.mem_append_left _ (List.mem_of_getElem? (i := 4) rfl)
  have k_3 := hts _ m_3
  have m_4 : (.constant RX9 458 (100000) : Cond) ∈ zw_m_later := List.mem_append_left _ (List.mem_of_getElem? (i := 5) rfl)
  have k_4 := hts _ m_4
  have g_c_isIn : ∀ w ∈ zw_c_isIn, w ∈ zw_m_later := fun w h => List.mem_append_right _ (List.mem_append_left _ h)
  have i_X9 : ∀ w ∈ u_ws RX9 TX9 81, w ∈ zw_m_later := fun w h => List.mem_append_right _ (List.mem_append_right _ (List.mem_append_left _ h))
  have hl := lv_entry ([.ref mo, .int a1]) (n := 2) (Nat.le_of_ble_eq_true rfl)
  rw [lg_entry_eq]
  generalize (lg_sl ([.ref mo, .int a1]) ++ List.replicate (2 - (lg_sl ([.ref mo, .int a1])).length) Slot.unset).toArray = ls at hl ⊢
  have hl : lv_has ls 2 [(0, .ref mo), (1, .int a1)] := hl
  refine lv_iload_n hx hb dX9_later_0 rfl (lv_at hl 1 rfl) ?_
  refine lv_iconst (v := 0) hx hb dX9_later_1 (by decide) ?_
  refine lv_sipush (v := 1000) hx hb dX9_later_2 (by decide) ?_
  have hPc := hP.sub (ws' := []) [] rfl
  have hDc := hD.sub (ws' := []) [] (by decide) rfl
  have hKc := hK.sub (tys' := []) [] rfl
  have hFc := va_free (wc := []) hD hS hA [] rfl
  refine va_calli (va_runS (As := [.int a1, .int 0, .int 1000]) (rest := []) ⟨hx, hb, hml, hown, hts⟩ (c_isIn l dC dI s.heap.size a1 0 1000) (va_cwS 3 hts (p1_gS m_0 m_1 m_2 g_c_isIn gz_c_isIn) rfl rfl rfl (by decide +kernel) ⟨by decide, by decide⟩) ⟨fun a U g mk q => by obtain ⟨q0, q1, qP, qK, qD⟩ := q; exact ⟨q0, q1, qP, va_K.moved (u := U) (U := U.calling g mk a) (Vm.Alike.refl U.vm) qK, qD⟩, fun U hU hW => ⟨rfl, by rw [hU], by rw [hU]; exact hPc, va_K.moved hW.alike hKc, hDc.weaken (fun _ _ _ _ => trivial)⟩⟩ rfl rfl hl.1 rfl (lv_room (Nat.le_of_ble_eq_true rfl)) dX9_later_5 ⟨by decide, by decide⟩) hS (fun q _ h => hFc q h) hFc (fun r_1 u t H1 locs ht hvm hw hB hz1 hk1 hS => ?_)
  obtain ⟨hP1, hK1, hD1⟩ := hB
  rw [ht] at hP1
  obtain ⟨hP, hD⟩ := va_join (wr := [(mo, .inr (8, ms))]) (w1 := []) hP hD [] [0] rfl rfl (by decide) (by decide) hk1 hFc hP1 hD1
  generalize H1 = H at hP hS ⊢
  have hP : va_P (dC, dI) vwCl [(mo, .inr (8, ms))] H := hP
  have hD : va_D A [(mo, .inr (8, ms))] := hD
  try dsimp only at hw
  rcases hw with ⟨rfl, hw_2⟩ | ⟨rfl, hw_2⟩
  · refine lv_if_eq (tgt := 23) hx hb dX9_later_8 (by decide) (fun c9 => absurd c9 (by decide)) (fun _ => ?_)
    refine lv_aload_n hx hb dX9_later_11 rfl (lv_at hl 0 rfl) ?_
    refine va_get (D := (dC, dI)) (ci := 8) (v := .int 0) (C := RX9) (T := TX9) (N := 81) hx hb hts i_X9 hown hK hP 0 rfl rfl 76 (by decide) k_3 (fun _ h9 => h9) f_ms_76 dX9_later_12 ?_
    refine lv_iload_n hx hb dX9_later_15 rfl (lv_at hl 1 rfl) ?_
    refine lv_iadd hx hb dX9_later_16 ?_
    refine lv_topi (fun v_3 ev_3 => ?_)
    refine lv_ldcw (v := 100000) hx hb hown k_4 dX9_later_17 ?_
    refine lv_icmp_le (tgt := 25) hx hb dX9_later_20 (by decide) (fun c20 => ?_) (fun c20 => absurd c20 (fun z9 => z9 (p1_late hw_2 ev_3)))
    refine lv_aload_n hx hb dX9_later_25 rfl (lv_at hl 0 rfl) ?_
    refine lv_dup hx hb dX9_later_26 rfl ?_
    refine va_get (D := (dC, dI)) (ci := 8) (v := .int 0) (C := RX9) (T := TX9) (N := 81) hx hb hts i_X9 hown hK hP 0 rfl rfl 76 (by decide) k_3 (fun _ h9 => h9) f_ms_76 dX9_later_27 ?_
    refine lv_iload_n hx hb dX9_later_30 rfl (lv_at hl 1 rfl) ?_
    refine lv_iadd hx hb dX9_later_31 ?_
    refine lv_topi (fun v_4 ev_4 => ?_)
    refine va_put (D := (dC, dI)) (ci := 8) (v := .int v_4) (ty := .int) (C := RX9) (T := TX9) (N := 81) hx hb hts i_X9 tyX9 tyX9_ok nmX9 hown hK hP hD hS 0 rfl rfl 76 (by decide) k_3 (fun _ h9 => h9) rfl (by decide +kernel) rfl rfl (by rw [l_ms]; decide) dX9_later_32 (fun H locs hP hD hS => ?_)
    have hP : va_P (dC, dI) vwCl [(mo, .inr (8, (ms.set 76 (.int v_4))))] H := hP
    have hD : va_D A [(mo, .inr (8, (ms.set 76 (.int v_4))))] := hD
    generalize efs_5 : (ms.set 76 (.int v_4)) = fs_5 at hP hD
    have lfs_5 : fs_5.length = 81 := by rw [← efs_5, List.length_set]; exact l_ms
    have ffs_5_76 : fs_5[76]? = some (.int v_4) := by rw [← efs_5]; exact p1_sa l_ms (by decide)
    refine lv_aload_n hx hb dX9_later_35 rfl (lv_at hl 0 rfl) ?_
    refine va_get (D := (dC, dI)) (ci := 8) (v := .int v_4) (C := RX9) (T := TX9) (N := 81) hx hb hts i_X9 hown hK hP 0 rfl rfl 76 (by decide) k_3 (fun _ h9 => h9) ffs_5_76 dX9_later_36 ?_
    have hP9 := hP.sub (ws' := []) [] rfl
    have hD9 := hD.sub (ws' := []) [] (by decide) rfl
    have hK9 := hK.sub (tys' := []) [] rfl
    exact W.iret (v := v_4) hx hb hr (fun t ht hW => ⟨⟨v_4, (), rfl, by rw [p1_later, if_pos hw_2]; exact ev_4, by rw [ht]; exact hP9, va_K.moved hW.alike hK9, hD9⟩, hS.F ht⟩) hS.2.2 dX9_later_39
  · refine lv_if_eq (tgt := 23) hx hb dX9_later_8 (by decide) (fun _ => ?_) (fun c9 => absurd c9 (by decide))
    refine lv_iconst (v := (-1)) hx hb dX9_later_23 (by decide) ?_
    have hP9 := hP.sub (ws' := []) [] rfl
    have hD9 := hD.sub (ws' := []) [] (by decide) rfl
    have hK9 := hK.sub (tys' := []) [] rfl
    exact W.iret (v := (-1)) hx hb hr (fun t ht hW => ⟨⟨(-1), (), rfl, (if_neg hw_2).symm, by rw [ht]; exact hP9, va_K.moved hW.alike hK9, hD9⟩, hS.F ht⟩) hS.2.2 dX9_later_24
def zo_m_fault : List Cond := [.code yX9_fault cX9_fault 2 (some .int), .fieldLink RX9 16 "BowWalkModel" "faultPlace" "I", .fieldLink RX9 173 "BowWalkModel" "faultKind" "I"]
def zw_m_fault : List Cond := zo_m_fault ++ (wsX90 ++ [])
theorem gz_m_fault : zw_m_fault.all goodWord = true := p1_ga (by decide +kernel) (p1_ga gk_X9 p1_g0)
theorem iz_m_fault : ∀ w ∈ zw_m_fault, w ∈ lw_tbl := p1_ia (p1_all [1430, 1042, 1041] (by decide +kernel)) (p1_ia ik_X9 p1_i0)
set_option maxHeartbeats 4000000 in
set_option maxRecDepth 100000 in
theorem m_fault (l : Launch) (dC : Nat → ClassId) (dI : Nat → Nat → Nat) (sz : Nat) (mo : Nat) (ms : List Value) (a1 : Int32) (f_ms_4 : ms[4]? = some (.int 0)) (f_ms_5 : ms[5]? = some (.int (-1))) : Met l yX9_fault zw_m_fault ({ frames := 0, cells := 0, slots := 0, locals := 0 }) (va_Pc [.ref mo, .int a1] (fun U => U.heap.size = sz ∧ va_P (dC, dI) vwCl [(mo, .inr (8, ms))] U.heap ∧ va_K (dC, dI) vwCl [] U ∧ va_D (fun _ => True) [(mo, .inr (8, ms))])) (va_Qi (fun (r : Int32) (_ : Unit) => r = p1_fault a1) (fun _ t => va_P (dC, dI) vwCl [] t.heap ∧ va_K (dC, dI) vwCl [] t ∧ va_D (va_A [(mo, .inr (8, ms))] sz) []) (va_A [(mo, .inr (8, ms))] sz)) 0 0 (va_A [(mo, .inr (8, ms))] sz) := by
  refine Met.ofW (cc := cX9_fault) (maxL := 2) (ret := (some .int)) (by decide) rfl ?_
  intro p e s m args below meth c s₁ B hml hv
  obtain ⟨rfl, hsz, hP, hK, hD0⟩ := hv
  have hx := B.exec
  have hb := B.bytes
  have hr := B.returns
  have hts := atoms_spec (ws := zw_m_fault) B.pre
  have hown : s.vm.findClass RX9 = some m.cls := findClass_of_methodNamed B.named
  have hlocks := B.notSynchronized
  subst hsz
  have hD := hD0.self (sz := s.heap.size)
  generalize hAe : va_A [(mo, .inr (8, ms))] s.heap.size = A at hD ⊢
  have hA : ∀ q : Nat, s.heap.size ≤ q → A q := fun q h => by rw [← hAe]; exact Or.inr h
  have hS : va_S A s.heap s.heap [] := va_S.rf
  have hP : va_P (dC, dI) vwCl [(mo, .inr (8, ms))] s.heap := hP
  have m_0 : (.fieldLink RX9 16 "BowWalkModel" "faultPlace" "I" : Cond) ∈ zw_m_fault := List.mem_append_left _ (List.mem_of_getElem? (i := 1) rfl)
  have k_0 := hts _ m_0
  have m_1 : (.fieldLink RX9 173 "BowWalkModel" "faultKind" "I" : Cond) ∈ zw_m_fault := List.mem_append_left _ (List.mem_of_getElem? (i := 2) rfl)
  have k_1 := hts _ m_1
  have i_X9 : ∀ w ∈ u_ws RX9 TX9 81, w ∈ zw_m_fault := fun w h => List.mem_append_right _ (List.mem_append_left _ h)
  have hl := lv_entry ([.ref mo, .int a1]) (n := 2) (Nat.le_of_ble_eq_true rfl)
  rw [lg_entry_eq]
  generalize (lg_sl ([.ref mo, .int a1]) ++ List.replicate (2 - (lg_sl ([.ref mo, .int a1])).length) Slot.unset).toArray = ls at hl ⊢
  have hl : lv_has ls 2 [(0, .ref mo), (1, .int a1)] := hl
  refine lv_iload_n hx hb dX9_fault_0 rfl (lv_at hl 1 rfl) ?_
  refine lv_if_ne (tgt := 11) hx hb dX9_fault_1 (by decide) (fun c1 => ?_) (fun c1 => ?_)
  · refine lv_iload_n hx hb dX9_fault_11 rfl (lv_at hl 1 rfl) ?_
    refine lv_iconst (v := 1) hx hb dX9_fault_12 (by decide) ?_
    refine lv_icmp_ne (tgt := 23) hx hb dX9_fault_13 (by decide) (fun c13 => ?_) (fun c13 => ?_)
    · refine lv_iconst (v := (-1)) hx hb dX9_fault_23 (by decide) ?_
      have hP9 := hP.sub (ws' := []) [] rfl
      have hD9 := hD.sub (ws' := []) [] (by decide) rfl
      have hK9 := hK.sub (tys' := []) [] rfl
      exact W.iret (v := (-1)) hx hb hr (fun t ht hW => ⟨⟨(-1), (), rfl, by simp only [p1_fault]; first | exact (if_pos (by assumption)).symm | exact (if_neg (by assumption)).symm, by rw [ht]; exact hP9, va_K.moved hW.alike hK9, hD9⟩, hS.F ht⟩) hS.2.2 dX9_fault_24
    · refine lv_aload_n hx hb dX9_fault_16 rfl (lv_at hl 0 rfl) ?_
      refine va_get (D := (dC, dI)) (ci := 8) (v := .int (-1)) (C := RX9) (T := TX9) (N := 81) hx hb hts i_X9 hown hK hP 0 rfl rfl 5 (by decide) k_0 (fun _ h9 => h9) f_ms_5 dX9_fault_17 ?_
      refine lv_goto (tgt := 24) hx hb dX9_fault_20 (by decide) ?_
      have hP9 := hP.sub (ws' := []) [] rfl
      have hD9 := hD.sub (ws' := []) [] (by decide) rfl
      have hK9 := hK.sub (tys' := []) [] rfl
      exact W.iret (v := (-1)) hx hb hr (fun t ht hW => ⟨⟨(-1), (), rfl, by simp only [p1_fault]; first | exact (if_pos (by assumption)).symm | exact (if_neg (by assumption)).symm, by rw [ht]; exact hP9, va_K.moved hW.alike hK9, hD9⟩, hS.F ht⟩) hS.2.2 dX9_fault_24
  · refine lv_aload_n hx hb dX9_fault_4 rfl (lv_at hl 0 rfl) ?_
    refine va_get (D := (dC, dI)) (ci := 8) (v := .int 0) (C := RX9) (T := TX9) (N := 81) hx hb hts i_X9 hown hK hP 0 rfl rfl 4 (by decide) k_1 (fun _ h9 => h9) f_ms_4 dX9_fault_5 ?_
    refine lv_goto (tgt := 24) hx hb dX9_fault_8 (by decide) ?_
    have hP9 := hP.sub (ws' := []) [] rfl
    have hD9 := hD.sub (ws' := []) [] (by decide) rfl
    have hK9 := hK.sub (tys' := []) [] rfl
    exact W.iret (v := 0) hx hb hr (fun t ht hW => ⟨⟨0, (), rfl, by simp only [p1_fault]; first | exact (if_pos (by assumption)).symm | exact (if_neg (by assumption)).symm, by rw [ht]; exact hP9, va_K.moved hW.alike hK9, hD9⟩, hS.F ht⟩) hS.2.2 dX9_fault_24
def zo_m_about : List Cond := [.code yX9_about cX9_about 2 (some .int), .fieldLink RX9 20 "BowWalkModel" "knots" "[I", .fieldLink RX9 291 "BowWalkModel" "bank" "I", .fieldLink RX9 24 "BowWalkModel" "cords" "[I", .fieldLink RX9 27 "BowWalkModel" "walks" "[I", .fieldLink RX9 30 "BowWalkModel" "laws" "[I", .fieldLink RX9 33 "BowWalkModel" "wants" "[I", .fieldLink RX9 301 "BowWalkModel" "films" "I", .fieldLink RX9 517 "BowWalkModel" "time" "I", .fieldLink RX9 288 "BowWalkModel" "taped" "I", .fieldLink RX9 125 "BowWalkModel" "w" "I", .fieldLink RX9 42 "BowWalkModel" "unitsOf" "[I"]
def zw_m_about : List Cond := zo_m_about ++ (wsX90 ++ [])
theorem gz_m_about : zw_m_about.all goodWord = true := p1_ga (by decide +kernel) (p1_ga gk_X9 p1_g0)
theorem iz_m_about : ∀ w ∈ zw_m_about, w ∈ lw_tbl := p1_ia (p1_all [1688, 1048, 1080, 1049, 1050, 1051, 1052, 1112, 1113, 1039, 1102, 1055] (by decide +kernel)) (p1_ia ik_X9 p1_i0)
set_option maxHeartbeats 4000000 in
set_option maxRecDepth 100000 in
theorem m_about (l : Launch) (dC : Nat → ClassId) (dI : Nat → Nat → Nat) (sz : Nat) (mo : Nat) (ms : List Value) (kn : Nat) (co : Nat) (wa : Nat) (la : Nat) (wt : Nat) (un : Nat) (cK : ClassId) (kf : Nat → Int32) (cC : ClassId) (cf : Nat → Int32) (cW : ClassId) (wf : Nat → Int32) (cL : ClassId) (lf : Nat → Int32) (cT : ClassId) (tf : Nat → Int32) (cU : ClassId) (uf : Nat → Int32) (a1 : Int32) (f_ms_11 : ms[11]? = some (.ref kn)) (f_ms_12 : ms[12]? = some (.ref co)) (f_ms_13 : ms[13]? = some (.ref wa)) (f_ms_14 : ms[14]? = some (.ref la)) (f_ms_15 : ms[15]? = some (.ref wt)) (f_ms_18 : ms[18]? = some (.ref un)) (f_ms_43 : ms[43]? = some (.int 0)) (f_ms_75 : ms[75]? = some (.int 0)) (f_ms_76 : ms[76]? = some (.int 0)) (f_ms_2 : ms[2]? = some (.int 0)) (f_ms_65 : ms[65]? = some (.int 1)) (h_kf_0 : kf 0 = 0) (h_cf_0 : cf 0 = 0) (h_wf_0 : wf 0 = 0) (h_lf_0 : lf 0 = 0) (h_tf_0 : tf 0 = 0) (h_uf_0 : uf 0 = 0) : Met l yX9_about zw_m_about ({ frames := 0, cells := 0, slots := 0, locals := 0 }) (va_Pc [.ref mo, .int a1] (fun U => U.heap.size = sz ∧ va_P (dC, dI) vwCl [(mo, .inr (8, ms)), (kn, .inl (cK, 2, .inl kf)), (co, .inl (cC, 2, .inl cf)), (wa, .inl (cW, 2, .inl wf)), (la, .inl (cL, 2, .inl lf)), (wt, .inl (cT, 2, .inl tf)), (un, .inl (cU, 2, .inl uf))] U.heap ∧ va_K (dC, dI) vwCl [(cK, .int), (cC, .int), (cW, .int), (cL, .int), (cT, .int), (cU, .int)] U ∧ va_D (fun _ => True) [(mo, .inr (8, ms)), (kn, .inl (cK, 2, .inl kf)), (co, .inl (cC, 2, .inl cf)), (wa, .inl (cW, 2, .inl wf)), (la, .inl (cL, 2, .inl lf)), (wt, .inl (cT, 2, .inl tf)), (un, .inl (cU, 2, .inl uf))])) (va_Qi (fun (r : Int32) (_ : Unit) => r = p1_about a1) (fun _ t => va_P (dC, dI) vwCl [] t.heap ∧ va_K (dC, dI) vwCl [] t ∧ va_D (va_A [(mo, .inr (8, ms)), (kn, .inl (cK, 2, .inl kf)), (co, .inl (cC, 2, .inl cf)), (wa, .inl (cW, 2, .inl wf)), (la, .inl (cL, 2, .inl lf)), (wt, .inl (cT, 2, .inl tf)), (un, .inl (cU, 2, .inl uf))] sz) []) (va_A [(mo, .inr (8, ms)), (kn, .inl (cK, 2, .inl kf)), (co, .inl (cC, 2, .inl cf)), (wa, .inl (cW, 2, .inl wf)), (la, .inl (cL, 2, .inl lf)), (wt, .inl (cT, 2, .inl tf)), (un, .inl (cU, 2, .inl uf))] sz)) 0 0 (va_A [(mo, .inr (8, ms)), (kn, .inl (cK, 2, .inl kf)), (co, .inl (cC, 2, .inl cf)), (wa, .inl (cW, 2, .inl wf)), (la, .inl (cL, 2, .inl lf)), (wt, .inl (cT, 2, .inl tf)), (un, .inl (cU, 2, .inl uf))] sz) := by
  refine Met.ofW (cc := cX9_about) (maxL := 2) (ret := (some .int)) (by decide) rfl ?_
  intro p e s m args below meth c s₁ B hml hv
  obtain ⟨rfl, hsz, hP, hK, hD0⟩ := hv
  have hx := B.exec
  have hb := B.bytes
  have hr := B.returns
  have hts := atoms_spec (ws := zw_m_about) B.pre
  have hown : s.vm.findClass RX9 = some m.cls := findClass_of_methodNamed B.named
  have hlocks := B.notSynchronized
  subst hsz
  have hD := hD0.self (sz := s.heap.size)
  generalize hAe : va_A [(mo, .inr (8, ms)), (kn, .inl (cK, 2, .inl kf)), (co, .inl (cC, 2, .inl cf)), (wa, .inl (cW, 2, .inl wf)), (la, .inl (cL, 2, .inl lf)), (wt, .inl (cT, 2, .inl tf)), (un, .inl (cU, 2, .inl uf))] s.heap.size = A at hD ⊢
  have hA : ∀ q : Nat, s.heap.size ≤ q → A q := fun q h => by rw [← hAe]; exact Or.inr h
  have hS : va_S A s.heap s.heap [] := va_S.rf
  have hP : va_P (dC, dI) vwCl [(mo, .inr (8, ms)), (kn, .inl (cK, 2, .inl kf)), (co, .inl (cC, 2, .inl cf)), (wa, .inl (cW, 2, .inl wf)), (la, .inl (cL, 2, .inl lf)), (wt, .inl (cT, 2, .inl tf)), (un, .inl (cU, 2, .inl uf))] s.heap := hP
  have m_0 : (.fieldLink RX9 20 "BowWalkModel" "knots" "[I" : Cond) ∈ zw_m_about := List.mem_append_left _ (List.mem_of_getElem? (i := 1) rfl)
  have k_0 := hts _ m_0
  have m_1 : (.fieldLink RX9 291 "BowWalkModel" "bank" "I" : Cond) ∈ zw_m_about := List.mem_append_left _ (List.mem_of_getElem? (i := 2) rfl)
  have k_1 := hts _ m_1
  have m_2 : (.fieldLink RX9 24 "BowWalkModel" "cords" "[I" : Cond) ∈ zw_m_about := List.mem_append_left _ (List.mem_of_getElem? (i := 3) rfl)
  have k_2 := hts _ m_2
  have m_3 : (.fieldLink RX9 27 "BowWalkModel" "walks" "[I" : Cond) ∈ zw_m_about := List.mem_append_left _ (List.mem_of_getElem? (i := 4) rfl)
  have k_3 := hts _ m_3
  have m_4 : (.fieldLink RX9 30 "BowWalkModel" "laws" "[I" : Cond) ∈ zw_m_about := List.mem_append_left _ (List.mem_of_getElem? (i := 5) rfl)
  have k_4 := hts _ m_4
  have m_5 : (.fieldLink RX9 33 "BowWalkModel" "wants" "[I" : Cond) ∈ zw_m_about := List.mem_append_left _ (List.mem_of_getElem? (i := 6) rfl)
  have k_5 := hts _ m_5
  have m_6 : (.fieldLink RX9 301 "BowWalkModel" "films" "I" : Cond) ∈ zw_m_about := List.mem_append_left _ (List.mem_of_getElem? (i := 7) rfl)
  have k_6 := hts _ m_6
  have m_7 : (.fieldLink RX9 517 "BowWalkModel" "time" "I" : Cond) ∈ zw_m_about := List.mem_append_left _ (List.mem_of_getElem? (i := 8) rfl)
  have k_7 := hts _ m_7
  have m_8 : (.fieldLink RX9 288 "BowWalkModel" "taped" "I" : Cond) ∈ zw_m_about := List.mem_append_left _ (List.mem_of_getElem? (i := 9) rfl)
  have k_8 := hts _ m_8
  have m_9 : (.fieldLink RX9 125 "BowWalkModel" "w" "I" : Cond) ∈ zw_m_about := List.mem_append_left _ (List.mem_of_getElem? (i := 10) rfl)
  have k_9 := hts _ m_9
  have m_10 : (.fieldLink RX9 42 "BowWalkModel" "unitsOf" "[I" : Cond) ∈ zw_m_about := List.mem_append_left _ (List.mem_of_getElem? (i := 11) rfl)
  have k_10 := hts _ m_10
  have i_X9 : ∀ w ∈ u_ws RX9 TX9 81, w ∈ zw_m_about := fun w h => List.mem_append_right _ (List.mem_append_left _ h)
  have hl := lv_entry ([.ref mo, .int a1]) (n := 2) (Nat.le_of_ble_eq_true rfl)
  rw [lg_entry_eq]
  generalize (lg_sl ([.ref mo, .int a1]) ++ List.replicate (2 - (lg_sl ([.ref mo, .int a1])).length) Slot.unset).toArray = ls at hl ⊢
  have hl : lv_has ls 2 [(0, .ref mo), (1, .int a1)] := hl
  refine lv_iload_n hx hb dX9_about_0 rfl (lv_at hl 1 rfl) ?_
  rcases p1_sw9 a1 with rfl | rfl | rfl | rfl | rfl | rfl | rfl | rfl | rfl | rfl | hsw
  · refine lv_tableIn (tgt := 56) (off := 55) hx hb dX9_about_1 (by decide) (by decide) (by decide) (by decide) ?_
    refine lv_aload_n hx hb dX9_about_56 rfl (lv_at hl 0 rfl) ?_
    refine va_get (D := (dC, dI)) (ci := 8) (v := .ref kn) (C := RX9) (T := TX9) (N := 81) hx hb hts i_X9 hown hK hP 0 rfl rfl 11 (by decide) k_0 (fun _ h9 => h9) f_ms_11 dX9_about_57 ?_
    refine lv_aload_n hx hb dX9_about_60 rfl (lv_at hl 0 rfl) ?_
    refine va_get (D := (dC, dI)) (ci := 8) (v := .int 0) (C := RX9) (T := TX9) (N := 81) hx hb hts i_X9 hown hK hP 0 rfl rfl 43 (by decide) k_1 (fun _ h9 => h9) f_ms_43 dX9_about_61 ?_
    refine va_iald hx hb hK hP 1 0 rfl rfl (p1_in (i := 0) (n := 2) (by decide)) dX9_about_64 ?_
    refine lv_topi (fun v_1 ev_1 => ?_)
    obtain rfl : v_1 = 0 := ev_1.trans h_kf_0
    have hP9 := hP.sub (ws' := []) [] rfl
    have hD9 := hD.sub (ws' := []) [] (by decide) rfl
    have hK9 := hK.sub (tys' := []) [] rfl
    exact W.iret (v := 0) hx hb hr (fun t ht hW => ⟨⟨0, (), rfl, (by decide), by rw [ht]; exact hP9, va_K.moved hW.alike hK9, hD9⟩, hS.F ht⟩) hS.2.2 dX9_about_65
  · refine lv_tableIn (tgt := 66) (off := 65) hx hb dX9_about_1 (by decide) (by decide) (by decide) (by decide) ?_
    refine lv_aload_n hx hb dX9_about_66 rfl (lv_at hl 0 rfl) ?_
    refine va_get (D := (dC, dI)) (ci := 8) (v := .ref co) (C := RX9) (T := TX9) (N := 81) hx hb hts i_X9 hown hK hP 0 rfl rfl 12 (by decide) k_2 (fun _ h9 => h9) f_ms_12 dX9_about_67 ?_
    refine lv_aload_n hx hb dX9_about_70 rfl (lv_at hl 0 rfl) ?_
    refine va_get (D := (dC, dI)) (ci := 8) (v := .int 0) (C := RX9) (T := TX9) (N := 81) hx hb hts i_X9 hown hK hP 0 rfl rfl 43 (by decide) k_1 (fun _ h9 => h9) f_ms_43 dX9_about_71 ?_
    refine va_iald hx hb hK hP 2 1 rfl rfl (p1_in (i := 0) (n := 2) (by decide)) dX9_about_74 ?_
    refine lv_topi (fun v_2 ev_2 => ?_)
    obtain rfl : v_2 = 0 := ev_2.trans h_cf_0
    have hP9 := hP.sub (ws' := []) [] rfl
    have hD9 := hD.sub (ws' := []) [] (by decide) rfl
    have hK9 := hK.sub (tys' := []) [] rfl
    exact W.iret (v := 0) hx hb hr (fun t ht hW => ⟨⟨0, (), rfl, (by decide), by rw [ht]; exact hP9, va_K.moved hW.alike hK9, hD9⟩, hS.F ht⟩) hS.2.2 dX9_about_75
  · refine lv_tableIn (tgt := 76) (off := 75) hx hb dX9_about_1 (by decide) (by decide) (by decide) (by decide) ?_
    refine lv_aload_n hx hb dX9_about_76 rfl (lv_at hl 0 rfl) ?_
    refine va_get (D := (dC, dI)) (ci := 8) (v := .ref wa) (C := RX9) (T := TX9) (N := 81) hx hb hts i_X9 hown hK hP 0 rfl rfl 13 (by decide) k_3 (fun _ h9 => h9) f_ms_13 dX9_about_77 ?_
    refine lv_aload_n hx hb dX9_about_80 rfl (lv_at hl 0 rfl) ?_
    refine va_get (D := (dC, dI)) (ci := 8) (v := .int 0) (C := RX9) (T := TX9) (N := 81) hx hb hts i_X9 hown hK hP 0 rfl rfl 43 (by decide) k_1 (fun _ h9 => h9) f_ms_43 dX9_about_81 ?_
    refine va_iald hx hb hK hP 3 2 rfl rfl (p1_in (i := 0) (n := 2) (by decide)) dX9_about_84 ?_
    refine lv_topi (fun v_3 ev_3 => ?_)
    obtain rfl : v_3 = 0 := ev_3.trans h_wf_0
    have hP9 := hP.sub (ws' := []) [] rfl
    have hD9 := hD.sub (ws' := []) [] (by decide) rfl
    have hK9 := hK.sub (tys' := []) [] rfl
    exact W.iret (v := 0) hx hb hr (fun t ht hW => ⟨⟨0, (), rfl, (by decide), by rw [ht]; exact hP9, va_K.moved hW.alike hK9, hD9⟩, hS.F ht⟩) hS.2.2 dX9_about_85
  · refine lv_tableIn (tgt := 86) (off := 85) hx hb dX9_about_1 (by decide) (by decide) (by decide) (by decide) ?_
    refine lv_aload_n hx hb dX9_about_86 rfl (lv_at hl 0 rfl) ?_
    refine va_get (D := (dC, dI)) (ci := 8) (v := .ref la) (C := RX9) (T := TX9) (N := 81) hx hb hts i_X9 hown hK hP 0 rfl rfl 14 (by decide) k_4 (fun _ h9 => h9) f_ms_14 dX9_about_87 ?_
    refine lv_aload_n hx hb dX9_about_90 rfl (lv_at hl 0 rfl) ?_
    refine va_get (D := (dC, dI)) (ci := 8) (v := .int 0) (C := RX9) (T := TX9) (N := 81) hx hb hts i_X9 hown hK hP 0 rfl rfl 43 (by decide) k_1 (fun _ h9 => h9) f_ms_43 dX9_about_91 ?_
    refine va_iald hx hb hK hP 4 3 rfl rfl (p1_in (i := 0) (n := 2) (by decide)) dX9_about_94 ?_
    refine lv_topi (fun v_4 ev_4 => ?_)
    obtain rfl : v_4 = 0 := ev_4.trans h_lf_0
    have hP9 := hP.sub (ws' := []) [] rfl
    have hD9 := hD.sub (ws' := []) [] (by decide) rfl
    have hK9 := hK.sub (tys' := []) [] rfl
    exact W.iret (v := 0) hx hb hr (fun t ht hW => ⟨⟨0, (), rfl, (by decide), by rw [ht]; exact hP9, va_K.moved hW.alike hK9, hD9⟩, hS.F ht⟩) hS.2.2 dX9_about_95
  · refine lv_tableIn (tgt := 96) (off := 95) hx hb dX9_about_1 (by decide) (by decide) (by decide) (by decide) ?_
    refine lv_aload_n hx hb dX9_about_96 rfl (lv_at hl 0 rfl) ?_
    refine va_get (D := (dC, dI)) (ci := 8) (v := .ref wt) (C := RX9) (T := TX9) (N := 81) hx hb hts i_X9 hown hK hP 0 rfl rfl 15 (by decide) k_5 (fun _ h9 => h9) f_ms_15 dX9_about_97 ?_
    refine lv_aload_n hx hb dX9_about_100 rfl (lv_at hl 0 rfl) ?_
    refine va_get (D := (dC, dI)) (ci := 8) (v := .int 0) (C := RX9) (T := TX9) (N := 81) hx hb hts i_X9 hown hK hP 0 rfl rfl 43 (by decide) k_1 (fun _ h9 => h9) f_ms_43 dX9_about_101 ?_
    refine va_iald hx hb hK hP 5 4 rfl rfl (p1_in (i := 0) (n := 2) (by decide)) dX9_about_104 ?_
    refine lv_topi (fun v_5 ev_5 => ?_)
    obtain rfl : v_5 = 0 := ev_5.trans h_tf_0
    have hP9 := hP.sub (ws' := []) [] rfl
    have hD9 := hD.sub (ws' := []) [] (by decide) rfl
    have hK9 := hK.sub (tys' := []) [] rfl
    exact W.iret (v := 0) hx hb hr (fun t ht hW => ⟨⟨0, (), rfl, (by decide), by rw [ht]; exact hP9, va_K.moved hW.alike hK9, hD9⟩, hS.F ht⟩) hS.2.2 dX9_about_105
  · refine lv_tableIn (tgt := 106) (off := 105) hx hb dX9_about_1 (by decide) (by decide) (by decide) (by decide) ?_
    refine lv_aload_n hx hb dX9_about_106 rfl (lv_at hl 0 rfl) ?_
    refine va_get (D := (dC, dI)) (ci := 8) (v := .int 0) (C := RX9) (T := TX9) (N := 81) hx hb hts i_X9 hown hK hP 0 rfl rfl 75 (by decide) k_6 (fun _ h9 => h9) f_ms_75 dX9_about_107 ?_
    have hP9 := hP.sub (ws' := []) [] rfl
    have hD9 := hD.sub (ws' := []) [] (by decide) rfl
    have hK9 := hK.sub (tys' := []) [] rfl
    exact W.iret (v := 0) hx hb hr (fun t ht hW => ⟨⟨0, (), rfl, (by decide), by rw [ht]; exact hP9, va_K.moved hW.alike hK9, hD9⟩, hS.F ht⟩) hS.2.2 dX9_about_110
  · refine lv_tableIn (tgt := 111) (off := 110) hx hb dX9_about_1 (by decide) (by decide) (by decide) (by decide) ?_
    refine lv_aload_n hx hb dX9_about_111 rfl (lv_at hl 0 rfl) ?_
    refine va_get (D := (dC, dI)) (ci := 8) (v := .int 0) (C := RX9) (T := TX9) (N := 81) hx hb hts i_X9 hown hK hP 0 rfl rfl 76 (by decide) k_7 (fun _ h9 => h9) f_ms_76 dX9_about_112 ?_
    have hP9 := hP.sub (ws' := []) [] rfl
    have hD9 := hD.sub (ws' := []) [] (by decide) rfl
    have hK9 := hK.sub (tys' := []) [] rfl
    exact W.iret (v := 0) hx hb hr (fun t ht hW => ⟨⟨0, (), rfl, (by decide), by rw [ht]; exact hP9, va_K.moved hW.alike hK9, hD9⟩, hS.F ht⟩) hS.2.2 dX9_about_115
  · refine lv_tableIn (tgt := 116) (off := 115) hx hb dX9_about_1 (by decide) (by decide) (by decide) (by decide) ?_
    refine lv_aload_n hx hb dX9_about_116 rfl (lv_at hl 0 rfl) ?_
    refine va_get (D := (dC, dI)) (ci := 8) (v := .int 0) (C := RX9) (T := TX9) (N := 81) hx hb hts i_X9 hown hK hP 0 rfl rfl 2 (by decide) k_8 (fun _ h9 => h9) f_ms_2 dX9_about_117 ?_
    have hP9 := hP.sub (ws' := []) [] rfl
    have hD9 := hD.sub (ws' := []) [] (by decide) rfl
    have hK9 := hK.sub (tys' := []) [] rfl
    exact W.iret (v := 0) hx hb hr (fun t ht hW => ⟨⟨0, (), rfl, (by decide), by rw [ht]; exact hP9, va_K.moved hW.alike hK9, hD9⟩, hS.F ht⟩) hS.2.2 dX9_about_120
  · refine lv_tableIn (tgt := 121) (off := 120) hx hb dX9_about_1 (by decide) (by decide) (by decide) (by decide) ?_
    refine lv_aload_n hx hb dX9_about_121 rfl (lv_at hl 0 rfl) ?_
    refine va_get (D := (dC, dI)) (ci := 8) (v := .int 1) (C := RX9) (T := TX9) (N := 81) hx hb hts i_X9 hown hK hP 0 rfl rfl 65 (by decide) k_9 (fun _ h9 => h9) f_ms_65 dX9_about_122 ?_
    have hP9 := hP.sub (ws' := []) [] rfl
    have hD9 := hD.sub (ws' := []) [] (by decide) rfl
    have hK9 := hK.sub (tys' := []) [] rfl
    exact W.iret (v := 1) hx hb hr (fun t ht hW => ⟨⟨1, (), rfl, (by decide), by rw [ht]; exact hP9, va_K.moved hW.alike hK9, hD9⟩, hS.F ht⟩) hS.2.2 dX9_about_125
  · refine lv_tableIn (tgt := 126) (off := 125) hx hb dX9_about_1 (by decide) (by decide) (by decide) (by decide) ?_
    refine lv_aload_n hx hb dX9_about_126 rfl (lv_at hl 0 rfl) ?_
    refine va_get (D := (dC, dI)) (ci := 8) (v := .ref un) (C := RX9) (T := TX9) (N := 81) hx hb hts i_X9 hown hK hP 0 rfl rfl 18 (by decide) k_10 (fun _ h9 => h9) f_ms_18 dX9_about_127 ?_
    refine lv_aload_n hx hb dX9_about_130 rfl (lv_at hl 0 rfl) ?_
    refine va_get (D := (dC, dI)) (ci := 8) (v := .int 0) (C := RX9) (T := TX9) (N := 81) hx hb hts i_X9 hown hK hP 0 rfl rfl 43 (by decide) k_1 (fun _ h9 => h9) f_ms_43 dX9_about_131 ?_
    refine va_iald hx hb hK hP 6 5 rfl rfl (p1_in (i := 0) (n := 2) (by decide)) dX9_about_134 ?_
    refine lv_topi (fun v_6 ev_6 => ?_)
    obtain rfl : v_6 = 0 := ev_6.trans h_uf_0
    have hP9 := hP.sub (ws' := []) [] rfl
    have hD9 := hD.sub (ws' := []) [] (by decide) rfl
    have hK9 := hK.sub (tys' := []) [] rfl
    exact W.iret (v := 0) hx hb hr (fun t ht hW => ⟨⟨0, (), rfl, (by decide), by rw [ht]; exact hP9, va_K.moved hW.alike hK9, hD9⟩, hS.F ht⟩) hS.2.2 dX9_about_135
  · refine lv_tableOut (tgt := 136) hx hb dX9_about_1 hsw (by decide) ?_
    refine lv_iconst (v := (-1)) hx hb dX9_about_136 (by decide) ?_
    have hP9 := hP.sub (ws' := []) [] rfl
    have hD9 := hD.sub (ws' := []) [] (by decide) rfl
    have hK9 := hK.sub (tys' := []) [] rfl
    exact W.iret (v := (-1)) hx hb hr (fun t ht hW => ⟨⟨(-1), (), rfl, p1_about_out hsw, by rw [ht]; exact hP9, va_K.moved hW.alike hK9, hD9⟩, hS.F ht⟩) hS.2.2 dX9_about_137
def zo_m_back : List Cond := [.code yX9_back cX9_back 2 (some .int), .methodLink RX9 389 yX9_isIn, .static yX9_isIn, .initialized RX9, .fieldLink RX9 158 "BowWalkModel" "boxMany" "[I"]
def zw_m_back : List Cond := zo_m_back ++ (zw_c_isIn ++ (wsX90 ++ []))
theorem gz_m_back : zw_m_back.all goodWord = true := p1_ga (by decide +kernel) (p1_ga gz_c_isIn (p1_ga gk_X9 p1_g0))
theorem iz_m_back : ∀ w ∈ zw_m_back, w ∈ lw_tbl := p1_ia (p1_all [1684, 1439, 1440, 116, 1115] (by decide +kernel)) (p1_ia iz_c_isIn (p1_ia ik_X9 p1_i0))
set_option maxHeartbeats 4000000 in
set_option maxRecDepth 100000 in
theorem m_back (l : Launch) (dC : Nat → ClassId) (dI : Nat → Nat → Nat) (sz : Nat) (mo : Nat) (ms : List Value) (bm : Nat) (cB : ClassId) (bmf : Nat → Int32) (a1 : Int32) (f_ms_78 : ms[78]? = some (.ref bm)) (h_bmf_0 : bmf 0 = (-1)) (h_bmf_1 : bmf 1 = (-1)) (h_bmf_2 : bmf 2 = (-1)) (h_bmf_3 : bmf 3 = (-1)) : Met l yX9_back zw_m_back ({ frames := 1, cells := 0, slots := 0, locals := 22 }) (va_Pc [.ref mo, .int a1] (fun U => U.heap.size = sz ∧ va_P (dC, dI) vwCl [(mo, .inr (8, ms)), (bm, .inl (cB, 4, .inl bmf))] U.heap ∧ va_K (dC, dI) vwCl [(cB, .int)] U ∧ va_D (fun _ => True) [(mo, .inr (8, ms)), (bm, .inl (cB, 4, .inl bmf))])) (va_Qi (fun (r : Int32) (_ : Unit) => r = (-1)) (fun _ t => va_P (dC, dI) vwCl [] t.heap ∧ va_K (dC, dI) vwCl [] t ∧ va_D (va_A [(mo, .inr (8, ms)), (bm, .inl (cB, 4, .inl bmf))] sz) []) (va_A [(mo, .inr (8, ms)), (bm, .inl (cB, 4, .inl bmf))] sz)) 0 0 (va_A [(mo, .inr (8, ms)), (bm, .inl (cB, 4, .inl bmf))] sz) := by
  refine Met.ofW (cc := cX9_back) (maxL := 2) (ret := (some .int)) (by decide) rfl ?_
  intro p e s m args below meth c s₁ B hml hv
  obtain ⟨rfl, hsz, hP, hK, hD0⟩ := hv
  have hx := B.exec
  have hb := B.bytes
  have hr := B.returns
  have hts := atoms_spec (ws := zw_m_back) B.pre
  have hown : s.vm.findClass RX9 = some m.cls := findClass_of_methodNamed B.named
  have hlocks := B.notSynchronized
  subst hsz
  have hD := hD0.self (sz := s.heap.size)
  generalize hAe : va_A [(mo, .inr (8, ms)), (bm, .inl (cB, 4, .inl bmf))] s.heap.size = A at hD ⊢
  have hA : ∀ q : Nat, s.heap.size ≤ q → A q := fun q h => by rw [← hAe]; exact Or.inr h
  have hS : va_S A s.heap s.heap [] := va_S.rf
  have hP : va_P (dC, dI) vwCl [(mo, .inr (8, ms)), (bm, .inl (cB, 4, .inl bmf))] s.heap := hP
  have m_0 : (.methodLink RX9 389 yX9_isIn : Cond) ∈ zw_m_back := List.mem_append_left _ (List.mem_of_getElem? (i := 1) rfl)
  have k_0 := hts _ m_0
  have m_1 : (.static yX9_isIn : Cond) ∈ zw_m_back := List.mem_append_left _ (List.mem_of_getElem? (i := 2) rfl)
  have k_1 := hts _ m_1
  have m_2 : (.initialized RX9 : Cond) ∈ zw_m_back := List.mem_append_left _ (List.mem_of_getElem? (i := 3) rfl)
  have k_2 := hts _ m_2
  have m_3 : (.fieldLink RX9 158 "BowWalkModel" "boxMany" "[I" : Cond) ∈ zw_m_back := List.mem_append_left _ (List.mem_of_getElem? (i := 4) rfl)
  have k_3 := hts _ m_3
  have g_c_isIn : ∀ w ∈ zw_c_isIn, w ∈ zw_m_back := fun w h => List.mem_append_right _ (List.mem_append_left _ h)
  have i_X9 : ∀ w ∈ u_ws RX9 TX9 81, w ∈ zw_m_back := fun w h => List.mem_append_right _ (List.mem_append_right _ (List.mem_append_left _ h))
  have hl := lv_entry ([.ref mo, .int a1]) (n := 2) (Nat.le_of_ble_eq_true rfl)
  rw [lg_entry_eq]
  generalize (lg_sl ([.ref mo, .int a1]) ++ List.replicate (2 - (lg_sl ([.ref mo, .int a1])).length) Slot.unset).toArray = ls at hl ⊢
  have hl : lv_has ls 2 [(0, .ref mo), (1, .int a1)] := hl
  refine lv_iload_n hx hb dX9_back_0 rfl (lv_at hl 1 rfl) ?_
  refine lv_iconst (v := 0) hx hb dX9_back_1 (by decide) ?_
  refine lv_iconst (v := 2) hx hb dX9_back_2 (by decide) ?_
  have hPc := hP.sub (ws' := []) [] rfl
  have hDc := hD.sub (ws' := []) [] (by decide) rfl
  have hKc := hK.sub (tys' := []) [] rfl
  have hFc := va_free (wc := []) hD hS hA [] rfl
  refine va_calli (va_runS (As := [.int a1, .int 0, .int 2]) (rest := []) ⟨hx, hb, hml, hown, hts⟩ (c_isIn l dC dI s.heap.size a1 0 2) (va_cwS 3 hts (p1_gS m_0 m_1 m_2 g_c_isIn gz_c_isIn) rfl rfl rfl (by decide +kernel) ⟨by decide, by decide⟩) ⟨fun a U g mk q => by obtain ⟨q0, q1, qP, qK, qD⟩ := q; exact ⟨q0, q1, qP, va_K.moved (u := U) (U := U.calling g mk a) (Vm.Alike.refl U.vm) qK, qD⟩, fun U hU hW => ⟨rfl, by rw [hU], by rw [hU]; exact hPc, va_K.moved hW.alike hKc, hDc.weaken (fun _ _ _ _ => trivial)⟩⟩ rfl rfl hl.1 rfl (lv_room (Nat.le_of_ble_eq_true rfl)) dX9_back_3 ⟨by decide, by decide⟩) hS (fun q _ h => hFc q h) hFc (fun r_1 u t H1 locs ht hvm hw hB hz1 hk1 hS => ?_)
  obtain ⟨hP1, hK1, hD1⟩ := hB
  rw [ht] at hP1
  obtain ⟨hP, hD⟩ := va_join (wr := [(mo, .inr (8, ms)), (bm, .inl (cB, 4, .inl bmf))]) (w1 := []) hP hD [] [0, 1] rfl rfl (by decide) (by decide) hk1 hFc hP1 hD1
  generalize H1 = H at hP hS ⊢
  have hP : va_P (dC, dI) vwCl [(mo, .inr (8, ms)), (bm, .inl (cB, 4, .inl bmf))] H := hP
  have hD : va_D A [(mo, .inr (8, ms)), (bm, .inl (cB, 4, .inl bmf))] := hD
  try dsimp only at hw
  rcases hw with ⟨rfl, hw_2⟩ | ⟨rfl, hw_2⟩
  · refine lv_if_eq (tgt := 18) hx hb dX9_back_6 (by decide) (fun c9 => absurd c9 (by decide)) (fun _ => ?_)
    rcases p1_012 hw_2 with rfl | rfl | rfl
    · refine lv_aload_n hx hb dX9_back_9 rfl (lv_at hl 0 rfl) ?_
      refine va_get (D := (dC, dI)) (ci := 8) (v := .ref bm) (C := RX9) (T := TX9) (N := 81) hx hb hts i_X9 hown hK hP 0 rfl rfl 78 (by decide) k_3 (fun _ h9 => h9) f_ms_78 dX9_back_10 ?_
      refine lv_iload_n hx hb dX9_back_13 rfl (lv_at hl 1 rfl) ?_
      refine va_iald hx hb hK hP 1 0 rfl rfl (p1_in (i := 0) (n := 4) (by decide)) dX9_back_14 ?_
      refine lv_topi (fun v_3 ev_3 => ?_)
      obtain rfl : v_3 = (-1) := ev_3.trans h_bmf_0
      refine lv_if_ge (tgt := 20) hx hb dX9_back_15 (by decide) (fun c9 => absurd c9 (by decide)) (fun _ => ?_)
      refine lv_iconst (v := (-1)) hx hb dX9_back_18 (by decide) ?_
      have hP9 := hP.sub (ws' := []) [] rfl
      have hD9 := hD.sub (ws' := []) [] (by decide) rfl
      have hK9 := hK.sub (tys' := []) [] rfl
      exact W.iret (v := (-1)) hx hb hr (fun t ht hW => ⟨⟨(-1), (), rfl, rfl, by rw [ht]; exact hP9, va_K.moved hW.alike hK9, hD9⟩, hS.F ht⟩) hS.2.2 dX9_back_19
    · refine lv_aload_n hx hb dX9_back_9 rfl (lv_at hl 0 rfl) ?_
      refine va_get (D := (dC, dI)) (ci := 8) (v := .ref bm) (C := RX9) (T := TX9) (N := 81) hx hb hts i_X9 hown hK hP 0 rfl rfl 78 (by decide) k_3 (fun _ h9 => h9) f_ms_78 dX9_back_10 ?_
      refine lv_iload_n hx hb dX9_back_13 rfl (lv_at hl 1 rfl) ?_
      refine va_iald hx hb hK hP 1 0 rfl rfl (p1_in (i := 1) (n := 4) (by decide)) dX9_back_14 ?_
      refine lv_topi (fun v_4 ev_4 => ?_)
      obtain rfl : v_4 = (-1) := ev_4.trans h_bmf_1
      refine lv_if_ge (tgt := 20) hx hb dX9_back_15 (by decide) (fun c9 => absurd c9 (by decide)) (fun _ => ?_)
      refine lv_iconst (v := (-1)) hx hb dX9_back_18 (by decide) ?_
      have hP9 := hP.sub (ws' := []) [] rfl
      have hD9 := hD.sub (ws' := []) [] (by decide) rfl
      have hK9 := hK.sub (tys' := []) [] rfl
      exact W.iret (v := (-1)) hx hb hr (fun t ht hW => ⟨⟨(-1), (), rfl, rfl, by rw [ht]; exact hP9, va_K.moved hW.alike hK9, hD9⟩, hS.F ht⟩) hS.2.2 dX9_back_19
    · refine lv_aload_n hx hb dX9_back_9 rfl (lv_at hl 0 rfl) ?_
      refine va_get (D := (dC, dI)) (ci := 8) (v := .ref bm) (C := RX9) (T := TX9) (N := 81) hx hb hts i_X9 hown hK hP 0 rfl rfl 78 (by decide) k_3 (fun _ h9 => h9) f_ms_78 dX9_back_10 ?_
      refine lv_iload_n hx hb dX9_back_13 rfl (lv_at hl 1 rfl) ?_
      refine va_iald hx hb hK hP 1 0 rfl rfl (p1_in (i := 2) (n := 4) (by decide)) dX9_back_14 ?_
      refine lv_topi (fun v_5 ev_5 => ?_)
      obtain rfl : v_5 = (-1) := ev_5.trans h_bmf_2
      refine lv_if_ge (tgt := 20) hx hb dX9_back_15 (by decide) (fun c9 => absurd c9 (by decide)) (fun _ => ?_)
      refine lv_iconst (v := (-1)) hx hb dX9_back_18 (by decide) ?_
      have hP9 := hP.sub (ws' := []) [] rfl
      have hD9 := hD.sub (ws' := []) [] (by decide) rfl
      have hK9 := hK.sub (tys' := []) [] rfl
      exact W.iret (v := (-1)) hx hb hr (fun t ht hW => ⟨⟨(-1), (), rfl, rfl, by rw [ht]; exact hP9, va_K.moved hW.alike hK9, hD9⟩, hS.F ht⟩) hS.2.2 dX9_back_19
  · refine lv_if_eq (tgt := 18) hx hb dX9_back_6 (by decide) (fun _ => ?_) (fun c9 => absurd c9 (by decide))
    refine lv_iconst (v := (-1)) hx hb dX9_back_18 (by decide) ?_
    have hP9 := hP.sub (ws' := []) [] rfl
    have hD9 := hD.sub (ws' := []) [] (by decide) rfl
    have hK9 := hK.sub (tys' := []) [] rfl
    exact W.iret (v := (-1)) hx hb hr (fun t ht hW => ⟨⟨(-1), (), rfl, rfl, by rw [ht]; exact hP9, va_K.moved hW.alike hK9, hD9⟩, hS.F ht⟩) hS.2.2 dX9_back_19
def zo_m_fits : List Cond := [.code yX9_fits cX9_fits 5 (some .int), .methodLink RX9 524 yX9_lawMany, .instanceMethod yX9_lawMany, .selects RX9 yX9_lawMany yX9_lawMany, .initialized RX9, .fieldLink RX9 24 "BowWalkModel" "cords" "[I", .fieldLink RX9 291 "BowWalkModel" "bank" "I"]
def zw_m_fits : List Cond := zo_m_fits ++ (zw_c_lawMany ++ (wsX90 ++ []))
theorem gz_m_fits : zw_m_fits.all goodWord = true := p1_ga (by decide +kernel) (p1_ga gz_c_lawMany (p1_ga gk_X9 p1_g0))
theorem iz_m_fits : ∀ w ∈ zw_m_fits, w ∈ lw_tbl := p1_ia (p1_all [1647, 1648, 1650, 99, 116, 1049, 1080] (by decide +kernel)) (p1_ia iz_c_lawMany (p1_ia ik_X9 p1_i0))
set_option maxHeartbeats 4000000 in
set_option maxRecDepth 100000 in
theorem m_fits (l : Launch) (dC : Nat → ClassId) (dI : Nat → Nat → Nat) (sz : Nat) (mo : Nat) (ms : List Value) (la : Nat) (co : Nat) (cL : ClassId) (lf : Nat → Int32) (cC : ClassId) (cf : Nat → Int32) (a1 : Int32) (f_ms_14 : ms[14]? = some (.ref la)) (f_ms_12 : ms[12]? = some (.ref co)) (f_ms_43 : ms[43]? = some (.int 0)) (h_lf_0 : lf 0 = 0) (h_cf_0 : cf 0 = 0) : Met l yX9_fits zw_m_fits ({ frames := 1, cells := 0, slots := 0, locals := 20 }) (va_Pc [.ref mo, .int a1] (fun U => U.heap.size = sz ∧ va_P (dC, dI) vwCl [(mo, .inr (8, ms)), (la, .inl (cL, 2, .inl lf)), (co, .inl (cC, 2, .inl cf))] U.heap ∧ va_K (dC, dI) vwCl [(cL, .int), (cC, .int)] U ∧ va_D (fun _ => True) [(mo, .inr (8, ms)), (la, .inl (cL, 2, .inl lf)), (co, .inl (cC, 2, .inl cf))])) (va_Qi (fun (r : Int32) (_ : Unit) => r = 0) (fun _ t => va_P (dC, dI) vwCl [] t.heap ∧ va_K (dC, dI) vwCl [] t ∧ va_D (va_A [(mo, .inr (8, ms)), (la, .inl (cL, 2, .inl lf)), (co, .inl (cC, 2, .inl cf))] sz) []) (va_A [(mo, .inr (8, ms)), (la, .inl (cL, 2, .inl lf)), (co, .inl (cC, 2, .inl cf))] sz)) 0 0 (va_A [(mo, .inr (8, ms)), (la, .inl (cL, 2, .inl lf)), (co, .inl (cC, 2, .inl cf))] sz) := by
  refine Met.ofW (cc := cX9_fits) (maxL := 5) (ret := (some .int)) (by decide) rfl ?_
  intro p e s m args below meth c s₁ B hml hv
  obtain ⟨rfl, hsz, hP, hK, hD0⟩ := hv
  have hx := B.exec
  have hb := B.bytes
  have hr := B.returns
  have hts := atoms_spec (ws := zw_m_fits) B.pre
  have hown : s.vm.findClass RX9 = some m.cls := findClass_of_methodNamed B.named
  have hlocks := B.notSynchronized
  subst hsz
  have hD := hD0.self (sz := s.heap.size)
  generalize hAe : va_A [(mo, .inr (8, ms)), (la, .inl (cL, 2, .inl lf)), (co, .inl (cC, 2, .inl cf))] s.heap.size = A at hD ⊢
  have hA : ∀ q : Nat, s.heap.size ≤ q → A q := fun q h => by rw [← hAe]; exact Or.inr h
  have hS : va_S A s.heap s.heap [] := va_S.rf
  have hP : va_P (dC, dI) vwCl [(mo, .inr (8, ms)), (la, .inl (cL, 2, .inl lf)), (co, .inl (cC, 2, .inl cf))] s.heap := hP
  have m_0 : (.methodLink RX9 524 yX9_lawMany : Cond) ∈ zw_m_fits := List.mem_append_left _ (List.mem_of_getElem? (i := 1) rfl)
  have k_0 := hts _ m_0
  have m_1 : (.instanceMethod yX9_lawMany : Cond) ∈ zw_m_fits := List.mem_append_left _ (List.mem_of_getElem? (i := 2) rfl)
  have k_1 := hts _ m_1
  have m_2 : (.selects RX9 yX9_lawMany yX9_lawMany : Cond) ∈ zw_m_fits := List.mem_append_left _ (List.mem_of_getElem? (i := 3) rfl)
  have k_2 := hts _ m_2
  have m_3 : (.initialized RX9 : Cond) ∈ zw_m_fits := List.mem_append_left _ (List.mem_of_getElem? (i := 4) rfl)
  have k_3 := hts _ m_3
  have m_4 : (.fieldLink RX9 24 "BowWalkModel" "cords" "[I" : Cond) ∈ zw_m_fits := List.mem_append_left _ (List.mem_of_getElem? (i := 5) rfl)
  have k_4 := hts _ m_4
  have m_5 : (.fieldLink RX9 291 "BowWalkModel" "bank" "I" : Cond) ∈ zw_m_fits := List.mem_append_left _ (List.mem_of_getElem? (i := 6) rfl)
  have k_5 := hts _ m_5
  have g_c_lawMany : ∀ w ∈ zw_c_lawMany, w ∈ zw_m_fits := fun w h => List.mem_append_right _ (List.mem_append_left _ h)
  have i_X9 : ∀ w ∈ u_ws RX9 TX9 81, w ∈ zw_m_fits := fun w h => List.mem_append_right _ (List.mem_append_right _ (List.mem_append_left _ h))
  have hl := lv_entry ([.ref mo, .int a1]) (n := 5) (Nat.le_of_ble_eq_true rfl)
  rw [lg_entry_eq]
  generalize (lg_sl ([.ref mo, .int a1]) ++ List.replicate (5 - (lg_sl ([.ref mo, .int a1])).length) Slot.unset).toArray = ls at hl ⊢
  have hl : lv_has ls 5 [(0, .ref mo), (1, .int a1)] := hl
  refine lv_iconst (v := 0) hx hb dX9_fits_0 (by decide) ?_
  refine lv_istore_n (lv' := [(2, .int 0), (0, .ref mo), (1, .int a1)]) hx hb dX9_fits_1 rfl hl (by decide) rfl (fun ls hl => ?_)
  refine lv_iconst (v := 0) hx hb dX9_fits_2 (by decide) ?_
  refine lv_istore_n (lv' := [(3, .int 0), (2, .int 0), (0, .ref mo), (1, .int a1)]) hx hb dX9_fits_3 rfl hl (by decide) rfl (fun ls hl => ?_)
  refine lv_iload_n hx hb dX9_fits_4 rfl (lv_at hl 0 rfl) ?_
  refine lv_aload_n hx hb dX9_fits_5 rfl (lv_at hl 2 rfl) ?_
  have hPc := hP.sub (ws' := [(mo, .inr (8, ms)), (la, .inl (cL, 2, .inl lf))]) [0, 1] rfl
  have hDc := hD.sub (ws' := [(mo, .inr (8, ms)), (la, .inl (cL, 2, .inl lf))]) [0, 1] (by decide) rfl
  have hKc := hK.sub (tys' := [(cL, .int)]) [0] rfl
  have hFc := va_free (wc := [(mo, .inr (8, ms)), (la, .inl (cL, 2, .inl lf))]) hD hS hA [0, 1] rfl
  refine va_calli (va_runV (As := []) (rest := [.int 0]) ⟨hx, hb, hml, hown, hts⟩ (c_lawMany l dC dI s.heap.size mo ms la cL lf f_ms_14 f_ms_43 h_lf_0) (cwV 0 hts (p1_gV m_0 m_1 m_2 m_3 g_c_lawMany gz_c_lawMany) rfl rfl rfl (by decide +kernel) ⟨by decide, by decide⟩) ⟨fun a U g mk q => by obtain ⟨q0, q1, qP, qK, qD⟩ := q; exact ⟨q0, q1, qP, va_K.moved (u := U) (U := U.calling g mk a) (Vm.Alike.refl U.vm) qK, qD⟩, va_recv hKc hPc (ci := 8) (q0 := 0) rfl rfl, fun U hU hW => ⟨rfl, by rw [hU], by rw [hU]; exact hPc, va_K.moved hW.alike hKc, hDc.weaken (fun _ _ _ _ => trivial)⟩⟩ rfl rfl hl.1 rfl (lv_room (Nat.le_of_ble_eq_true rfl)) dX9_fits_6 ⟨by decide, by decide⟩) hS (fun q _ h => hFc q h) hFc (fun r_1 u t H1 locs ht hvm hw hB hz1 hk1 hS => ?_)
  obtain ⟨hP1, hK1, hD1⟩ := hB
  rw [ht] at hP1
  obtain ⟨hP, hD⟩ := va_join (wr := [(co, .inl (cC, 2, .inl cf))]) (w1 := [(mo, .inr (8, ms)), (la, .inl (cL, 2, .inl lf))]) hP hD [0, 1] [2] rfl rfl (by decide) (by decide) hk1 hFc hP1 hD1
  generalize H1 = H at hP hS ⊢
  have hP : va_P (dC, dI) vwCl [(co, .inl (cC, 2, .inl cf)), (mo, .inr (8, ms)), (la, .inl (cL, 2, .inl lf))] H := hP
  have hD : va_D A [(co, .inl (cC, 2, .inl cf)), (mo, .inr (8, ms)), (la, .inl (cL, 2, .inl lf))] := hD
  try dsimp only at hw
  obtain rfl : r_1 = 1 := hw
  refine lv_icmp_ge (tgt := 67) hx hb dX9_fits_9 (by decide) (fun c9 => absurd c9 (by decide)) (fun _ => ?_)
  refine lv_iconst (v := 0) hx hb dX9_fits_12 (by decide) ?_
  refine lv_istore (lv' := [(4, .int 0), (3, .int 0), (2, .int 0), (0, .ref mo), (1, .int a1)]) hx hb dX9_fits_13 hl (by decide) rfl (fun ls hl => ?_)
  refine lv_iload hx hb dX9_fits_15 (lv_at hl 0 rfl) ?_
  refine lv_aload_n hx hb dX9_fits_17 rfl (lv_at hl 3 rfl) ?_
  refine va_get (D := (dC, dI)) (ci := 8) (v := .ref co) (C := RX9) (T := TX9) (N := 81) hx hb hts i_X9 hown hK hP 1 rfl rfl 12 (by decide) k_4 (fun _ h9 => h9) f_ms_12 dX9_fits_18 ?_
  refine lv_aload_n hx hb dX9_fits_21 rfl (lv_at hl 3 rfl) ?_
  refine va_get (D := (dC, dI)) (ci := 8) (v := .int 0) (C := RX9) (T := TX9) (N := 81) hx hb hts i_X9 hown hK hP 1 rfl rfl 43 (by decide) k_5 (fun _ h9 => h9) f_ms_43 dX9_fits_22 ?_
  refine va_iald hx hb hK hP 0 1 rfl rfl (p1_in (i := 0) (n := 2) (by decide)) dX9_fits_25 ?_
  refine lv_topi (fun v_3 ev_3 => ?_)
  obtain rfl : v_3 = 0 := ev_3.trans h_cf_0
  refine lv_icmp_ge (tgt := 61) hx hb dX9_fits_26 (by decide) (fun _ => ?_) (fun c9 => absurd c9 (by decide))
  refine lv_iinc (v := 1) (lv' := [(3, .int 1), (4, .int 0), (2, .int 0), (0, .ref mo), (1, .int a1)]) hx hb dX9_fits_61 hl (k := 1) rfl (by decide) (by decide) rfl (fun ls hl => ?_)
  refine lv_goto (tgt := 4) hx hb dX9_fits_64 (by decide) ?_
  refine lv_iload_n hx hb dX9_fits_4 rfl (lv_at hl 0 rfl) ?_
  refine lv_aload_n hx hb dX9_fits_5 rfl (lv_at hl 3 rfl) ?_
  have hPc := hP.sub (ws' := [(mo, .inr (8, ms)), (la, .inl (cL, 2, .inl lf))]) [1, 2] rfl
  have hDc := hD.sub (ws' := [(mo, .inr (8, ms)), (la, .inl (cL, 2, .inl lf))]) [1, 2] (by decide) rfl
  have hKc := hK.sub (tys' := [(cL, .int)]) [0] rfl
  have hFc := va_free (wc := [(mo, .inr (8, ms)), (la, .inl (cL, 2, .inl lf))]) hD hS hA [1, 2] rfl
  refine va_calli (va_runV (As := []) (rest := [.int 1]) ⟨hx, hb, hml, hown, hts⟩ (c_lawMany l dC dI H.size mo ms la cL lf f_ms_14 f_ms_43 h_lf_0) (cwV 0 hts (p1_gV m_0 m_1 m_2 m_3 g_c_lawMany gz_c_lawMany) rfl rfl rfl (by decide +kernel) ⟨by decide, by decide⟩) ⟨fun a U g mk q => by obtain ⟨q0, q1, qP, qK, qD⟩ := q; exact ⟨q0, q1, qP, va_K.moved (u := U) (U := U.calling g mk a) (Vm.Alike.refl U.vm) qK, qD⟩, va_recv hKc hPc (ci := 8) (q0 := 0) rfl rfl, fun U hU hW => ⟨rfl, by rw [hU], by rw [hU]; exact hPc, va_K.moved hW.alike hKc, hDc.weaken (fun _ _ _ _ => trivial)⟩⟩ rfl rfl hl.1 rfl (lv_room (Nat.le_of_ble_eq_true rfl)) dX9_fits_6 ⟨by decide, by decide⟩) hS (fun q _ h => hFc q h) hFc (fun r_5 u t H1 locs ht hvm hw hB hz1 hk1 hS => ?_)
  obtain ⟨hP1, hK1, hD1⟩ := hB
  rw [ht] at hP1
  obtain ⟨hP, hD⟩ := va_join (wr := [(co, .inl (cC, 2, .inl cf))]) (w1 := [(mo, .inr (8, ms)), (la, .inl (cL, 2, .inl lf))]) hP hD [1, 2] [0] rfl rfl (by decide) (by decide) hk1 hFc hP1 hD1
  generalize H1 = H at hP hS ⊢
  have hP : va_P (dC, dI) vwCl [(co, .inl (cC, 2, .inl cf)), (mo, .inr (8, ms)), (la, .inl (cL, 2, .inl lf))] H := hP
  have hD : va_D A [(co, .inl (cC, 2, .inl cf)), (mo, .inr (8, ms)), (la, .inl (cL, 2, .inl lf))] := hD
  try dsimp only at hw
  obtain rfl : r_5 = 1 := hw
  refine lv_icmp_ge (tgt := 67) hx hb dX9_fits_9 (by decide) (fun _ => ?_) (fun c9 => absurd c9 (by decide))
  refine lv_iload_n hx hb dX9_fits_67 rfl (lv_at hl 2 rfl) ?_
  have hP9 := hP.sub (ws' := []) [] rfl
  have hD9 := hD.sub (ws' := []) [] (by decide) rfl
  have hK9 := hK.sub (tys' := []) [] rfl
  exact W.iret (v := 0) hx hb hr (fun t ht hW => ⟨⟨0, (), rfl, rfl, by rw [ht]; exact hP9, va_K.moved hW.alike hK9, hD9⟩, hS.F ht⟩) hS.2.2 dX9_fits_68
