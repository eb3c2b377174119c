def zo_c_sign0 : List Cond := [.code yX9_sign cX9_sign 2 (some .int), .fieldLink RX9 170 "BowWalkModel" "size" "I"]
def zw_c_sign0 : List Cond := zo_c_sign0 ++ (wsX90 ++ [])
theorem gz_c_sign0 : zw_c_sign0.all goodWord = true := p1_ga (by decide +kernel) (p1_ga gk_X9 p1_g0)
theorem iz_c_sign0 : ∀ w ∈ zw_c_sign0, w ∈ lw_tbl := p1_ia (p1_all [1292, 1040] (by decide +kernel)) (p1_ia ik_X9 p1_i0)
set_option maxHeartbeats 4000000 in
set_option maxRecDepth 100000 in
theorem c_sign0 (l : Launch) (dC : Nat → ClassId) (dI : Nat → Nat → Nat) (sz : Nat) (mo : Nat) (ms : List Value) (f_ms_3 : ms[3]? = some (.int 0)) : Met l yX9_sign zw_c_sign0 ({ frames := 0, cells := 0, slots := 0, locals := 0 }) (va_Pc [.ref mo, .int 0] (fun U => U.heap.size = sz ∧ va_P (dC, dI) vwCl [(mo, .inr (8, ms))] U.heap ∧ va_K (dC, dI) vwCl [] U ∧ va_D (fun _ => True) [(mo, .inr (8, ms))])) (va_Qi (fun (r : Int32) (_ : Unit) => r = 0) (fun _ t => va_P (dC, dI) vwCl [(mo, .inr (8, ms))] t.heap ∧ va_K (dC, dI) vwCl [] t ∧ va_D (va_A [(mo, .inr (8, ms))] sz) [(mo, .inr (8, ms))]) (va_A [(mo, .inr (8, ms))] sz)) 0 0 (va_A [(mo, .inr (8, ms))] sz) := by
  refine Met.ofW (cc := cX9_sign) (maxL := 2) (ret := (some .int)) (by decide) rfl ?_
  intro p e s m args below meth c s₁ B hml hv
  obtain ⟨rfl, hsz, hP, hK, hD0⟩ := hv
  have hx := B.exec
  have hb := B.bytes
  have hr := B.returns
  have hts := atoms_spec (ws := zw_c_sign0) B.pre
  have hown : s.vm.findClass RX9 = some m.cls := findClass_of_methodNamed B.named
  have hlocks := B.notSynchronized
  subst hsz
  have hD := hD0.self (sz := s.heap.size)
  generalize hAe : va_A [(mo, .inr (8, ms))] s.heap.size = A at hD ⊢
  have hA : ∀ q : Nat, s.heap.size ≤ q → A q := fun q h => by rw [← hAe]; exact Or.inr h
  have hS : va_S A s.heap s.heap [] := va_S.rf
  have hP : va_P (dC, dI) vwCl [(mo, .inr (8, ms))] s.heap := hP
  have m_0 : (.fieldLink RX9 170 "BowWalkModel" "size" "I" : Cond) ∈ zw_c_sign0 := List.mem_append_left _ (List.mem_of_getElem? (i := 1) rfl)
  have k_0 := hts _ m_0
  have i_X9 : ∀ w ∈ u_ws RX9 TX9 81, w ∈ zw_c_sign0 := fun w h => List.mem_append_right _ (List.mem_append_left _ h)
  have hl := lv_entry ([.ref mo, .int 0]) (n := 2) (Nat.le_of_ble_eq_true rfl)
  rw [lg_entry_eq]
  generalize (lg_sl ([.ref mo, .int 0]) ++ List.replicate (2 - (lg_sl ([.ref mo, .int 0])).length) Slot.unset).toArray = ls at hl ⊢
  have hl : lv_has ls 2 [(0, .ref mo), (1, .int 0)] := hl
  refine lv_iload_n hx hb dX9_sign_0 rfl (lv_at hl 1 rfl) ?_
  refine lv_aload_n hx hb dX9_sign_1 rfl (lv_at hl 0 rfl) ?_
  refine va_get (D := (dC, dI)) (ci := 8) (v := .int 0) (C := RX9) (T := TX9) (N := 81) hx hb hts i_X9 hown hK hP 0 rfl rfl 3 (by decide) k_0 (fun _ h9 => h9) f_ms_3 dX9_sign_2 ?_
  refine lv_icmp_ge (tgt := 21) hx hb dX9_sign_5 (by decide) (fun _ => ?_) (fun c9 => absurd c9 (by decide))
  refine lv_iconst (v := 0) hx hb dX9_sign_21 (by decide) ?_
  have hP9 := hP.sub (ws' := [(mo, .inr (8, ms))]) [0] rfl
  have hD9 := hD.sub (ws' := [(mo, .inr (8, ms))]) [0] (by decide) rfl
  have hK9 := hK.sub (tys' := []) [] rfl
  exact W.iret (v := 0) hx hb hr (fun t ht hW => ⟨⟨0, (), rfl, rfl, by rw [ht]; exact hP9, va_K.moved hW.alike hK9, hD9⟩, hS.F ht⟩) hS.2.2 dX9_sign_22
def zo_c_isGood : List Cond := [.code yX9_isGood cX9_isGood 1 (some .boolean), .fieldLink RX9 173 "BowWalkModel" "faultKind" "I"]
def zw_c_isGood : List Cond := zo_c_isGood ++ (wsX90 ++ [])
theorem gz_c_isGood : zw_c_isGood.all goodWord = true := p1_ga (by decide +kernel) (p1_ga gk_X9 p1_g0)
theorem iz_c_isGood : ∀ w ∈ zw_c_isGood, w ∈ lw_tbl := p1_ia (p1_all [1330, 1041] (by decide +kernel)) (p1_ia ik_X9 p1_i0)
set_option maxHeartbeats 4000000 in
set_option maxRecDepth 100000 in
theorem c_isGood (l : Launch) (dC : Nat → ClassId) (dI : Nat → Nat → Nat) (sz : Nat) (mo : Nat) (ms : List Value) (f_ms_4 : ms[4]? = some (.int 0)) : Met l yX9_isGood zw_c_isGood ({ frames := 0, cells := 0, slots := 0, locals := 0 }) (va_Pc [.ref mo] (fun U => U.heap.size = sz ∧ va_P (dC, dI) vwCl [(mo, .inr (8, ms))] U.heap ∧ va_K (dC, dI) vwCl [] U ∧ va_D (fun _ => True) [(mo, .inr (8, ms))])) (va_Qi (fun (r : Int32) (_ : Unit) => r = 1) (fun _ t => va_P (dC, dI) vwCl [(mo, .inr (8, ms))] t.heap ∧ va_K (dC, dI) vwCl [] t ∧ va_D (va_A [(mo, .inr (8, ms))] sz) [(mo, .inr (8, ms))]) (va_A [(mo, .inr (8, ms))] sz)) 0 0 (va_A [(mo, .inr (8, ms))] sz) := by
  refine Met.ofW (cc := cX9_isGood) (maxL := 1) (ret := (some .boolean)) (by decide) rfl ?_
  intro p e s m args below meth c s₁ B hml hv
  obtain ⟨rfl, hsz, hP, hK, hD0⟩ := hv
  have hx := B.exec
  have hb := B.bytes
  have hr := B.returns
  have hts := atoms_spec (ws := zw_c_isGood) B.pre
  have hown : s.vm.findClass RX9 = some m.cls := findClass_of_methodNamed B.named
  have hlocks := B.notSynchronized
  subst hsz
  have hD := hD0.self (sz := s.heap.size)
  generalize hAe : va_A [(mo, .inr (8, ms))] s.heap.size = A at hD ⊢
  have hA : ∀ q : Nat, s.heap.size ≤ q → A q := fun q h => by rw [← hAe]; exact Or.inr h
  have hS : va_S A s.heap s.heap [] := va_S.rf
  have hP : va_P (dC, dI) vwCl [(mo, .inr (8, ms))] s.heap := hP
  have m_0 : (.fieldLink RX9 173 "BowWalkModel" "faultKind" "I" : Cond) ∈ zw_c_isGood := List.mem_append_left _ (List.mem_of_getElem? (i := 1) rfl)
  have k_0 := hts _ m_0
  have i_X9 : ∀ w ∈ u_ws RX9 TX9 81, w ∈ zw_c_isGood := fun w h => List.mem_append_right _ (List.mem_append_left _ h)
  have hl := lv_entry ([.ref mo]) (n := 1) (Nat.le_of_ble_eq_true rfl)
  rw [lg_entry_eq]
  generalize (lg_sl ([.ref mo]) ++ List.replicate (1 - (lg_sl ([.ref mo])).length) Slot.unset).toArray = ls at hl ⊢
  have hl : lv_has ls 1 [(0, .ref mo)] := hl
  refine lv_aload_n hx hb dX9_isGood_0 rfl (lv_at hl 0 rfl) ?_
  refine va_get (D := (dC, dI)) (ci := 8) (v := .int 0) (C := RX9) (T := TX9) (N := 81) hx hb hts i_X9 hown hK hP 0 rfl rfl 4 (by decide) k_0 (fun _ h9 => h9) f_ms_4 dX9_isGood_1 ?_
  refine lv_if_ne (tgt := 11) hx hb dX9_isGood_4 (by decide) (fun c9 => absurd c9 (by decide)) (fun _ => ?_)
  refine lv_iconst (v := 1) hx hb dX9_isGood_7 (by decide) ?_
  refine lv_goto (tgt := 12) hx hb dX9_isGood_8 (by decide) ?_
  have hP9 := hP.sub (ws' := [(mo, .inr (8, ms))]) [0] rfl
  have hD9 := hD.sub (ws' := [(mo, .inr (8, ms))]) [0] (by decide) rfl
  have hK9 := hK.sub (tys' := []) [] rfl
  exact W.zret (v := 1) hx hb hr (by decide) (fun t ht hW => ⟨⟨1, (), rfl, rfl, by rw [ht]; exact hP9, va_K.moved hW.alike hK9, hD9⟩, hS.F ht⟩) hS.2.2 dX9_isGood_12
def zo_c_goOn0 : List Cond := [.code yX9_goOn cX9_goOn 3 none, .fieldLink RX9 220 "BowWalkModel" "end" "I", .fieldLink RX9 223 "BowWalkModel" "at" "I", .fieldLink RX9 170 "BowWalkModel" "size" "I", .methodLink RX9 226 yX9_sign, .instanceMethod yX9_sign, .selects RX9 yX9_sign yX9_sign, .initialized RX9, .fieldLink RX9 230 "BowWalkModel" "token" "I"]
def zw_c_goOn0 : List Cond := zo_c_goOn0 ++ (zw_c_sign0 ++ (wsX90 ++ []))
theorem gz_c_goOn0 : zw_c_goOn0.all goodWord = true := p1_ga (by decide +kernel) (p1_ga gz_c_sign0 (p1_ga gk_X9 p1_g0))
theorem iz_c_goOn0 : ∀ w ∈ zw_c_goOn0, w ∈ lw_tbl := p1_ia (p1_all [1288, 1044, 1043, 1040, 1289, 1291, 45, 116, 1045] (by decide +kernel)) (p1_ia iz_c_sign0 (p1_ia ik_X9 p1_i0))
set_option maxHeartbeats 4000000 in
set_option maxRecDepth 100000 in
theorem c_goOn0 (l : Launch) (dC : Nat → ClassId) (dI : Nat → Nat → Nat) (sz : Nat) (mo : Nat) (ms : List Value) (un : Nat) (bm : Nat) (kn : Nat) (f_ms_2 : ms[2]? = some (.int 0)) (f_ms_3 : ms[3]? = some (.int 0)) (f_ms_4 : ms[4]? = some (.int 0)) (f_ms_43 : ms[43]? = some (.int 0)) (f_ms_18 : ms[18]? = some (.ref un)) (f_ms_78 : ms[78]? = some (.ref bm)) (f_ms_11 : ms[11]? = some (.ref kn)) (f_ms_44 : ms[44]? = some (.int 1)) (f_ms_46 : ms[46]? = some (.int 0)) (f_ms_7 : ms[7]? = some (.int 0)) (l_ms : ms.length = 81) : Met l yX9_goOn zw_c_goOn0 ({ frames := 1, cells := 0, slots := 0, locals := 21 }) (va_Pc [.ref mo] (fun U => U.heap.size = sz ∧ va_P (dC, dI) vwCl [(mo, .inr (8, ms))] U.heap ∧ va_K (dC, dI) vwCl [] U ∧ va_D (fun _ => True) [(mo, .inr (8, ms))])) (va_Qv (fun (_ : Unit) => True) (fun _ t => ∃ (mt : List Value), mt.length = 81 ∧ mt[2]? = some (.int 0) ∧ mt[3]? = some (.int 0) ∧ mt[4]? = some (.int 0) ∧ mt[43]? = some (.int 0) ∧ mt[18]? = some (.ref un) ∧ mt[78]? = some (.ref bm) ∧ mt[11]? = some (.ref kn) ∧ mt[44]? = some (.int 1) ∧ mt[46]? = some (.int 0) ∧ mt[8]? = some (.int 0) ∧ va_P (dC, dI) vwCl [(mo, .inr (8, mt))] t.heap ∧ va_K (dC, dI) vwCl [] t ∧ va_D (va_A [(mo, .inr (8, ms))] sz) [(mo, .inr (8, mt))]) (va_A [(mo, .inr (8, ms))] sz)) 0 0 (va_A [(mo, .inr (8, ms))] sz) := by
  refine Met.ofW (cc := cX9_goOn) (maxL := 3) (ret := none) (by decide) rfl ?_
  intro p e s m args below meth c s₁ B hml hv
  obtain ⟨rfl, hsz, hP, hK, hD0⟩ := hv
  have hx := B.exec
  have hb := B.bytes
  have hr := B.returns
  have hts := atoms_spec (ws := zw_c_goOn0) B.pre
  have hown : s.vm.findClass RX9 = some m.cls := findClass_of_methodNamed B.named
  have hlocks := B.notSynchronized
  subst hsz
  have hD := hD0.self (sz := s.heap.size)
  generalize hAe : va_A [(mo, .inr (8, ms))] s.heap.size = A at hD ⊢
  have hA : ∀ q : Nat, s.heap.size ≤ q → A q := fun q h => by rw [← hAe]; exact Or.inr h
  have hS : va_S A s.heap s.heap [] := va_S.rf
  have hP : va_P (dC, dI) vwCl [(mo, .inr (8, ms))] s.heap := hP
  have m_0 : (.fieldLink RX9 220 "BowWalkModel" "end" "I" : Cond) ∈ zw_c_goOn0 := List.mem_append_left _ (List.mem_of_getElem? (i := 1) rfl)
  have k_0 := hts _ m_0
  have m_1 : (.fieldLink RX9 223 "BowWalkModel" "at" "I" : Cond) ∈ zw_c_goOn0 := List.mem_append_left _ (List.mem_of_getElem? (i := 2) rfl)
  have k_1 := hts _ m_1
  have m_2 : (.fieldLink RX9 170 "BowWalkModel" "size" "I" : Cond) ∈ zw_c_goOn0 := List.mem_append_left _ (List.mem_of_getElem? (i := 3) rfl)
  have k_2 := hts _ m_2
  have m_3 : (.methodLink RX9 226 yX9_sign : Cond) ∈ zw_c_goOn0 := List.mem_append_left _ (List.mem_of_getElem? (i := 4) rfl)
  have k_3 := hts _ m_3
  have m_4 : (.instanceMethod yX9_sign : Cond) ∈ zw_c_goOn0 := List.mem_append_left _ (List.mem_of_getElem? (i := 5) rfl)
  have k_4 := hts _ m_4
  have m_5 : (.selects RX9 yX9_sign yX9_sign : Cond) ∈ zw_c_goOn0 := List.mem_append_left _ (List.mem_of_getElem? (i := 6) rfl)
  have k_5 := hts _ m_5
  have m_6 : (.initialized RX9 : Cond) ∈ zw_c_goOn0 := List.mem_append_left _ (List.mem_of_getElem? (i := 7) rfl)
  have k_6 := hts _ m_6
  have m_7 : (.fieldLink RX9 230 "BowWalkModel" "token" "I" : Cond) ∈ zw_c_goOn0 := List.mem_append_left _ (List.mem_of_getElem? (i := 8) rfl)
  have k_7 := hts _ m_7
  have g_c_sign0 : ∀ w ∈ zw_c_sign0, w ∈ zw_c_goOn0 := fun w h => List.mem_append_right _ (List.mem_append_left _ h)
  have i_X9 : ∀ w ∈ u_ws RX9 TX9 81, w ∈ zw_c_goOn0 := fun w h => List.mem_append_right _ (List.mem_append_right _ (List.mem_append_left _ h))
  have hl := lv_entry ([.ref mo]) (n := 3) (Nat.le_of_ble_eq_true rfl)
  rw [lg_entry_eq]
  generalize (lg_sl ([.ref mo]) ++ List.replicate (3 - (lg_sl ([.ref mo])).length) Slot.unset).toArray = ls at hl ⊢
  have hl : lv_has ls 3 [(0, .ref mo)] := hl
  refine lv_aload_n hx hb dX9_goOn_0 rfl (lv_at hl 0 rfl) ?_
  refine lv_aload_n hx hb dX9_goOn_1 rfl (lv_at hl 0 rfl) ?_
  refine va_get (D := (dC, dI)) (ci := 8) (v := .int 0) (C := RX9) (T := TX9) (N := 81) hx hb hts i_X9 hown hK hP 0 rfl rfl 7 (by decide) k_0 (fun _ h9 => h9) f_ms_7 dX9_goOn_2 ?_
  refine va_put (D := (dC, dI)) (ci := 8) (v := .int 0) (ty := .int) (C := RX9) (T := TX9) (N := 81) hx hb hts i_X9 tyX9 tyX9_ok nmX9 hown hK hP hD hS 0 rfl rfl 6 (by decide) k_1 (fun _ h9 => h9) rfl (by decide +kernel) rfl rfl (by rw [l_ms]; decide) dX9_goOn_5 (fun H locs hP hD hS => ?_)
  have hP : va_P (dC, dI) vwCl [(mo, .inr (8, (ms.set 6 (.int 0))))] H := hP
  have hD : va_D A [(mo, .inr (8, (ms.set 6 (.int 0))))] := hD
  generalize efs_1 : (ms.set 6 (.int 0)) = fs_1 at hP hD
  have lfs_1 : fs_1.length = 81 := by rw [← efs_1, List.length_set]; exact l_ms
  have ffs_1_2 : fs_1[2]? = some (.int 0) := by rw [← efs_1]; exact p1_sn (by decide) f_ms_2
  have ffs_1_3 : fs_1[3]? = some (.int 0) := by rw [← efs_1]; exact p1_sn (by decide) f_ms_3
  have ffs_1_4 : fs_1[4]? = some (.int 0) := by rw [← efs_1]; exact p1_sn (by decide) f_ms_4
  have ffs_1_43 : fs_1[43]? = some (.int 0) := by rw [← efs_1]; exact p1_sn (by decide) f_ms_43
  have ffs_1_18 : fs_1[18]? = some (.ref un) := by rw [← efs_1]; exact p1_sn (by decide) f_ms_18
  have ffs_1_78 : fs_1[78]? = some (.ref bm) := by rw [← efs_1]; exact p1_sn (by decide) f_ms_78
  have ffs_1_11 : fs_1[11]? = some (.ref kn) := by rw [← efs_1]; exact p1_sn (by decide) f_ms_11
  have ffs_1_44 : fs_1[44]? = some (.int 1) := by rw [← efs_1]; exact p1_sn (by decide) f_ms_44
  have ffs_1_46 : fs_1[46]? = some (.int 0) := by rw [← efs_1]; exact p1_sn (by decide) f_ms_46
  have ffs_1_7 : fs_1[7]? = some (.int 0) := by rw [← efs_1]; exact p1_sn (by decide) f_ms_7
  have ffs_1_6 : fs_1[6]? = some (.int 0) := by rw [← efs_1]; exact p1_sa l_ms (by decide)
  refine lv_aload_n hx hb dX9_goOn_8 rfl (lv_at hl 0 rfl) ?_
  refine va_get (D := (dC, dI)) (ci := 8) (v := .int 0) (C := RX9) (T := TX9) (N := 81) hx hb hts i_X9 hown hK hP 0 rfl rfl 6 (by decide) k_1 (fun _ h9 => h9) ffs_1_6 dX9_goOn_9 ?_
  refine lv_aload_n hx hb dX9_goOn_12 rfl (lv_at hl 0 rfl) ?_
  refine va_get (D := (dC, dI)) (ci := 8) (v := .int 0) (C := RX9) (T := TX9) (N := 81) hx hb hts i_X9 hown hK hP 0 rfl rfl 3 (by decide) k_2 (fun _ h9 => h9) ffs_1_3 dX9_goOn_13 ?_
  refine lv_icmp_ge (tgt := 58) hx hb dX9_goOn_16 (by decide) (fun _ => ?_) (fun c9 => absurd c9 (by decide))
  refine lv_aload_n hx hb dX9_goOn_58 rfl (lv_at hl 0 rfl) ?_
  refine lv_aload_n hx hb dX9_goOn_59 rfl (lv_at hl 0 rfl) ?_
  refine va_get (D := (dC, dI)) (ci := 8) (v := .int 0) (C := RX9) (T := TX9) (N := 81) hx hb hts i_X9 hown hK hP 0 rfl rfl 6 (by decide) k_1 (fun _ h9 => h9) ffs_1_6 dX9_goOn_60 ?_
  have hPc := hP.sub (ws' := [(mo, .inr (8, fs_1))]) [0] rfl
  have hDc := hD.sub (ws' := [(mo, .inr (8, fs_1))]) [0] (by decide) rfl
  have hKc := hK.sub (tys' := []) [] rfl
  have hFc := va_free (wc := [(mo, .inr (8, fs_1))]) hD hS hA [0] rfl
  refine va_calli (va_runV (As := [.int 0]) (rest := []) ⟨hx, hb, hml, hown, hts⟩ (c_sign0 l dC dI H.size mo fs_1 ffs_1_3) (cwV 1 hts (p1_gV m_3 m_4 m_5 m_6 g_c_sign0 gz_c_sign0) rfl rfl rfl (by decide +kernel) ⟨by decide, by decide⟩) ⟨fun a U g mk q => by obtain ⟨q0, q1, qP, qK, qD⟩ := q; exact ⟨q0, q1, qP, va_K.moved (u := U) (U := U.calling g mk a) (Vm.Alike.refl U.vm) qK, qD⟩, va_recv hKc hPc (ci := 8) (q0 := 0) rfl rfl, fun U hU hW => ⟨rfl, by rw [hU], by rw [hU]; exact hPc, va_K.moved hW.alike hKc, hDc.weaken (fun _ _ _ _ => trivial)⟩⟩ rfl rfl hl.1 rfl (lv_room (Nat.le_of_ble_eq_true rfl)) dX9_goOn_63 ⟨by decide, by decide⟩) hS (fun q _ h => hFc q h) hFc (fun r_2 u t H1 locs ht hvm hw hB hz1 hk1 hS => ?_)
  obtain ⟨hP1, hK1, hD1⟩ := hB
  rw [ht] at hP1
  obtain ⟨hP, hD⟩ := va_join (wr := []) (w1 := [(mo, .inr (8, fs_1))]) hP hD [0] [] rfl rfl (by decide) (by decide) hk1 hFc hP1 hD1
  generalize H1 = H at hP hS ⊢
  have hP : va_P (dC, dI) vwCl [(mo, .inr (8, fs_1))] H := hP
  have hD : va_D A [(mo, .inr (8, fs_1))] := hD
  try dsimp only at hw
  obtain rfl : r_2 = 0 := hw
  refine lv_istore_n (lv' := [(1, .int 0), (0, .ref mo)]) hx hb dX9_goOn_66 rfl hl (by decide) rfl (fun ls hl => ?_)
  refine lv_aload_n hx hb dX9_goOn_67 rfl (lv_at hl 1 rfl) ?_
  refine lv_aload_n hx hb dX9_goOn_68 rfl (lv_at hl 1 rfl) ?_
  refine va_get (D := (dC, dI)) (ci := 8) (v := .int 0) (C := RX9) (T := TX9) (N := 81) hx hb hts i_X9 hown hK hP 0 rfl rfl 6 (by decide) k_1 (fun _ h9 => h9) ffs_1_6 dX9_goOn_69 ?_
  refine lv_iconst (v := 1) hx hb dX9_goOn_72 (by decide) ?_
  refine lv_iadd hx hb dX9_goOn_73 ?_
  refine lv_topi (fun v_3 ev_3 => ?_)
  obtain rfl : v_3 = 1 := ev_3.trans (by decide)
  refine va_put (D := (dC, dI)) (ci := 8) (v := .int 1) (ty := .int) (C := RX9) (T := TX9) (N := 81) hx hb hts i_X9 tyX9 tyX9_ok nmX9 hown hK hP hD hS 0 rfl rfl 7 (by decide) k_0 (fun _ h9 => h9) rfl (by decide +kernel) rfl rfl (by rw [lfs_1]; decide) dX9_goOn_74 (fun H locs hP hD hS => ?_)
  have hP : va_P (dC, dI) vwCl [(mo, .inr (8, (fs_1.set 7 (.int 1))))] H := hP
  have hD : va_D A [(mo, .inr (8, (fs_1.set 7 (.int 1))))] := hD
  generalize efs_4 : (fs_1.set 7 (.int 1)) = fs_4 at hP hD
  have lfs_4 : fs_4.length = 81 := by rw [← efs_4, List.length_set]; exact lfs_1
  have ffs_4_2 : fs_4[2]? = some (.int 0) := by rw [← efs_4]; exact p1_sn (by decide) ffs_1_2
  have ffs_4_3 : fs_4[3]? = some (.int 0) := by rw [← efs_4]; exact p1_sn (by decide) ffs_1_3
  have ffs_4_4 : fs_4[4]? = some (.int 0) := by rw [← efs_4]; exact p1_sn (by decide) ffs_1_4
  have ffs_4_43 : fs_4[43]? = some (.int 0) := by rw [← efs_4]; exact p1_sn (by decide) ffs_1_43
  have ffs_4_18 : fs_4[18]? = some (.ref un) := by rw [← efs_4]; exact p1_sn (by decide) ffs_1_18
  have ffs_4_78 : fs_4[78]? = some (.ref bm) := by rw [← efs_4]; exact p1_sn (by decide) ffs_1_78
  have ffs_4_11 : fs_4[11]? = some (.ref kn) := by rw [← efs_4]; exact p1_sn (by decide) ffs_1_11
  have ffs_4_44 : fs_4[44]? = some (.int 1) := by rw [← efs_4]; exact p1_sn (by decide) ffs_1_44
  have ffs_4_46 : fs_4[46]? = some (.int 0) := by rw [← efs_4]; exact p1_sn (by decide) ffs_1_46
  have ffs_4_6 : fs_4[6]? = some (.int 0) := by rw [← efs_4]; exact p1_sn (by decide) ffs_1_6
  have ffs_4_7 : fs_4[7]? = some (.int 1) := by rw [← efs_4]; exact p1_sa lfs_1 (by decide)
  refine lv_aload_n hx hb dX9_goOn_77 rfl (lv_at hl 1 rfl) ?_
  refine va_get (D := (dC, dI)) (ci := 8) (v := .int 0) (C := RX9) (T := TX9) (N := 81) hx hb hts i_X9 hown hK hP 0 rfl rfl 6 (by decide) k_1 (fun _ h9 => h9) ffs_4_6 dX9_goOn_78 ?_
  refine lv_aload_n hx hb dX9_goOn_81 rfl (lv_at hl 1 rfl) ?_
  refine va_get (D := (dC, dI)) (ci := 8) (v := .int 0) (C := RX9) (T := TX9) (N := 81) hx hb hts i_X9 hown hK hP 0 rfl rfl 3 (by decide) k_2 (fun _ h9 => h9) ffs_4_3 dX9_goOn_82 ?_
  refine lv_icmp_lt (tgt := 112) hx hb dX9_goOn_85 (by decide) (fun c9 => absurd c9 (by decide)) (fun _ => ?_)
  refine lv_aload_n hx hb dX9_goOn_88 rfl (lv_at hl 1 rfl) ?_
  refine lv_iconst (v := 0) hx hb dX9_goOn_89 (by decide) ?_
  refine va_put (D := (dC, dI)) (ci := 8) (v := .int 0) (ty := .int) (C := RX9) (T := TX9) (N := 81) hx hb hts i_X9 tyX9 tyX9_ok nmX9 hown hK hP hD hS 0 rfl rfl 8 (by decide) k_7 (fun _ h9 => h9) rfl (by decide +kernel) rfl rfl (by rw [lfs_4]; decide) dX9_goOn_90 (fun H locs hP hD hS => ?_)
  have hP : va_P (dC, dI) vwCl [(mo, .inr (8, (fs_4.set 8 (.int 0))))] H := hP
  have hD : va_D A [(mo, .inr (8, (fs_4.set 8 (.int 0))))] := hD
  generalize efs_5 : (fs_4.set 8 (.int 0)) = fs_5 at hP hD
  have lfs_5 : fs_5.length = 81 := by rw [← efs_5, List.length_set]; exact lfs_4
  have ffs_5_2 : fs_5[2]? = some (.int 0) := by rw [← efs_5]; exact p1_sn (by decide) ffs_4_2
  have ffs_5_3 : fs_5[3]? = some (.int 0) := by rw [← efs_5]; exact p1_sn (by decide) ffs_4_3
  have ffs_5_4 : fs_5[4]? = some (.int 0) := by rw [← efs_5]; exact p1_sn (by decide) ffs_4_4
  have ffs_5_43 : fs_5[43]? = some (.int 0) := by rw [← efs_5]; exact p1_sn (by decide) ffs_4_43
  have ffs_5_18 : fs_5[18]? = some (.ref un) := by rw [← efs_5]; exact p1_sn (by decide) ffs_4_18
  have ffs_5_78 : fs_5[78]? = some (.ref bm) := by rw [← efs_5]; exact p1_sn (by decide) ffs_4_78
  have ffs_5_11 : fs_5[11]? = some (.ref kn) := by rw [← efs_5]; exact p1_sn (by decide) ffs_4_11
  have ffs_5_44 : fs_5[44]? = some (.int 1) := by rw [← efs_5]; exact p1_sn (by decide) ffs_4_44
  have ffs_5_46 : fs_5[46]? = some (.int 0) := by rw [← efs_5]; exact p1_sn (by decide) ffs_4_46
  have ffs_5_6 : fs_5[6]? = some (.int 0) := by rw [← efs_5]; exact p1_sn (by decide) ffs_4_6
  have ffs_5_7 : fs_5[7]? = some (.int 1) := by rw [← efs_5]; exact p1_sn (by decide) ffs_4_7
  have ffs_5_8 : fs_5[8]? = some (.int 0) := by rw [← efs_5]; exact p1_sa lfs_4 (by decide)
  refine lv_aload_n hx hb dX9_goOn_93 rfl (lv_at hl 1 rfl) ?_
  refine lv_aload_n hx hb dX9_goOn_94 rfl (lv_at hl 1 rfl) ?_
  refine va_get (D := (dC, dI)) (ci := 8) (v := .int 0) (C := RX9) (T := TX9) (N := 81) hx hb hts i_X9 hown hK hP 0 rfl rfl 3 (by decide) k_2 (fun _ h9 => h9) ffs_5_3 dX9_goOn_95 ?_
  refine va_put (D := (dC, dI)) (ci := 8) (v := .int 0) (ty := .int) (C := RX9) (T := TX9) (N := 81) hx hb hts i_X9 tyX9 tyX9_ok nmX9 hown hK hP hD hS 0 rfl rfl 6 (by decide) k_1 (fun _ h9 => h9) rfl (by decide +kernel) rfl rfl (by rw [lfs_5]; decide) dX9_goOn_98 (fun H locs hP hD hS => ?_)
  have hP : va_P (dC, dI) vwCl [(mo, .inr (8, (fs_5.set 6 (.int 0))))] H := hP
  have hD : va_D A [(mo, .inr (8, (fs_5.set 6 (.int 0))))] := hD
  generalize efs_6 : (fs_5.set 6 (.int 0)) = fs_6 at hP hD
  have lfs_6 : fs_6.length = 81 := by rw [← efs_6, List.length_set]; exact lfs_5
  have ffs_6_2 : fs_6[2]? = some (.int 0) := by rw [← efs_6]; exact p1_sn (by decide) ffs_5_2
  have ffs_6_3 : fs_6[3]? = some (.int 0) := by rw [← efs_6]; exact p1_sn (by decide) ffs_5_3
  have ffs_6_4 : fs_6[4]? = some (.int 0) := by rw [← efs_6]; exact p1_sn (by decide) ffs_5_4
  have ffs_6_43 : fs_6[43]? = some (.int 0) := by rw [← efs_6]; exact p1_sn (by decide) ffs_5_43
  have ffs_6_18 : fs_6[18]? = some (.ref un) := by rw [← efs_6]; exact p1_sn (by decide) ffs_5_18
  have ffs_6_78 : fs_6[78]? = some (.ref bm) := by rw [← efs_6]; exact p1_sn (by decide) ffs_5_78
  have ffs_6_11 : fs_6[11]? = some (.ref kn) := by rw [← efs_6]; exact p1_sn (by decide) ffs_5_11
  have ffs_6_44 : fs_6[44]? = some (.int 1) := by rw [← efs_6]; exact p1_sn (by decide) ffs_5_44
  have ffs_6_46 : fs_6[46]? = some (.int 0) := by rw [← efs_6]; exact p1_sn (by decide) ffs_5_46
  have ffs_6_7 : fs_6[7]? = some (.int 1) := by rw [← efs_6]; exact p1_sn (by decide) ffs_5_7
  have ffs_6_8 : fs_6[8]? = some (.int 0) := by rw [← efs_6]; exact p1_sn (by decide) ffs_5_8
  have ffs_6_6 : fs_6[6]? = some (.int 0) := by rw [← efs_6]; exact p1_sa lfs_5 (by decide)
  refine lv_aload_n hx hb dX9_goOn_101 rfl (lv_at hl 1 rfl) ?_
  refine lv_aload_n hx hb dX9_goOn_102 rfl (lv_at hl 1 rfl) ?_
  refine va_get (D := (dC, dI)) (ci := 8) (v := .int 0) (C := RX9) (T := TX9) (N := 81) hx hb hts i_X9 hown hK hP 0 rfl rfl 3 (by decide) k_2 (fun _ h9 => h9) ffs_6_3 dX9_goOn_103 ?_
  refine va_put (D := (dC, dI)) (ci := 8) (v := .int 0) (ty := .int) (C := RX9) (T := TX9) (N := 81) hx hb hts i_X9 tyX9 tyX9_ok nmX9 hown hK hP hD hS 0 rfl rfl 7 (by decide) k_0 (fun _ h9 => h9) rfl (by decide +kernel) rfl rfl (by rw [lfs_6]; decide) dX9_goOn_106 (fun H locs hP hD hS => ?_)
  have hP : va_P (dC, dI) vwCl [(mo, .inr (8, (fs_6.set 7 (.int 0))))] H := hP
  have hD : va_D A [(mo, .inr (8, (fs_6.set 7 (.int 0))))] := hD
  generalize efs_7 : (fs_6.set 7 (.int 0)) = fs_7 at hP hD
  have lfs_7 : fs_7.length = 81 := by rw [← efs_7, List.length_set]; exact lfs_6
  have ffs_7_2 : fs_7[2]? = some (.int 0) := by rw [← efs_7]; exact p1_sn (by decide) ffs_6_2
  have ffs_7_3 : fs_7[3]? = some (.int 0) := by rw [← efs_7]; exact p1_sn (by decide) ffs_6_3
  have ffs_7_4 : fs_7[4]? = some (.int 0) := by rw [← efs_7]; exact p1_sn (by decide) ffs_6_4
  have ffs_7_43 : fs_7[43]? = some (.int 0) := by rw [← efs_7]; exact p1_sn (by decide) ffs_6_43
  have ffs_7_18 : fs_7[18]? = some (.ref un) := by rw [← efs_7]; exact p1_sn (by decide) ffs_6_18
  have ffs_7_78 : fs_7[78]? = some (.ref bm) := by rw [← efs_7]; exact p1_sn (by decide) ffs_6_78
  have ffs_7_11 : fs_7[11]? = some (.ref kn) := by rw [← efs_7]; exact p1_sn (by decide) ffs_6_11
  have ffs_7_44 : fs_7[44]? = some (.int 1) := by rw [← efs_7]; exact p1_sn (by decide) ffs_6_44
  have ffs_7_46 : fs_7[46]? = some (.int 0) := by rw [← efs_7]; exact p1_sn (by decide) ffs_6_46
  have ffs_7_8 : fs_7[8]? = some (.int 0) := by rw [← efs_7]; exact p1_sn (by decide) ffs_6_8
  have ffs_7_6 : fs_7[6]? = some (.int 0) := by rw [← efs_7]; exact p1_sn (by decide) ffs_6_6
  have ffs_7_7 : fs_7[7]? = some (.int 0) := by rw [← efs_7]; exact p1_sa lfs_6 (by decide)
  refine lv_goto (tgt := 377) hx hb dX9_goOn_109 (by decide) ?_
  have hP9 := hP.sub (ws' := [(mo, .inr (8, fs_7))]) [0] rfl
  have hD9 := hD.sub (ws' := [(mo, .inr (8, fs_7))]) [0] (by decide) rfl
  have hK9 := hK.sub (tys' := []) [] rfl
  exact W.vret hx hb hr (fun t ht hW => ⟨⟨(), rfl, trivial, fs_7, lfs_7, ffs_7_2, ffs_7_3, ffs_7_4, ffs_7_43, ffs_7_18, ffs_7_78, ffs_7_11, ffs_7_44, ffs_7_46, ffs_7_8, by rw [ht]; exact hP9, va_K.moved hW.alike hK9, hD9⟩, hS.F ht⟩) hS.2.2 dX9_goOn_377
def zo_m_shop : List Cond := [.code yX9_shop cX9_shop 2 (some .int), .fieldLink RX9 173 "BowWalkModel" "faultKind" "I", .fieldLink RX9 16 "BowWalkModel" "faultPlace" "I", .fieldLink RX9 288 "BowWalkModel" "taped" "I", .fieldLink RX9 170 "BowWalkModel" "size" "I", .fieldLink RX9 220 "BowWalkModel" "end" "I", .fieldLink RX9 291 "BowWalkModel" "bank" "I", .fieldLink RX9 279 "BowWalkModel" "rb" "I", .methodLink RX9 167 yX9_clearBank, .instanceMethod yX9_clearBank, .selects RX9 yX9_clearBank yX9_clearBank, .initialized RX9, .methodLink RX9 262 yX9_goOn, .instanceMethod yX9_goOn, .selects RX9 yX9_goOn yX9_goOn, .methodLink RX9 258 yX9_isGood, .instanceMethod yX9_isGood, .selects RX9 yX9_isGood yX9_isGood, .fieldLink RX9 230 "BowWalkModel" "token" "I", .fieldLink RX9 42 "BowWalkModel" "unitsOf" "[I", .fieldLink RX9 285 "BowWalkModel" "units" "I", .fieldLink RX9 297 "BowWalkModel" "hasBow" "Z", .fieldLink RX9 301 "BowWalkModel" "films" "I", .fieldLink RX9 158 "BowWalkModel" "boxMany" "[I", .fieldLink RX9 20 "BowWalkModel" "knots" "[I"]
def zw_m_shop : List Cond := zo_m_shop ++ (zw_c_clearBank1 ++ (zw_c_goOn0 ++ (zw_c_isGood ++ (wsX90 ++ []))))
theorem gz_m_shop : zw_m_shop.all goodWord = true := p1_ga (by decide +kernel) (p1_ga gz_c_clearBank1 (p1_ga gz_c_goOn0 (p1_ga gz_c_isGood (p1_ga gk_X9 p1_g0))))
theorem iz_m_shop : ∀ w ∈ zw_m_shop, w ∈ lw_tbl := p1_ia (p1_all [1284, 1041, 1042, 1039, 1040, 1044, 1080, 1081, 1033, 1035, 43, 116, 1285, 1287, 44, 1327, 1329, 46, 1045, 1055, 1083, 1097, 1112, 1115, 1048] (by decide +kernel)) (p1_ia iz_c_clearBank1 (p1_ia iz_c_goOn0 (p1_ia iz_c_isGood (p1_ia ik_X9 p1_i0))))
set_option maxHeartbeats 4000000 in
set_option maxRecDepth 100000 in
theorem m_shop (l : Launch) (dC : Nat → ClassId) (dI : Nat → Nat → Nat) (sz : Nat) (mo : Nat) (ms : List Value) (kn : Nat) (co : Nat) (wa : Nat) (la : Nat) (wt : Nat) (ti : Nat) (lu : Nat) (it : Nat) (il : Nat) (un : Nat) (bm : Nat) (cK : ClassId) (kf : Nat → Int32) (cC : ClassId) (cf : Nat → Int32) (cW : ClassId) (wf : Nat → Int32) (cL : ClassId) (lf : Nat → Int32) (cT : ClassId) (tf : Nat → Int32) (cI : ClassId) (if0 : Nat → Int32) (cU : ClassId) (uf : Nat → Int32) (cY : ClassId) (yf : Nat → Int32) (cZ : ClassId) (zf : Nat → Int32) (cV : ClassId) (cB : ClassId) (bmf : Nat → Int32) (f_ms_11 : ms[11]? = some (.ref kn)) (f_ms_12 : ms[12]? = some (.ref co)) (f_ms_13 : ms[13]? = some (.ref wa)) (f_ms_14 : ms[14]? = some (.ref la)) (f_ms_15 : ms[15]? = some (.ref wt)) (f_ms_16 : ms[16]? = some (.ref ti)) (f_ms_17 : ms[17]? = some (.ref lu)) (f_ms_19 : ms[19]? = some (.ref it)) (f_ms_20 : ms[20]? = some (.ref il)) (f_ms_2 : ms[2]? = some (.int 0)) (f_ms_43 : ms[43]? = some (.int 0)) (f_ms_18 : ms[18]? = some (.ref un)) (f_ms_78 : ms[78]? = some (.ref bm)) (l_ms : ms.length = 81) : Met l yX9_shop zw_m_shop ({ frames := 2, cells := 0, slots := 0, locals := 43 }) (va_Pc [.ref mo] (fun U => U.heap.size = sz ∧ va_P (dC, dI) vwCl [(mo, .inr (8, ms)), (kn, .inl (cK, 2, .inl kf)), (co, .inl (cC, 2, .inl cf)), (wa, .inl (cW, 2, .inl wf)), (la, .inl (cL, 2, .inl lf)), (wt, .inl (cT, 2, .inl tf)), (ti, .inl (cI, 2, .inl if0)), (lu, .inl (cU, 2, .inl uf)), (it, .inl (cY, 2, .inl yf)), (il, .inl (cZ, 2, .inl zf)), (un, .inl (cV, 2, .inl (fun _ => 0))), (bm, .inl (cB, 4, .inl bmf))] U.heap ∧ va_K (dC, dI) vwCl [(cK, .int), (cC, .int), (cW, .int), (cL, .int), (cT, .int), (cI, .int), (cU, .int), (cY, .boolean), (cZ, .boolean), (cV, .int), (cB, .int)] U ∧ va_D (fun _ => True) [(mo, .inr (8, ms)), (kn, .inl (cK, 2, .inl kf)), (co, .inl (cC, 2, .inl cf)), (wa, .inl (cW, 2, .inl wf)), (la, .inl (cL, 2, .inl lf)), (wt, .inl (cT, 2, .inl tf)), (ti, .inl (cI, 2, .inl if0)), (lu, .inl (cU, 2, .inl uf)), (it, .inl (cY, 2, .inl yf)), (il, .inl (cZ, 2, .inl zf)), (un, .inl (cV, 2, .inl (fun _ => 0))), (bm, .inl (cB, 4, .inl bmf))])) (va_Qi (fun (r : Int32) (_ : Unit) => r = 0) (fun _ t => va_P (dC, dI) vwCl [] t.heap ∧ va_K (dC, dI) vwCl [] t ∧ va_D (va_A [(mo, .inr (8, ms)), (kn, .inl (cK, 2, .inl kf)), (co, .inl (cC, 2, .inl cf)), (wa, .inl (cW, 2, .inl wf)), (la, .inl (cL, 2, .inl lf)), (wt, .inl (cT, 2, .inl tf)), (ti, .inl (cI, 2, .inl if0)), (lu, .inl (cU, 2, .inl uf)), (it, .inl (cY, 2, .inl yf)), (il, .inl (cZ, 2, .inl zf)), (un, .inl (cV, 2, .inl (fun _ => 0))), (bm, .inl (cB, 4, .inl bmf))] sz) []) (va_A [(mo, .inr (8, ms)), (kn, .inl (cK, 2, .inl kf)), (co, .inl (cC, 2, .inl cf)), (wa, .inl (cW, 2, .inl wf)), (la, .inl (cL, 2, .inl lf)), (wt, .inl (cT, 2, .inl tf)), (ti, .inl (cI, 2, .inl if0)), (lu, .inl (cU, 2, .inl uf)), (it, .inl (cY, 2, .inl yf)), (il, .inl (cZ, 2, .inl zf)), (un, .inl (cV, 2, .inl (fun _ => 0))), (bm, .inl (cB, 4, .inl bmf))] sz)) 0 0 (va_A [(mo, .inr (8, ms)), (kn, .inl (cK, 2, .inl kf)), (co, .inl (cC, 2, .inl cf)), (wa, .inl (cW, 2, .inl wf)), (la, .inl (cL, 2, .inl lf)), (wt, .inl (cT, 2, .inl tf)), (ti, .inl (cI, 2, .inl if0)), (lu, .inl (cU, 2, .inl uf)), (it, .inl (cY, 2, .inl yf)), (il, .inl (cZ, 2, .inl zf)), (un, .inl (cV, 2, .inl (fun _ => 0))), (bm, .inl (cB, 4, .inl bmf))] sz) := by
  refine Met.ofW (cc := cX9_shop) (maxL := 2) (ret := (some .int)) (by decide) rfl ?_
  intro p e s m args below meth c s₁ B hml hv
  obtain ⟨rfl, hsz, hP, hK, hD0⟩ := hv
  have hx := B.exec
  have hb := B.bytes
  have hr := B.returns
  have hts := atoms_spec (ws := zw_m_shop) B.pre
  have hown : s.vm.findClass RX9 = some m.cls := findClass_of_methodNamed B.named
  have hlocks := B.notSynchronized
  subst hsz
  have hD := hD0.self (sz := s.heap.size)
  generalize hAe : va_A [(mo, .inr (8, ms)), (kn, .inl (cK, 2, .inl kf)), (co, .inl (cC, 2, .inl cf)), (wa, .inl (cW, 2, .inl wf)), (la, .inl (cL, 2, .inl lf)), (wt, .inl (cT, 2, .inl tf)), (ti, .inl (cI, 2, .inl if0)), (lu, .inl (cU, 2, .inl uf)), (it, .inl (cY, 2, .inl yf)), (il, .inl (cZ, 2, .inl zf)), (un, .inl (cV, 2, .inl (fun _ => 0))), (bm, .inl (cB, 4, .inl bmf))] s.heap.size = A at hD ⊢
  have hA : ∀ q : Nat, s.heap.size ≤ q → A q := fun q h => by rw [← hAe]; exact Or.inr h
  have hS : va_S A s.heap s.heap [] := va_S.rf
  have hP : va_P (dC, dI) vwCl [(mo, .inr (8, ms)), (kn, .inl (cK, 2, .inl kf)), (co, .inl (cC, 2, .inl cf)), (wa, .inl (cW, 2, .inl wf)), (la, .inl (cL, 2, .inl lf)), (wt, .inl (cT, 2, .inl tf)), (ti, .inl (cI, 2, .inl if0)), (lu, .inl (cU, 2, .inl uf)), (it, .inl (cY, 2, .inl yf)), (il, .inl (cZ, 2, .inl zf)), (un, .inl (cV, 2, .inl (fun _ => 0))), (bm, .inl (cB, 4, .inl bmf))] s.heap := hP
  have m_0 : (.fieldLink RX9 173 "BowWalkModel" "faultKind" "I" : Cond) ∈ zw_m_shop := List.mem_append_left _ (List.mem_of_getElem? (i := 1) rfl)
  have k_0 := hts _ m_0
  have m_1 : (.fieldLink RX9 16 "BowWalkModel" "faultPlace" "I" : Cond) ∈ zw_m_shop := List.mem_append_left _ (List.mem_of_getElem? (i := 2) rfl)
  have k_1 := hts _ m_1
  have m_2 : (.fieldLink RX9 288 "BowWalkModel" "taped" "I" : Cond) ∈ zw_m_shop := List.mem_append_left _ (List.mem_of_getElem? (i := 3) rfl)
  have k_2 := hts _ m_2
  have m_3 : (.fieldLink RX9 170 "BowWalkModel" "size" "I" : Cond) ∈ zw_m_shop := List.mem_append_left _ (List.mem_of_getElem? (i := 4) rfl)
  have k_3 := hts _ m_3
  have m_4 : (.fieldLink RX9 220 "BowWalkModel" "end" "I" : Cond) ∈ zw_m_shop := List.mem_append_left _ (List.mem_of_getElem? (i := 5) rfl)
  have k_4 := hts _ m_4
  have m_5 : (.fieldLink RX9 291 "BowWalkModel" "bank" "I" : Cond) ∈ zw_m_shop := List.mem_append_left _ (List.mem_of_getElem? (i := 6) rfl)
  have k_5 := hts _ m_5
  have m_6 : (.fieldLink RX9 279 "BowWalkModel" "rb" "I" : Cond) ∈ zw_m_shop := List.mem_append_left _ (List.mem_of_getElem? (i := 7) rfl)
  have k_6 := hts _ m_6
  have m_7 : (.methodLink RX9 167 yX9_clearBank : Cond) ∈ zw_m_shop := List.mem_append_left _ (List.mem_of_getElem? (i := 8) rfl)
  have k_7 := hts _ m_7
  have m_8 : (.instanceMethod yX9_clearBank : Cond) ∈ zw_m_shop := List.mem_append_left _ (List.mem_of_getElem? (i := 9) rfl)
  have k_8 := hts _ m_8
  have m_9 : (.selects RX9 yX9_clearBank yX9_clearBank : Cond) ∈ zw_m_shop := List.mem_append_left _ (List.mem_of_getElem? (i := 10) rfl)
  have k_9 := hts _ m_9
  have m_10 : (.initialized RX9 : Cond) ∈ zw_m_shop := List.mem_append_left _ (List.mem_of_getElem? (i := 11) rfl)
  have k_10 := hts _ m_10
  have m_11 : (.methodLink RX9 262 yX9_goOn : Cond) ∈ zw_m_shop := List.mem_append_left _ (List.mem_of_getElem? (i := 12) rfl)
  have k_11 := hts _ m_11
  have m_12 : (.instanceMethod yX9_goOn : Cond) ∈ zw_m_shop := List.mem_append_left _ (List.mem_of_getElem? (i := 13) rfl)
  have k_12 := hts _ m_12
  have m_13 : (.selects RX9 yX9_goOn yX9_goOn : Cond) ∈ zw_m_shop := List.mem_append_left _ (List.mem_of_getElem? (i := 14) rfl)
  have k_13 := hts _ m_13
  have m_14 : (.methodLink RX9 258 yX9_isGood : Cond) ∈ zw_m_shop := List.mem_append_left _ (List.mem_of_getElem? (i := 15) rfl)
  have k_14 := hts _ m_14
  have m_15 : (.instanceMethod yX9_isGood : Cond) ∈ zw_m_shop := List.mem_append_left _ (List.mem_of_getElem? (i := 16) rfl)
  have k_15 := hts _ m_15
  have m_16 : (.selects RX9 yX9_isGood yX9_isGood : Cond) ∈ zw_m_shop := List.mem_append_left _ (List.mem_of_getElem? (i := 17) rfl)
  have k_16 := hts _ m_16
  have m_17 : (.fieldLink RX9 230 "BowWalkModel" "token" "I" : Cond) ∈ zw_m_shop := List.mem_append_left _ (List.mem_of_getElem? (i := 18) rfl)
  have k_17 := hts _ m_17
  have m_18 : (.fieldLink RX9 42 "BowWalkModel" "unitsOf" "[I" : Cond) ∈ zw_m_shop := List.mem_append_left _ (List.mem_of_getElem? (i := 19) rfl)
  have k_18 := hts _ m_18
  have m_19 : (.fieldLink RX9 285 "BowWalkModel" "units" "I" : Cond) ∈ zw_m_shop := List.mem_append_left _ (List.mem_of_getElem? (i := 20) rfl)
  have k_19 := hts _ m_19
  have m_20 : (.fieldLink RX9 297 "BowWalkModel" "hasBow" "Z" : Cond) ∈ zw_m_shop := List.mem_append_left _ (List.mem_of_getElem? (i := 21) rfl)
  have k_20 := hts _ m_20
  have m_21 : (.fieldLink RX9 301 "BowWalkModel" "films" "I" : Cond) ∈ zw_m_shop := List.mem_append_left _ (List.mem_of_getElem? (i := 22) rfl)
  have k_21 := hts _ m_21
  have m_22 : (.fieldLink RX9 158 "BowWalkModel" "boxMany" "[I" : Cond) ∈ zw_m_shop := List.mem_append_left _ (List.mem_of_getElem? (i := 23) rfl)
  have k_22 := hts _ m_22
  have m_23 : (.fieldLink RX9 20 "BowWalkModel" "knots" "[I" : Cond) ∈ zw_m_shop := List.mem_append_left _ (List.mem_of_getElem? (i := 24) rfl)
  have k_23 := hts _ m_23
  have g_c_clearBank1 : ∀ w ∈ zw_c_clearBank1, w ∈ zw_m_shop := fun w h => List.mem_append_right _ (List.mem_append_left _ h)
  have g_c_goOn0 : ∀ w ∈ zw_c_goOn0, w ∈ zw_m_shop := fun w h => List.mem_append_right _ (List.mem_append_right _ (List.mem_append_left _ h))
  have g_c_isGood : ∀ w ∈ zw_c_isGood, w ∈ zw_m_shop := fun w h => List.mem_append_right _ (List.mem_append_right _ (List.mem_append_right _ (List.mem_append_left _ h)))
  have i_X9 : ∀ w ∈ u_ws RX9 TX9 81, w ∈ zw_m_shop := fun w h => List.mem_append_right _ (List.mem_append_right _ (List.mem_append_right _ (List.mem_append_right _ (List.mem_append_left _ h))))
  have hl := lv_entry ([.ref mo]) (n := 2) (Nat.le_of_ble_eq_true rfl)
  rw [lg_entry_eq]
  generalize (lg_sl ([.ref mo]) ++ List.replicate (2 - (lg_sl ([.ref mo])).length) Slot.unset).toArray = ls at hl ⊢
  have hl : lv_has ls 2 [(0, .ref mo)] := hl
  refine lv_aload_n hx hb dX9_shop_0 rfl (lv_at hl 0 rfl) ?_
  refine lv_iconst (v := 0) hx hb dX9_shop_1 (by decide) ?_
  refine va_put (D := (dC, dI)) (ci := 8) (v := .int 0) (ty := .int) (C := RX9) (T := TX9) (N := 81) hx hb hts i_X9 tyX9 tyX9_ok nmX9 hown hK hP hD hS 0 rfl rfl 4 (by decide) k_0 (fun _ h9 => h9) rfl (by decide +kernel) rfl rfl (by rw [l_ms]; decide) dX9_shop_2 (fun H locs hP hD hS => ?_)
  have hP : va_P (dC, dI) vwCl [(mo, .inr (8, (ms.set 4 (.int 0)))), (kn, .inl (cK, 2, .inl kf)), (co, .inl (cC, 2, .inl cf)), (wa, .inl (cW, 2, .inl wf)), (la, .inl (cL, 2, .inl lf)), (wt, .inl (cT, 2, .inl tf)), (ti, .inl (cI, 2, .inl if0)), (lu, .inl (cU, 2, .inl uf)), (it, .inl (cY, 2, .inl yf)), (il, .inl (cZ, 2, .inl zf)), (un, .inl (cV, 2, .inl (fun _ => 0))), (bm, .inl (cB, 4, .inl bmf))] H := hP
  have hD : va_D A [(mo, .inr (8, (ms.set 4 (.int 0)))), (kn, .inl (cK, 2, .inl kf)), (co, .inl (cC, 2, .inl cf)), (wa, .inl (cW, 2, .inl wf)), (la, .inl (cL, 2, .inl lf)), (wt, .inl (cT, 2, .inl tf)), (ti, .inl (cI, 2, .inl if0)), (lu, .inl (cU, 2, .inl uf)), (it, .inl (cY, 2, .inl yf)), (il, .inl (cZ, 2, .inl zf)), (un, .inl (cV, 2, .inl (fun _ => 0))), (bm, .inl (cB, 4, .inl bmf))] := hD
  generalize efs_1 : (ms.set 4 (.int 0)) = fs_1 at hP hD
  have lfs_1 : fs_1.length = 81 := by rw [← efs_1, List.length_set]; exact l_ms
  have ffs_1_11 : fs_1[11]? = some (.ref kn) := by rw [← efs_1]; exact p1_sn (by decide) f_ms_11
  have ffs_1_12 : fs_1[12]? = some (.ref co) := by rw [← efs_1]; exact p1_sn (by decide) f_ms_12
  have ffs_1_13 : fs_1[13]? = some (.ref wa) := by rw [← efs_1]; exact p1_sn (by decide) f_ms_13
  have ffs_1_14 : fs_1[14]? = some (.ref la) := by rw [← efs_1]; exact p1_sn (by decide) f_ms_14
  have ffs_1_15 : fs_1[15]? = some (.ref wt) := by rw [← efs_1]; exact p1_sn (by decide) f_ms_15
  have ffs_1_16 : fs_1[16]? = some (.ref ti) := by rw [← efs_1]; exact p1_sn (by decide) f_ms_16
  have ffs_1_17 : fs_1[17]? = some (.ref lu) := by rw [← efs_1]; exact p1_sn (by decide) f_ms_17
  have ffs_1_19 : fs_1[19]? = some (.ref it) := by rw [← efs_1]; exact p1_sn (by decide) f_ms_19
  have ffs_1_20 : fs_1[20]? = some (.ref il) := by rw [← efs_1]; exact p1_sn (by decide) f_ms_20
  have ffs_1_2 : fs_1[2]? = some (.int 0) := by rw [← efs_1]; exact p1_sn (by decide) f_ms_2
  have ffs_1_43 : fs_1[43]? = some (.int 0) := by rw [← efs_1]; exact p1_sn (by decide) f_ms_43
  have ffs_1_18 : fs_1[18]? = some (.ref un) := by rw [← efs_1]; exact p1_sn (by decide) f_ms_18
  have ffs_1_78 : fs_1[78]? = some (.ref bm) := by rw [← efs_1]; exact p1_sn (by decide) f_ms_78
  have ffs_1_4 : fs_1[4]? = some (.int 0) := by rw [← efs_1]; exact p1_sa l_ms (by decide)
  refine lv_aload_n hx hb dX9_shop_5 rfl (lv_at hl 0 rfl) ?_
  refine lv_iconst (v := (-1)) hx hb dX9_shop_6 (by decide) ?_
  refine va_put (D := (dC, dI)) (ci := 8) (v := .int (-1)) (ty := .int) (C := RX9) (T := TX9) (N := 81) hx hb hts i_X9 tyX9 tyX9_ok nmX9 hown hK hP hD hS 0 rfl rfl 5 (by decide) k_1 (fun _ h9 => h9) rfl (by decide +kernel) rfl rfl (by rw [lfs_1]; decide) dX9_shop_7 (fun H locs hP hD hS => ?_)
  have hP : va_P (dC, dI) vwCl [(mo, .inr (8, (fs_1.set 5 (.int (-1))))), (kn, .inl (cK, 2, .inl kf)), (co, .inl (cC, 2, .inl cf)), (wa, .inl (cW, 2, .inl wf)), (la, .inl (cL, 2, .inl lf)), (wt, .inl (cT, 2, .inl tf)), (ti, .inl (cI, 2, .inl if0)), (lu, .inl (cU, 2, .inl uf)), (it, .inl (cY, 2, .inl yf)), (il, .inl (cZ, 2, .inl zf)), (un, .inl (cV, 2, .inl (fun _ => 0))), (bm, .inl (cB, 4, .inl bmf))] H := hP
  have hD : va_D A [(mo, .inr (8, (fs_1.set 5 (.int (-1))))), (kn, .inl (cK, 2, .inl kf)), (co, .inl (cC, 2, .inl cf)), (wa, .inl (cW, 2, .inl wf)), (la, .inl (cL, 2, .inl lf)), (wt, .inl (cT, 2, .inl tf)), (ti, .inl (cI, 2, .inl if0)), (lu, .inl (cU, 2, .inl uf)), (it, .inl (cY, 2, .inl yf)), (il, .inl (cZ, 2, .inl zf)), (un, .inl (cV, 2, .inl (fun _ => 0))), (bm, .inl (cB, 4, .inl bmf))] := hD
  generalize efs_2 : (fs_1.set 5 (.int (-1))) = fs_2 at hP hD
  have lfs_2 : fs_2.length = 81 := by rw [← efs_2, List.length_set]; exact lfs_1
  have ffs_2_11 : fs_2[11]? = some (.ref kn) := by rw [← efs_2]; exact p1_sn (by decide) ffs_1_11
  have ffs_2_12 : fs_2[12]? = some (.ref co) := by rw [← efs_2]; exact p1_sn (by decide) ffs_1_12
  have ffs_2_13 : fs_2[13]? = some (.ref wa) := by rw [← efs_2]; exact p1_sn (by decide) ffs_1_13
  have ffs_2_14 : fs_2[14]? = some (.ref la) := by rw [← efs_2]; exact p1_sn (by decide) ffs_1_14
  have ffs_2_15 : fs_2[15]? = some (.ref wt) := by rw [← efs_2]; exact p1_sn (by decide) ffs_1_15
  have ffs_2_16 : fs_2[16]? = some (.ref ti) := by rw [← efs_2]; exact p1_sn (by decide) ffs_1_16
  have ffs_2_17 : fs_2[17]? = some (.ref lu) := by rw [← efs_2]; exact p1_sn (by decide) ffs_1_17
  have ffs_2_19 : fs_2[19]? = some (.ref it) := by rw [← efs_2]; exact p1_sn (by decide) ffs_1_19
  have ffs_2_20 : fs_2[20]? = some (.ref il) := by rw [← efs_2]; exact p1_sn (by decide) ffs_1_20
  have ffs_2_2 : fs_2[2]? = some (.int 0) := by rw [← efs_2]; exact p1_sn (by decide) ffs_1_2
  have ffs_2_43 : fs_2[43]? = some (.int 0) := by rw [← efs_2]; exact p1_sn (by decide) ffs_1_43
  have ffs_2_18 : fs_2[18]? = some (.ref un) := by rw [← efs_2]; exact p1_sn (by decide) ffs_1_18
  have ffs_2_78 : fs_2[78]? = some (.ref bm) := by rw [← efs_2]; exact p1_sn (by decide) ffs_1_78
  have ffs_2_4 : fs_2[4]? = some (.int 0) := by rw [← efs_2]; exact p1_sn (by decide) ffs_1_4
  have ffs_2_5 : fs_2[5]? = some (.int (-1)) := by rw [← efs_2]; exact p1_sa lfs_1 (by decide)
  refine lv_aload_n hx hb dX9_shop_10 rfl (lv_at hl 0 rfl) ?_
  refine lv_aload_n hx hb dX9_shop_11 rfl (lv_at hl 0 rfl) ?_
  refine va_get (D := (dC, dI)) (ci := 8) (v := .int 0) (C := RX9) (T := TX9) (N := 81) hx hb hts i_X9 hown hK hP 0 rfl rfl 2 (by decide) k_2 (fun _ h9 => h9) ffs_2_2 dX9_shop_12 ?_
  refine va_put (D := (dC, dI)) (ci := 8) (v := .int 0) (ty := .int) (C := RX9) (T := TX9) (N := 81) hx hb hts i_X9 tyX9 tyX9_ok nmX9 hown hK hP hD hS 0 rfl rfl 3 (by decide) k_3 (fun _ h9 => h9) rfl (by decide +kernel) rfl rfl (by rw [lfs_2]; decide) dX9_shop_15 (fun H locs hP hD hS => ?_)
  have hP : va_P (dC, dI) vwCl [(mo, .inr (8, (fs_2.set 3 (.int 0)))), (kn, .inl (cK, 2, .inl kf)), (co, .inl (cC, 2, .inl cf)), (wa, .inl (cW, 2, .inl wf)), (la, .inl (cL, 2, .inl lf)), (wt, .inl (cT, 2, .inl tf)), (ti, .inl (cI, 2, .inl if0)), (lu, .inl (cU, 2, .inl uf)), (it, .inl (cY, 2, .inl yf)), (il, .inl (cZ, 2, .inl zf)), (un, .inl (cV, 2, .inl (fun _ => 0))), (bm, .inl (cB, 4, .inl bmf))] H := hP
  have hD : va_D A [(mo, .inr (8, (fs_2.set 3 (.int 0)))), (kn, .inl (cK, 2, .inl kf)), (co, .inl (cC, 2, .inl cf)), (wa, .inl (cW, 2, .inl wf)), (la, .inl (cL, 2, .inl lf)), (wt, .inl (cT, 2, .inl tf)), (ti, .inl (cI, 2, .inl if0)), (lu, .inl (cU, 2, .inl uf)), (it, .inl (cY, 2, .inl yf)), (il, .inl (cZ, 2, .inl zf)), (un, .inl (cV, 2, .inl (fun _ => 0))), (bm, .inl (cB, 4, .inl bmf))] := hD
  generalize efs_3 : (fs_2.set 3 (.int 0)) = fs_3 at hP hD
  have lfs_3 : fs_3.length = 81 := by rw [← efs_3, List.length_set]; exact lfs_2
  have ffs_3_11 : fs_3[11]? = some (.ref kn) := by rw [← efs_3]; exact p1_sn (by decide) ffs_2_11
  have ffs_3_12 : fs_3[12]? = some (.ref co) := by rw [← efs_3]; exact p1_sn (by decide) ffs_2_12
  have ffs_3_13 : fs_3[13]? = some (.ref wa) := by rw [← efs_3]; exact p1_sn (by decide) ffs_2_13
  have ffs_3_14 : fs_3[14]? = some (.ref la) := by rw [← efs_3]; exact p1_sn (by decide) ffs_2_14
  have ffs_3_15 : fs_3[15]? = some (.ref wt) := by rw [← efs_3]; exact p1_sn (by decide) ffs_2_15
  have ffs_3_16 : fs_3[16]? = some (.ref ti) := by rw [← efs_3]; exact p1_sn (by decide) ffs_2_16
  have ffs_3_17 : fs_3[17]? = some (.ref lu) := by rw [← efs_3]; exact p1_sn (by decide) ffs_2_17
  have ffs_3_19 : fs_3[19]? = some (.ref it) := by rw [← efs_3]; exact p1_sn (by decide) ffs_2_19
  have ffs_3_20 : fs_3[20]? = some (.ref il) := by rw [← efs_3]; exact p1_sn (by decide) ffs_2_20
  have ffs_3_2 : fs_3[2]? = some (.int 0) := by rw [← efs_3]; exact p1_sn (by decide) ffs_2_2
  have ffs_3_43 : fs_3[43]? = some (.int 0) := by rw [← efs_3]; exact p1_sn (by decide) ffs_2_43
  have ffs_3_18 : fs_3[18]? = some (.ref un) := by rw [← efs_3]; exact p1_sn (by decide) ffs_2_18
  have ffs_3_78 : fs_3[78]? = some (.ref bm) := by rw [← efs_3]; exact p1_sn (by decide) ffs_2_78
  have ffs_3_4 : fs_3[4]? = some (.int 0) := by rw [← efs_3]; exact p1_sn (by decide) ffs_2_4
  have ffs_3_5 : fs_3[5]? = some (.int (-1)) := by rw [← efs_3]; exact p1_sn (by decide) ffs_2_5
  have ffs_3_3 : fs_3[3]? = some (.int 0) := by rw [← efs_3]; exact p1_sa lfs_2 (by decide)
  refine lv_iconst (v := 0) hx hb dX9_shop_18 (by decide) ?_
  refine lv_istore_n (lv' := [(1, .int 0), (0, .ref mo)]) hx hb dX9_shop_19 rfl hl (by decide) rfl (fun ls hl => ?_)
  refine lv_iload_n hx hb dX9_shop_20 rfl (lv_at hl 0 rfl) ?_
  refine lv_aload_n hx hb dX9_shop_21 rfl (lv_at hl 1 rfl) ?_
  refine va_get (D := (dC, dI)) (ci := 8) (v := .int 0) (C := RX9) (T := TX9) (N := 81) hx hb hts i_X9 hown hK hP 0 rfl rfl 3 (by decide) k_3 (fun _ h9 => h9) ffs_3_3 dX9_shop_22 ?_
  refine lv_icmp_ge (tgt := 46) hx hb dX9_shop_25 (by decide) (fun _ => ?_) (fun c9 => absurd c9 (by decide))
  refine lv_aload_n hx hb dX9_shop_46 rfl (lv_at hl 1 rfl) ?_
  refine lv_iconst (v := 0) hx hb dX9_shop_47 (by decide) ?_
  refine va_put (D := (dC, dI)) (ci := 8) (v := .int 0) (ty := .int) (C := RX9) (T := TX9) (N := 81) hx hb hts i_X9 tyX9 tyX9_ok nmX9 hown hK hP hD hS 0 rfl rfl 2 (by decide) k_2 (fun _ h9 => h9) rfl (by decide +kernel) rfl rfl (by rw [lfs_3]; decide) dX9_shop_48 (fun H locs hP hD hS => ?_)
  have hP : va_P (dC, dI) vwCl [(mo, .inr (8, (fs_3.set 2 (.int 0)))), (kn, .inl (cK, 2, .inl kf)), (co, .inl (cC, 2, .inl cf)), (wa, .inl (cW, 2, .inl wf)), (la, .inl (cL, 2, .inl lf)), (wt, .inl (cT, 2, .inl tf)), (ti, .inl (cI, 2, .inl if0)), (lu, .inl (cU, 2, .inl uf)), (it, .inl (cY, 2, .inl yf)), (il, .inl (cZ, 2, .inl zf)), (un, .inl (cV, 2, .inl (fun _ => 0))), (bm, .inl (cB, 4, .inl bmf))] H := hP
  have hD : va_D A [(mo, .inr (8, (fs_3.set 2 (.int 0)))), (kn, .inl (cK, 2, .inl kf)), (co, .inl (cC, 2, .inl cf)), (wa, .inl (cW, 2, .inl wf)), (la, .inl (cL, 2, .inl lf)), (wt, .inl (cT, 2, .inl tf)), (ti, .inl (cI, 2, .inl if0)), (lu, .inl (cU, 2, .inl uf)), (it, .inl (cY, 2, .inl yf)), (il, .inl (cZ, 2, .inl zf)), (un, .inl (cV, 2, .inl (fun _ => 0))), (bm, .inl (cB, 4, .inl bmf))] := hD
  generalize efs_5 : (fs_3.set 2 (.int 0)) = fs_5 at hP hD
  have lfs_5 : fs_5.length = 81 := by rw [← efs_5, List.length_set]; exact lfs_3
  have ffs_5_11 : fs_5[11]? = some (.ref kn) := by rw [← efs_5]; exact p1_sn (by decide) ffs_3_11
  have ffs_5_12 : fs_5[12]? = some (.ref co) := by rw [← efs_5]; exact p1_sn (by decide) ffs_3_12
  have ffs_5_13 : fs_5[13]? = some (.ref wa) := by rw [← efs_5]; exact p1_sn (by decide) ffs_3_13
  have ffs_5_14 : fs_5[14]? = some (.ref la) := by rw [← efs_5]; exact p1_sn (by decide) ffs_3_14
  have ffs_5_15 : fs_5[15]? = some (.ref wt) := by rw [← efs_5]; exact p1_sn (by decide) ffs_3_15
  have ffs_5_16 : fs_5[16]? = some (.ref ti) := by rw [← efs_5]; exact p1_sn (by decide) ffs_3_16
  have ffs_5_17 : fs_5[17]? = some (.ref lu) := by rw [← efs_5]; exact p1_sn (by decide) ffs_3_17
  have ffs_5_19 : fs_5[19]? = some (.ref it) := by rw [← efs_5]; exact p1_sn (by decide) ffs_3_19
  have ffs_5_20 : fs_5[20]? = some (.ref il) := by rw [← efs_5]; exact p1_sn (by decide) ffs_3_20
  have ffs_5_43 : fs_5[43]? = some (.int 0) := by rw [← efs_5]; exact p1_sn (by decide) ffs_3_43
  have ffs_5_18 : fs_5[18]? = some (.ref un) := by rw [← efs_5]; exact p1_sn (by decide) ffs_3_18
  have ffs_5_78 : fs_5[78]? = some (.ref bm) := by rw [← efs_5]; exact p1_sn (by decide) ffs_3_78
  have ffs_5_4 : fs_5[4]? = some (.int 0) := by rw [← efs_5]; exact p1_sn (by decide) ffs_3_4
  have ffs_5_5 : fs_5[5]? = some (.int (-1)) := by rw [← efs_5]; exact p1_sn (by decide) ffs_3_5
  have ffs_5_3 : fs_5[3]? = some (.int 0) := by rw [← efs_5]; exact p1_sn (by decide) ffs_3_3
  have ffs_5_2 : fs_5[2]? = some (.int 0) := by rw [← efs_5]; exact p1_sa lfs_3 (by decide)
  refine lv_aload_n hx hb dX9_shop_51 rfl (lv_at hl 1 rfl) ?_
  refine lv_iconst (v := 0) hx hb dX9_shop_52 (by decide) ?_
  refine va_put (D := (dC, dI)) (ci := 8) (v := .int 0) (ty := .int) (C := RX9) (T := TX9) (N := 81) hx hb hts i_X9 tyX9 tyX9_ok nmX9 hown hK hP hD hS 0 rfl rfl 7 (by decide) k_4 (fun _ h9 => h9) rfl (by decide +kernel) rfl rfl (by rw [lfs_5]; decide) dX9_shop_53 (fun H locs hP hD hS => ?_)
  have hP : va_P (dC, dI) vwCl [(mo, .inr (8, (fs_5.set 7 (.int 0)))), (kn, .inl (cK, 2, .inl kf)), (co, .inl (cC, 2, .inl cf)), (wa, .inl (cW, 2, .inl wf)), (la, .inl (cL, 2, .inl lf)), (wt, .inl (cT, 2, .inl tf)), (ti, .inl (cI, 2, .inl if0)), (lu, .inl (cU, 2, .inl uf)), (it, .inl (cY, 2, .inl yf)), (il, .inl (cZ, 2, .inl zf)), (un, .inl (cV, 2, .inl (fun _ => 0))), (bm, .inl (cB, 4, .inl bmf))] H := hP
  have hD : va_D A [(mo, .inr (8, (fs_5.set 7 (.int 0)))), (kn, .inl (cK, 2, .inl kf)), (co, .inl (cC, 2, .inl cf)), (wa, .inl (cW, 2, .inl wf)), (la, .inl (cL, 2, .inl lf)), (wt, .inl (cT, 2, .inl tf)), (ti, .inl (cI, 2, .inl if0)), (lu, .inl (cU, 2, .inl uf)), (it, .inl (cY, 2, .inl yf)), (il, .inl (cZ, 2, .inl zf)), (un, .inl (cV, 2, .inl (fun _ => 0))), (bm, .inl (cB, 4, .inl bmf))] := hD
  generalize efs_6 : (fs_5.set 7 (.int 0)) = fs_6 at hP hD
  have lfs_6 : fs_6.length = 81 := by rw [← efs_6, List.length_set]; exact lfs_5
  have ffs_6_11 : fs_6[11]? = some (.ref kn) := by rw [← efs_6]; exact p1_sn (by decide) ffs_5_11
  have ffs_6_12 : fs_6[12]? = some (.ref co) := by rw [← efs_6]; exact p1_sn (by decide) ffs_5_12
  have ffs_6_13 : fs_6[13]? = some (.ref wa) := by rw [← efs_6]; exact p1_sn (by decide) ffs_5_13
  have ffs_6_14 : fs_6[14]? = some (.ref la) := by rw [← efs_6]; exact p1_sn (by decide) ffs_5_14
  have ffs_6_15 : fs_6[15]? = some (.ref wt) := by rw [← efs_6]; exact p1_sn (by decide) ffs_5_15
  have ffs_6_16 : fs_6[16]? = some (.ref ti) := by rw [← efs_6]; exact p1_sn (by decide) ffs_5_16
  have ffs_6_17 : fs_6[17]? = some (.ref lu) := by rw [← efs_6]; exact p1_sn (by decide) ffs_5_17
  have ffs_6_19 : fs_6[19]? = some (.ref it) := by rw [← efs_6]; exact p1_sn (by decide) ffs_5_19
  have ffs_6_20 : fs_6[20]? = some (.ref il) := by rw [← efs_6]; exact p1_sn (by decide) ffs_5_20
  have ffs_6_43 : fs_6[43]? = some (.int 0) := by rw [← efs_6]; exact p1_sn (by decide) ffs_5_43
  have ffs_6_18 : fs_6[18]? = some (.ref un) := by rw [← efs_6]; exact p1_sn (by decide) ffs_5_18
  have ffs_6_78 : fs_6[78]? = some (.ref bm) := by rw [← efs_6]; exact p1_sn (by decide) ffs_5_78
  have ffs_6_4 : fs_6[4]? = some (.int 0) := by rw [← efs_6]; exact p1_sn (by decide) ffs_5_4
  have ffs_6_5 : fs_6[5]? = some (.int (-1)) := by rw [← efs_6]; exact p1_sn (by decide) ffs_5_5
  have ffs_6_3 : fs_6[3]? = some (.int 0) := by rw [← efs_6]; exact p1_sn (by decide) ffs_5_3
  have ffs_6_2 : fs_6[2]? = some (.int 0) := by rw [← efs_6]; exact p1_sn (by decide) ffs_5_2
  have ffs_6_7 : fs_6[7]? = some (.int 0) := by rw [← efs_6]; exact p1_sa lfs_5 (by decide)
  refine lv_aload_n hx hb dX9_shop_56 rfl (lv_at hl 1 rfl) ?_
  refine lv_iconst (v := 1) hx hb dX9_shop_57 (by decide) ?_
  refine lv_aload_n hx hb dX9_shop_58 rfl (lv_at hl 1 rfl) ?_
  refine va_get (D := (dC, dI)) (ci := 8) (v := .int 0) (C := RX9) (T := TX9) (N := 81) hx hb hts i_X9 hown hK hP 0 rfl rfl 43 (by decide) k_5 (fun _ h9 => h9) ffs_6_43 dX9_shop_59 ?_
  refine lv_isub hx hb dX9_shop_62 ?_
  refine lv_topi (fun v_7 ev_7 => ?_)
  obtain rfl : v_7 = 1 := ev_7.trans (by decide)
  refine va_put (D := (dC, dI)) (ci := 8) (v := .int 1) (ty := .int) (C := RX9) (T := TX9) (N := 81) hx hb hts i_X9 tyX9 tyX9_ok nmX9 hown hK hP hD hS 0 rfl rfl 44 (by decide) k_6 (fun _ h9 => h9) rfl (by decide +kernel) rfl rfl (by rw [lfs_6]; decide) dX9_shop_63 (fun H locs hP hD hS => ?_)
  have hP : va_P (dC, dI) vwCl [(mo, .inr (8, (fs_6.set 44 (.int 1)))), (kn, .inl (cK, 2, .inl kf)), (co, .inl (cC, 2, .inl cf)), (wa, .inl (cW, 2, .inl wf)), (la, .inl (cL, 2, .inl lf)), (wt, .inl (cT, 2, .inl tf)), (ti, .inl (cI, 2, .inl if0)), (lu, .inl (cU, 2, .inl uf)), (it, .inl (cY, 2, .inl yf)), (il, .inl (cZ, 2, .inl zf)), (un, .inl (cV, 2, .inl (fun _ => 0))), (bm, .inl (cB, 4, .inl bmf))] H := hP
  have hD : va_D A [(mo, .inr (8, (fs_6.set 44 (.int 1)))), (kn, .inl (cK, 2, .inl kf)), (co, .inl (cC, 2, .inl cf)), (wa, .inl (cW, 2, .inl wf)), (la, .inl (cL, 2, .inl lf)), (wt, .inl (cT, 2, .inl tf)), (ti, .inl (cI, 2, .inl if0)), (lu, .inl (cU, 2, .inl uf)), (it, .inl (cY, 2, .inl yf)), (il, .inl (cZ, 2, .inl zf)), (un, .inl (cV, 2, .inl (fun _ => 0))), (bm, .inl (cB, 4, .inl bmf))] := hD
  generalize efs_8 : (fs_6.set 44 (.int 1)) = fs_8 at hP hD
  have lfs_8 : fs_8.length = 81 := by rw [← efs_8, List.length_set]; exact lfs_6
  have ffs_8_11 : fs_8[11]? = some (.ref kn) := by rw [← efs_8]; exact p1_sn (by decide) ffs_6_11
  have ffs_8_12 : fs_8[12]? = some (.ref co) := by rw [← efs_8]; exact p1_sn (by decide) ffs_6_12
  have ffs_8_13 : fs_8[13]? = some (.ref wa) := by rw [← efs_8]; exact p1_sn (by decide) ffs_6_13
  have ffs_8_14 : fs_8[14]? = some (.ref la) := by rw [← efs_8]; exact p1_sn (by decide) ffs_6_14
  have ffs_8_15 : fs_8[15]? = some (.ref wt) := by rw [← efs_8]; exact p1_sn (by decide) ffs_6_15
  have ffs_8_16 : fs_8[16]? = some (.ref ti) := by rw [← efs_8]; exact p1_sn (by decide) ffs_6_16
  have ffs_8_17 : fs_8[17]? = some (.ref lu) := by rw [← efs_8]; exact p1_sn (by decide) ffs_6_17
  have ffs_8_19 : fs_8[19]? = some (.ref it) := by rw [← efs_8]; exact p1_sn (by decide) ffs_6_19
  have ffs_8_20 : fs_8[20]? = some (.ref il) := by rw [← efs_8]; exact p1_sn (by decide) ffs_6_20
  have ffs_8_43 : fs_8[43]? = some (.int 0) := by rw [← efs_8]; exact p1_sn (by decide) ffs_6_43
  have ffs_8_18 : fs_8[18]? = some (.ref un) := by rw [← efs_8]; exact p1_sn (by decide) ffs_6_18
  have ffs_8_78 : fs_8[78]? = some (.ref bm) := by rw [← efs_8]; exact p1_sn (by decide) ffs_6_78
  have ffs_8_4 : fs_8[4]? = some (.int 0) := by rw [← efs_8]; exact p1_sn (by decide) ffs_6_4
  have ffs_8_5 : fs_8[5]? = some (.int (-1)) := by rw [← efs_8]; exact p1_sn (by decide) ffs_6_5
  have ffs_8_3 : fs_8[3]? = some (.int 0) := by rw [← efs_8]; exact p1_sn (by decide) ffs_6_3
  have ffs_8_2 : fs_8[2]? = some (.int 0) := by rw [← efs_8]; exact p1_sn (by decide) ffs_6_2
  have ffs_8_7 : fs_8[7]? = some (.int 0) := by rw [← efs_8]; exact p1_sn (by decide) ffs_6_7
  have ffs_8_44 : fs_8[44]? = some (.int 1) := by rw [← efs_8]; exact p1_sa lfs_6 (by decide)
  refine lv_aload_n hx hb dX9_shop_66 rfl (lv_at hl 1 rfl) ?_
  have hPc := hP.sub (ws' := [(mo, .inr (8, fs_8)), (kn, .inl (cK, 2, .inl kf)), (co, .inl (cC, 2, .inl cf)), (wa, .inl (cW, 2, .inl wf)), (la, .inl (cL, 2, .inl lf)), (wt, .inl (cT, 2, .inl tf)), (ti, .inl (cI, 2, .inl if0)), (lu, .inl (cU, 2, .inl uf)), (it, .inl (cY, 2, .inl yf)), (il, .inl (cZ, 2, .inl zf))]) [0, 1, 2, 3, 4, 5, 6, 7, 8, 9] rfl
  have hDc := hD.sub (ws' := [(mo, .inr (8, fs_8)), (kn, .inl (cK, 2, .inl kf)), (co, .inl (cC, 2, .inl cf)), (wa, .inl (cW, 2, .inl wf)), (la, .inl (cL, 2, .inl lf)), (wt, .inl (cT, 2, .inl tf)), (ti, .inl (cI, 2, .inl if0)), (lu, .inl (cU, 2, .inl uf)), (it, .inl (cY, 2, .inl yf)), (il, .inl (cZ, 2, .inl zf))]) [0, 1, 2, 3, 4, 5, 6, 7, 8, 9] (by decide) rfl
  have hKc := hK.sub (tys' := [(cK, .int), (cC, .int), (cW, .int), (cL, .int), (cT, .int), (cI, .int), (cU, .int), (cY, .boolean), (cZ, .boolean)]) [0, 1, 2, 3, 4, 5, 6, 7, 8] rfl
  have hFc := va_free (wc := [(mo, .inr (8, fs_8)), (kn, .inl (cK, 2, .inl kf)), (co, .inl (cC, 2, .inl cf)), (wa, .inl (cW, 2, .inl wf)), (la, .inl (cL, 2, .inl lf)), (wt, .inl (cT, 2, .inl tf)), (ti, .inl (cI, 2, .inl if0)), (lu, .inl (cU, 2, .inl uf)), (it, .inl (cY, 2, .inl yf)), (il, .inl (cZ, 2, .inl zf))]) hD hS hA [0, 1, 2, 3, 4, 5, 6, 7, 8, 9] rfl
  refine va_callv (va_runV (As := []) (rest := []) ⟨hx, hb, hml, hown, hts⟩ (c_clearBank1 l dC dI H.size mo fs_8 un bm kn co wa la wt ti lu it il cK kf cC cf cW wf cL lf cT tf cI if0 cU uf cY yf cZ zf ffs_8_2 ffs_8_3 ffs_8_4 ffs_8_43 ffs_8_18 ffs_8_78 ffs_8_7 ffs_8_11 ffs_8_12 ffs_8_13 ffs_8_14 ffs_8_15 ffs_8_16 ffs_8_17 ffs_8_19 ffs_8_20 ffs_8_44 lfs_8) (cwV 0 hts (p1_gV m_7 m_8 m_9 m_10 g_c_clearBank1 gz_c_clearBank1) rfl rfl rfl (by decide +kernel) ⟨by decide, by decide⟩) ⟨fun a U g mk q => by obtain ⟨q0, q1, qP, qK, qD⟩ := q; exact ⟨q0, q1, qP, va_K.moved (u := U) (U := U.calling g mk a) (Vm.Alike.refl U.vm) qK, qD⟩, va_recv hKc hPc (ci := 8) (q0 := 0) rfl rfl, fun U hU hW => ⟨rfl, by rw [hU], by rw [hU]; exact hPc, va_K.moved hW.alike hKc, hDc.weaken (fun _ _ _ _ => trivial)⟩⟩ rfl rfl hl.1 rfl (lv_room (Nat.le_of_ble_eq_true rfl)) dX9_shop_67 ⟨by decide, by decide⟩) hS (fun q _ h => hFc q h) hFc (fun u t H1 locs ht hvm hw hB hz1 hk1 hS => ?_)
  obtain ⟨mt_10, kfo_11, z_12, z_13, z_14, z_15, z_16, z_17, z_18, z_19, z_20, z_21, z_22, z_23, z_24, z_25, z_26, z_27, z_28, z_29, z_30, z_31, hP1, hK1, hD1⟩ := hB
  rw [ht] at hP1
  obtain ⟨hP, hD⟩ := va_join (wr := [(un, .inl (cV, 2, .inl (fun _ => 0))), (bm, .inl (cB, 4, .inl bmf))]) (w1 := [(mo, .inr (8, mt_10)), (kn, .inl (cK, 2, .inl kfo_11))]) hP hD [0, 1, 2, 3, 4, 5, 6, 7, 8, 9] [10, 11] rfl rfl (by decide) (by decide) hk1 hFc hP1 hD1
  generalize H1 = H at hP hS ⊢
  have hP : va_P (dC, dI) vwCl [(un, .inl (cV, 2, .inl (fun _ => 0))), (bm, .inl (cB, 4, .inl bmf)), (mo, .inr (8, mt_10)), (kn, .inl (cK, 2, .inl kfo_11))] H := hP
  have hD : va_D A [(un, .inl (cV, 2, .inl (fun _ => 0))), (bm, .inl (cB, 4, .inl bmf)), (mo, .inr (8, mt_10)), (kn, .inl (cK, 2, .inl kfo_11))] := hD
  try dsimp only at hw
  refine lv_aload_n hx hb dX9_shop_70 rfl (lv_at hl 1 rfl) ?_
  have hPc := hP.sub (ws' := [(mo, .inr (8, mt_10))]) [2] rfl
  have hDc := hD.sub (ws' := [(mo, .inr (8, mt_10))]) [2] (by decide) rfl
  have hKc := hK.sub (tys' := []) [] rfl
  have hFc := va_free (wc := [(mo, .inr (8, mt_10))]) hD hS hA [2] rfl
  refine va_callv (va_runV (As := []) (rest := []) ⟨hx, hb, hml, hown, hts⟩ (c_goOn0 l dC dI H.size mo mt_10 un bm kn z_13 z_14 z_15 z_16 z_17 z_18 z_20 z_29 z_30 z_19 z_12) (cwV 0 hts (p1_gV m_11 m_12 m_13 m_10 g_c_goOn0 gz_c_goOn0) rfl rfl rfl (by decide +kernel) ⟨by decide, by decide⟩) ⟨fun a U g mk q => by obtain ⟨q0, q1, qP, qK, qD⟩ := q; exact ⟨q0, q1, qP, va_K.moved (u := U) (U := U.calling g mk a) (Vm.Alike.refl U.vm) qK, qD⟩, va_recv hKc hPc (ci := 8) (q0 := 0) rfl rfl, fun U hU hW => ⟨rfl, by rw [hU], by rw [hU]; exact hPc, va_K.moved hW.alike hKc, hDc.weaken (fun _ _ _ _ => trivial)⟩⟩ rfl rfl hl.1 rfl (lv_room (Nat.le_of_ble_eq_true rfl)) dX9_shop_71 ⟨by decide, by decide⟩) hS (fun q _ h => hFc q h) hFc (fun u t H1 locs ht hvm hw hB hz1 hk1 hS => ?_)
  obtain ⟨mt_33, z_34, z_35, z_36, z_37, z_38, z_39, z_40, z_41, z_42, z_43, z_44, hP1, hK1, hD1⟩ := hB
  rw [ht] at hP1
  obtain ⟨hP, hD⟩ := va_join (wr := [(un, .inl (cV, 2, .inl (fun _ => 0))), (bm, .inl (cB, 4, .inl bmf)), (kn, .inl (cK, 2, .inl kfo_11))]) (w1 := [(mo, .inr (8, mt_33))]) hP hD [2] [0, 1, 3] rfl rfl (by decide) (by decide) hk1 hFc hP1 hD1
  generalize H1 = H at hP hS ⊢
  have hP : va_P (dC, dI) vwCl [(un, .inl (cV, 2, .inl (fun _ => 0))), (bm, .inl (cB, 4, .inl bmf)), (kn, .inl (cK, 2, .inl kfo_11)), (mo, .inr (8, mt_33))] H := hP
  have hD : va_D A [(un, .inl (cV, 2, .inl (fun _ => 0))), (bm, .inl (cB, 4, .inl bmf)), (kn, .inl (cK, 2, .inl kfo_11)), (mo, .inr (8, mt_33))] := hD
  try dsimp only at hw
  refine lv_aload_n hx hb dX9_shop_74 rfl (lv_at hl 1 rfl) ?_
  have hPc := hP.sub (ws' := [(mo, .inr (8, mt_33))]) [3] rfl
  have hDc := hD.sub (ws' := [(mo, .inr (8, mt_33))]) [3] (by decide) rfl
  have hKc := hK.sub (tys' := []) [] rfl
  have hFc := va_free (wc := [(mo, .inr (8, mt_33))]) hD hS hA [3] rfl
  refine va_calli (va_runV (As := []) (rest := []) ⟨hx, hb, hml, hown, hts⟩ (c_isGood l dC dI H.size mo mt_33 z_37) (cwV 0 hts (p1_gV m_14 m_15 m_16 m_10 g_c_isGood gz_c_isGood) rfl rfl rfl (by decide +kernel) ⟨by decide, by decide⟩) ⟨fun a U g mk q => by obtain ⟨q0, q1, qP, qK, qD⟩ := q; exact ⟨q0, q1, qP, va_K.moved (u := U) (U := U.calling g mk a) (Vm.Alike.refl U.vm) qK, qD⟩, va_recv hKc hPc (ci := 8) (q0 := 0) rfl rfl, fun U hU hW => ⟨rfl, by rw [hU], by rw [hU]; exact hPc, va_K.moved hW.alike hKc, hDc.weaken (fun _ _ _ _ => trivial)⟩⟩ rfl rfl hl.1 rfl (lv_room (Nat.le_of_ble_eq_true rfl)) dX9_shop_75 ⟨by decide, by decide⟩) hS (fun q _ h => hFc q h) hFc (fun r_45 u t H1 locs ht hvm hw hB hz1 hk1 hS => ?_)
  obtain ⟨hP1, hK1, hD1⟩ := hB
  rw [ht] at hP1
  obtain ⟨hP, hD⟩ := va_join (wr := [(un, .inl (cV, 2, .inl (fun _ => 0))), (bm, .inl (cB, 4, .inl bmf)), (kn, .inl (cK, 2, .inl kfo_11))]) (w1 := [(mo, .inr (8, mt_33))]) hP hD [3] [0, 1, 2] rfl rfl (by decide) (by decide) hk1 hFc hP1 hD1
  generalize H1 = H at hP hS ⊢
  have hP : va_P (dC, dI) vwCl [(un, .inl (cV, 2, .inl (fun _ => 0))), (bm, .inl (cB, 4, .inl bmf)), (kn, .inl (cK, 2, .inl kfo_11)), (mo, .inr (8, mt_33))] H := hP
  have hD : va_D A [(un, .inl (cV, 2, .inl (fun _ => 0))), (bm, .inl (cB, 4, .inl bmf)), (kn, .inl (cK, 2, .inl kfo_11)), (mo, .inr (8, mt_33))] := hD
  try dsimp only at hw
  obtain rfl : r_45 = 1 := hw
  refine lv_if_eq (tgt := 95) hx hb dX9_shop_78 (by decide) (fun c9 => absurd c9 (by decide)) (fun _ => ?_)
  refine lv_aload_n hx hb dX9_shop_81 rfl (lv_at hl 1 rfl) ?_
  refine va_get (D := (dC, dI)) (ci := 8) (v := .int 0) (C := RX9) (T := TX9) (N := 81) hx hb hts i_X9 hown hK hP 3 rfl rfl 8 (by decide) k_17 (fun _ h9 => h9) z_44 dX9_shop_82 ?_
  refine lv_if_eq (tgt := 95) hx hb dX9_shop_85 (by decide) (fun _ => ?_) (fun c9 => absurd c9 (by decide))
  refine lv_aload_n hx hb dX9_shop_95 rfl (lv_at hl 1 rfl) ?_
  have hPc := hP.sub (ws' := [(mo, .inr (8, mt_33))]) [3] rfl
  have hDc := hD.sub (ws' := [(mo, .inr (8, mt_33))]) [3] (by decide) rfl
  have hKc := hK.sub (tys' := []) [] rfl
  have hFc := va_free (wc := [(mo, .inr (8, mt_33))]) hD hS hA [3] rfl
  refine va_calli (va_runV (As := []) (rest := []) ⟨hx, hb, hml, hown, hts⟩ (c_isGood l dC dI H.size mo mt_33 z_37) (cwV 0 hts (p1_gV m_14 m_15 m_16 m_10 g_c_isGood gz_c_isGood) rfl rfl rfl (by decide +kernel) ⟨by decide, by decide⟩) ⟨fun a U g mk q => by obtain ⟨q0, q1, qP, qK, qD⟩ := q; exact ⟨q0, q1, qP, va_K.moved (u := U) (U := U.calling g mk a) (Vm.Alike.refl U.vm) qK, qD⟩, va_recv hKc hPc (ci := 8) (q0 := 0) rfl rfl, fun U hU hW => ⟨rfl, by rw [hU], by rw [hU]; exact hPc, va_K.moved hW.alike hKc, hDc.weaken (fun _ _ _ _ => trivial)⟩⟩ rfl rfl hl.1 rfl (lv_room (Nat.le_of_ble_eq_true rfl)) dX9_shop_96 ⟨by decide, by decide⟩) hS (fun q _ h => hFc q h) hFc (fun r_48 u t H1 locs ht hvm hw hB hz1 hk1 hS => ?_)
  obtain ⟨hP1, hK1, hD1⟩ := hB
  rw [ht] at hP1
  obtain ⟨hP, hD⟩ := va_join (wr := [(un, .inl (cV, 2, .inl (fun _ => 0))), (bm, .inl (cB, 4, .inl bmf)), (kn, .inl (cK, 2, .inl kfo_11))]) (w1 := [(mo, .inr (8, mt_33))]) hP hD [3] [0, 1, 2] rfl rfl (by decide) (by decide) hk1 hFc hP1 hD1
  generalize H1 = H at hP hS ⊢
  have hP : va_P (dC, dI) vwCl [(un, .inl (cV, 2, .inl (fun _ => 0))), (bm, .inl (cB, 4, .inl bmf)), (kn, .inl (cK, 2, .inl kfo_11)), (mo, .inr (8, mt_33))] H := hP
  have hD : va_D A [(un, .inl (cV, 2, .inl (fun _ => 0))), (bm, .inl (cB, 4, .inl bmf)), (kn, .inl (cK, 2, .inl kfo_11)), (mo, .inr (8, mt_33))] := hD
  try dsimp only at hw
  obtain rfl : r_48 = 1 := hw
  refine lv_if_ne (tgt := 104) hx hb dX9_shop_99 (by decide) (fun _ => ?_) (fun c9 => absurd c9 (by decide))
  refine lv_aload_n hx hb dX9_shop_104 rfl (lv_at hl 1 rfl) ?_
  refine va_get (D := (dC, dI)) (ci := 8) (v := .ref un) (C := RX9) (T := TX9) (N := 81) hx hb hts i_X9 hown hK hP 3 rfl rfl 18 (by decide) k_18 (fun _ h9 => h9) z_39 dX9_shop_105 ?_
  refine lv_aload_n hx hb dX9_shop_108 rfl (lv_at hl 1 rfl) ?_
  refine va_get (D := (dC, dI)) (ci := 8) (v := .int 1) (C := RX9) (T := TX9) (N := 81) hx hb hts i_X9 hown hK hP 3 rfl rfl 44 (by decide) k_6 (fun _ h9 => h9) z_42 dX9_shop_109 ?_
  refine lv_aload_n hx hb dX9_shop_112 rfl (lv_at hl 1 rfl) ?_
  refine va_get (D := (dC, dI)) (ci := 8) (v := .int 0) (C := RX9) (T := TX9) (N := 81) hx hb hts i_X9 hown hK hP 3 rfl rfl 46 (by decide) k_19 (fun _ h9 => h9) z_43 dX9_shop_113 ?_
  refine va_iast hx hb hK hP hD hS 0 9 rfl rfl (p1_in (i := 1) (n := 2) (by decide)) dX9_shop_116 (fun H locs hP hD hS => ?_)
  have hP : va_P (dC, dI) vwCl [(un, .inl (cV, 2, .inl (upd (fun _ => 0) (1 : Int32).toNatClampNeg 0))), (bm, .inl (cB, 4, .inl bmf)), (kn, .inl (cK, 2, .inl kfo_11)), (mo, .inr (8, mt_33))] H := hP
  have hD : va_D A [(un, .inl (cV, 2, .inl (upd (fun _ => 0) (1 : Int32).toNatClampNeg 0))), (bm, .inl (cB, 4, .inl bmf)), (kn, .inl (cK, 2, .inl kfo_11)), (mo, .inr (8, mt_33))] := hD
  generalize eg_50 : (upd (fun _ => 0) (1 : Int32).toNatClampNeg 0) = g_50 at hP hD
  refine lv_aload_n hx hb dX9_shop_117 rfl (lv_at hl 1 rfl) ?_
  refine lv_aload_n hx hb dX9_shop_118 rfl (lv_at hl 1 rfl) ?_
  refine va_get (D := (dC, dI)) (ci := 8) (v := .int 1) (C := RX9) (T := TX9) (N := 81) hx hb hts i_X9 hown hK hP 3 rfl rfl 44 (by decide) k_6 (fun _ h9 => h9) z_42 dX9_shop_119 ?_
  refine va_put (D := (dC, dI)) (ci := 8) (v := .int 1) (ty := .int) (C := RX9) (T := TX9) (N := 81) hx hb hts i_X9 tyX9 tyX9_ok nmX9 hown hK hP hD hS 3 rfl rfl 43 (by decide) k_5 (fun _ h9 => h9) rfl (by decide +kernel) rfl rfl (by rw [z_34]; decide) dX9_shop_122 (fun H locs hP hD hS => ?_)
  have hP : va_P (dC, dI) vwCl [(un, .inl (cV, 2, .inl g_50)), (bm, .inl (cB, 4, .inl bmf)), (kn, .inl (cK, 2, .inl kfo_11)), (mo, .inr (8, (mt_33.set 43 (.int 1))))] H := hP
  have hD : va_D A [(un, .inl (cV, 2, .inl g_50)), (bm, .inl (cB, 4, .inl bmf)), (kn, .inl (cK, 2, .inl kfo_11)), (mo, .inr (8, (mt_33.set 43 (.int 1))))] := hD
  generalize efs_51 : (mt_33.set 43 (.int 1)) = fs_51 at hP hD
  have lfs_51 : fs_51.length = 81 := by rw [← efs_51, List.length_set]; exact z_34
  have ffs_51_2 : fs_51[2]? = some (.int 0) := by rw [← efs_51]; exact p1_sn (by decide) z_35
  have ffs_51_3 : fs_51[3]? = some (.int 0) := by rw [← efs_51]; exact p1_sn (by decide) z_36
  have ffs_51_4 : fs_51[4]? = some (.int 0) := by rw [← efs_51]; exact p1_sn (by decide) z_37
  have ffs_51_18 : fs_51[18]? = some (.ref un) := by rw [← efs_51]; exact p1_sn (by decide) z_39
  have ffs_51_78 : fs_51[78]? = some (.ref bm) := by rw [← efs_51]; exact p1_sn (by decide) z_40
  have ffs_51_11 : fs_51[11]? = some (.ref kn) := by rw [← efs_51]; exact p1_sn (by decide) z_41
  have ffs_51_44 : fs_51[44]? = some (.int 1) := by rw [← efs_51]; exact p1_sn (by decide) z_42
  have ffs_51_46 : fs_51[46]? = some (.int 0) := by rw [← efs_51]; exact p1_sn (by decide) z_43
  have ffs_51_8 : fs_51[8]? = some (.int 0) := by rw [← efs_51]; exact p1_sn (by decide) z_44
  have ffs_51_43 : fs_51[43]? = some (.int 1) := by rw [← efs_51]; exact p1_sa z_34 (by decide)
  refine lv_aload_n hx hb dX9_shop_125 rfl (lv_at hl 1 rfl) ?_
  refine lv_iconst (v := 0) hx hb dX9_shop_126 (by decide) ?_
  refine va_put (D := (dC, dI)) (ci := 8) (v := .int 0) (ty := .boolean) (C := RX9) (T := TX9) (N := 81) hx hb hts i_X9 tyX9 tyX9_ok nmX9 hown hK hP hD hS 3 rfl rfl 60 (by decide) k_20 (fun _ h9 => h9) rfl (by decide +kernel) rfl rfl (by rw [lfs_51]; decide) dX9_shop_127 (fun H locs hP hD hS => ?_)
  have hP : va_P (dC, dI) vwCl [(un, .inl (cV, 2, .inl g_50)), (bm, .inl (cB, 4, .inl bmf)), (kn, .inl (cK, 2, .inl kfo_11)), (mo, .inr (8, (fs_51.set 60 (.int 0))))] H := hP
  have hD : va_D A [(un, .inl (cV, 2, .inl g_50)), (bm, .inl (cB, 4, .inl bmf)), (kn, .inl (cK, 2, .inl kfo_11)), (mo, .inr (8, (fs_51.set 60 (.int 0))))] := hD
  generalize efs_52 : (fs_51.set 60 (.int 0)) = fs_52 at hP hD
  have lfs_52 : fs_52.length = 81 := by rw [← efs_52, List.length_set]; exact lfs_51
  have ffs_52_2 : fs_52[2]? = some (.int 0) := by rw [← efs_52]; exact p1_sn (by decide) ffs_51_2
  have ffs_52_3 : fs_52[3]? = some (.int 0) := by rw [← efs_52]; exact p1_sn (by decide) ffs_51_3
  have ffs_52_4 : fs_52[4]? = some (.int 0) := by rw [← efs_52]; exact p1_sn (by decide) ffs_51_4
  have ffs_52_18 : fs_52[18]? = some (.ref un) := by rw [← efs_52]; exact p1_sn (by decide) ffs_51_18
  have ffs_52_78 : fs_52[78]? = some (.ref bm) := by rw [← efs_52]; exact p1_sn (by decide) ffs_51_78
  have ffs_52_11 : fs_52[11]? = some (.ref kn) := by rw [← efs_52]; exact p1_sn (by decide) ffs_51_11
  have ffs_52_44 : fs_52[44]? = some (.int 1) := by rw [← efs_52]; exact p1_sn (by decide) ffs_51_44
  have ffs_52_46 : fs_52[46]? = some (.int 0) := by rw [← efs_52]; exact p1_sn (by decide) ffs_51_46
  have ffs_52_8 : fs_52[8]? = some (.int 0) := by rw [← efs_52]; exact p1_sn (by decide) ffs_51_8
  have ffs_52_43 : fs_52[43]? = some (.int 1) := by rw [← efs_52]; exact p1_sn (by decide) ffs_51_43
  have ffs_52_60 : fs_52[60]? = some (.int 0) := by rw [← efs_52]; exact p1_sa lfs_51 (by decide)
  refine lv_aload_n hx hb dX9_shop_130 rfl (lv_at hl 1 rfl) ?_
  refine lv_iconst (v := 0) hx hb dX9_shop_131 (by decide) ?_
  refine va_put (D := (dC, dI)) (ci := 8) (v := .int 0) (ty := .int) (C := RX9) (T := TX9) (N := 81) hx hb hts i_X9 tyX9 tyX9_ok nmX9 hown hK hP hD hS 3 rfl rfl 75 (by decide) k_21 (fun _ h9 => h9) rfl (by decide +kernel) rfl rfl (by rw [lfs_52]; decide) dX9_shop_132 (fun H locs hP hD hS => ?_)
  have hP : va_P (dC, dI) vwCl [(un, .inl (cV, 2, .inl g_50)), (bm, .inl (cB, 4, .inl bmf)), (kn, .inl (cK, 2, .inl kfo_11)), (mo, .inr (8, (fs_52.set 75 (.int 0))))] H := hP
  have hD : va_D A [(un, .inl (cV, 2, .inl g_50)), (bm, .inl (cB, 4, .inl bmf)), (kn, .inl (cK, 2, .inl kfo_11)), (mo, .inr (8, (fs_52.set 75 (.int 0))))] := hD
  generalize efs_53 : (fs_52.set 75 (.int 0)) = fs_53 at hP hD
  have lfs_53 : fs_53.length = 81 := by rw [← efs_53, List.length_set]; exact lfs_52
  have ffs_53_2 : fs_53[2]? = some (.int 0) := by rw [← efs_53]; exact p1_sn (by decide) ffs_52_2
  have ffs_53_3 : fs_53[3]? = some (.int 0) := by rw [← efs_53]; exact p1_sn (by decide) ffs_52_3
  have ffs_53_4 : fs_53[4]? = some (.int 0) := by rw [← efs_53]; exact p1_sn (by decide) ffs_52_4
  have ffs_53_18 : fs_53[18]? = some (.ref un) := by rw [← efs_53]; exact p1_sn (by decide) ffs_52_18
  have ffs_53_78 : fs_53[78]? = some (.ref bm) := by rw [← efs_53]; exact p1_sn (by decide) ffs_52_78
  have ffs_53_11 : fs_53[11]? = some (.ref kn) := by rw [← efs_53]; exact p1_sn (by decide) ffs_52_11
  have ffs_53_44 : fs_53[44]? = some (.int 1) := by rw [← efs_53]; exact p1_sn (by decide) ffs_52_44
  have ffs_53_46 : fs_53[46]? = some (.int 0) := by rw [← efs_53]; exact p1_sn (by decide) ffs_52_46
  have ffs_53_8 : fs_53[8]? = some (.int 0) := by rw [← efs_53]; exact p1_sn (by decide) ffs_52_8
  have ffs_53_43 : fs_53[43]? = some (.int 1) := by rw [← efs_53]; exact p1_sn (by decide) ffs_52_43
  have ffs_53_75 : fs_53[75]? = some (.int 0) := by rw [← efs_53]; exact p1_sa lfs_52 (by decide)
  refine lv_iconst (v := 0) hx hb dX9_shop_135 (by decide) ?_
  refine lv_istore_n (lv' := [(1, .int 0), (0, .ref mo)]) hx hb dX9_shop_136 rfl hl (by decide) rfl (fun ls hl => ?_)
  refine lv_iload_n hx hb dX9_shop_137 rfl (lv_at hl 0 rfl) ?_
  refine lv_iconst (v := 3) hx hb dX9_shop_138 (by decide) ?_
  refine lv_icmp_ge (tgt := 155) hx hb dX9_shop_139 (by decide) (fun c9 => absurd c9 (by decide)) (fun _ => ?_)
  refine lv_aload_n hx hb dX9_shop_142 rfl (lv_at hl 1 rfl) ?_
  refine va_get (D := (dC, dI)) (ci := 8) (v := .ref bm) (C := RX9) (T := TX9) (N := 81) hx hb hts i_X9 hown hK hP 3 rfl rfl 78 (by decide) k_22 (fun _ h9 => h9) ffs_53_78 dX9_shop_143 ?_
  refine lv_iload_n hx hb dX9_shop_146 rfl (lv_at hl 0 rfl) ?_
  refine lv_iconst (v := (-1)) hx hb dX9_shop_147 (by decide) ?_
  refine va_iast hx hb hK hP hD hS 1 10 rfl rfl (p1_in (i := 0) (n := 4) (by decide)) dX9_shop_148 (fun H locs hP hD hS => ?_)
  have hP : va_P (dC, dI) vwCl [(un, .inl (cV, 2, .inl g_50)), (bm, .inl (cB, 4, .inl (upd bmf (0 : Int32).toNatClampNeg (-1)))), (kn, .inl (cK, 2, .inl kfo_11)), (mo, .inr (8, fs_53))] H := hP
  have hD : va_D A [(un, .inl (cV, 2, .inl g_50)), (bm, .inl (cB, 4, .inl (upd bmf (0 : Int32).toNatClampNeg (-1)))), (kn, .inl (cK, 2, .inl kfo_11)), (mo, .inr (8, fs_53))] := hD
  generalize eg_55 : (upd bmf (0 : Int32).toNatClampNeg (-1)) = g_55 at hP hD
  refine lv_iinc (v := 1) (lv' := [(1, .int 1), (0, .ref mo)]) hx hb dX9_shop_149 hl (k := 0) rfl (by decide) (by decide) rfl (fun ls hl => ?_)
  refine lv_goto (tgt := 137) hx hb dX9_shop_152 (by decide) ?_
  refine lv_iload_n hx hb dX9_shop_137 rfl (lv_at hl 0 rfl) ?_
  refine lv_iconst (v := 3) hx hb dX9_shop_138 (by decide) ?_
  refine lv_icmp_ge (tgt := 155) hx hb dX9_shop_139 (by decide) (fun c9 => absurd c9 (by decide)) (fun _ => ?_)
  refine lv_aload_n hx hb dX9_shop_142 rfl (lv_at hl 1 rfl) ?_
  refine va_get (D := (dC, dI)) (ci := 8) (v := .ref bm) (C := RX9) (T := TX9) (N := 81) hx hb hts i_X9 hown hK hP 3 rfl rfl 78 (by decide) k_22 (fun _ h9 => h9) ffs_53_78 dX9_shop_143 ?_
  refine lv_iload_n hx hb dX9_shop_146 rfl (lv_at hl 0 rfl) ?_
  refine lv_iconst (v := (-1)) hx hb dX9_shop_147 (by decide) ?_
  refine va_iast hx hb hK hP hD hS 1 10 rfl rfl (p1_in (i := 1) (n := 4) (by decide)) dX9_shop_148 (fun H locs hP hD hS => ?_)
  have hP : va_P (dC, dI) vwCl [(un, .inl (cV, 2, .inl g_50)), (bm, .inl (cB, 4, .inl (upd g_55 (1 : Int32).toNatClampNeg (-1)))), (kn, .inl (cK, 2, .inl kfo_11)), (mo, .inr (8, fs_53))] H := hP
  have hD : va_D A [(un, .inl (cV, 2, .inl g_50)), (bm, .inl (cB, 4, .inl (upd g_55 (1 : Int32).toNatClampNeg (-1)))), (kn, .inl (cK, 2, .inl kfo_11)), (mo, .inr (8, fs_53))] := hD
  generalize eg_57 : (upd g_55 (1 : Int32).toNatClampNeg (-1)) = g_57 at hP hD
  refine lv_iinc (v := 2) (lv' := [(1, .int 2), (0, .ref mo)]) hx hb dX9_shop_149 hl (k := 0) rfl (by decide) (by decide) rfl (fun ls hl => ?_)
  refine lv_goto (tgt := 137) hx hb dX9_shop_152 (by decide) ?_
  refine lv_iload_n hx hb dX9_shop_137 rfl (lv_at hl 0 rfl) ?_
  refine lv_iconst (v := 3) hx hb dX9_shop_138 (by decide) ?_
  refine lv_icmp_ge (tgt := 155) hx hb dX9_shop_139 (by decide) (fun c9 => absurd c9 (by decide)) (fun _ => ?_)
  refine lv_aload_n hx hb dX9_shop_142 rfl (lv_at hl 1 rfl) ?_
  refine va_get (D := (dC, dI)) (ci := 8) (v := .ref bm) (C := RX9) (T := TX9) (N := 81) hx hb hts i_X9 hown hK hP 3 rfl rfl 78 (by decide) k_22 (fun _ h9 => h9) ffs_53_78 dX9_shop_143 ?_
  refine lv_iload_n hx hb dX9_shop_146 rfl (lv_at hl 0 rfl) ?_
  refine lv_iconst (v := (-1)) hx hb dX9_shop_147 (by decide) ?_
  refine va_iast hx hb hK hP hD hS 1 10 rfl rfl (p1_in (i := 2) (n := 4) (by decide)) dX9_shop_148 (fun H locs hP hD hS => ?_)
  have hP : va_P (dC, dI) vwCl [(un, .inl (cV, 2, .inl g_50)), (bm, .inl (cB, 4, .inl (upd g_57 (2 : Int32).toNatClampNeg (-1)))), (kn, .inl (cK, 2, .inl kfo_11)), (mo, .inr (8, fs_53))] H := hP
  have hD : va_D A [(un, .inl (cV, 2, .inl g_50)), (bm, .inl (cB, 4, .inl (upd g_57 (2 : Int32).toNatClampNeg (-1)))), (kn, .inl (cK, 2, .inl kfo_11)), (mo, .inr (8, fs_53))] := hD
  generalize eg_59 : (upd g_57 (2 : Int32).toNatClampNeg (-1)) = g_59 at hP hD
  refine lv_iinc (v := 3) (lv' := [(1, .int 3), (0, .ref mo)]) hx hb dX9_shop_149 hl (k := 0) rfl (by decide) (by decide) rfl (fun ls hl => ?_)
  refine lv_goto (tgt := 137) hx hb dX9_shop_152 (by decide) ?_
  refine lv_iload_n hx hb dX9_shop_137 rfl (lv_at hl 0 rfl) ?_
  refine lv_iconst (v := 3) hx hb dX9_shop_138 (by decide) ?_
  refine lv_icmp_ge (tgt := 155) hx hb dX9_shop_139 (by decide) (fun _ => ?_) (fun c9 => absurd c9 (by decide))
  refine lv_aload_n hx hb dX9_shop_155 rfl (lv_at hl 1 rfl) ?_
  refine va_get (D := (dC, dI)) (ci := 8) (v := .ref kn) (C := RX9) (T := TX9) (N := 81) hx hb hts i_X9 hown hK hP 3 rfl rfl 11 (by decide) k_23 (fun _ h9 => h9) ffs_53_11 dX9_shop_156 ?_
  refine lv_aload_n hx hb dX9_shop_159 rfl (lv_at hl 1 rfl) ?_
  refine va_get (D := (dC, dI)) (ci := 8) (v := .int 1) (C := RX9) (T := TX9) (N := 81) hx hb hts i_X9 hown hK hP 3 rfl rfl 43 (by decide) k_5 (fun _ h9 => h9) ffs_53_43 dX9_shop_160 ?_
  refine va_iald hx hb hK hP 2 0 rfl rfl (p1_in (i := 1) (n := 2) (by decide)) dX9_shop_163 ?_
  refine lv_topi (fun v_61 ev_61 => ?_)
  obtain rfl : v_61 = 0 := ev_61.trans z_31
  have hP9 := hP.sub (ws' := []) [] rfl
  have hD9 := hD.sub (ws' := []) [] (by decide) rfl
  have hK9 := hK.sub (tys' := []) [] rfl
  exact W.iret (v := 0) hx hb hr (fun t ht hW => ⟨⟨0, (), rfl, rfl, by rw [ht]; exact hP9, va_K.moved hW.alike hK9, hD9⟩, hS.F ht⟩) hS.2.2 dX9_shop_164
def zo_m_feed : List Cond := [.code yX9_feed cX9_feed 8 (some .int), .fieldLink RX9 288 "BowWalkModel" "taped" "I", .fieldLink RX9 7 "BowWalkModel" "tape" "[B"]
def zw_m_feed : List Cond := zo_m_feed ++ (wsX90 ++ [])
theorem gz_m_feed : zw_m_feed.all goodWord = true := p1_ga (by decide +kernel) (p1_ga gk_X9 p1_g0)
theorem iz_m_feed : ∀ w ∈ zw_m_feed, w ∈ lw_tbl := p1_ia (p1_all [1692, 1039, 1037] (by decide +kernel)) (p1_ia ik_X9 p1_i0)
set_option maxHeartbeats 4000000 in
set_option maxRecDepth 100000 in
theorem m_feed (l : Launch) (dC : Nat → ClassId) (dI : Nat → Nat → Nat) (sz : Nat) (mo : Nat) (ms : List Value) (tp : Nat) (cP : ClassId) (pf0 : Nat → Int32) (a1 : Int32) (a2 : Int32) (a3 : Int32) (a4 : Int32) (a5 : Int32) (f_ms_2 : ms[2]? = some (.int 0)) (f_ms_0 : ms[0]? = some (.ref tp)) (l_ms : ms.length = 81) : Met l yX9_feed zw_m_feed ({ frames := 0, cells := 0, slots := 0, locals := 0 }) (va_Pc [.ref mo, .int a1, .int a2, .int a3, .int a4, .int a5] (fun U => U.heap.size = sz ∧ va_P (dC, dI) vwCl [(mo, .inr (8, ms)), (tp, .inl (cP, 1620, .inl pf0))] U.heap ∧ va_K (dC, dI) vwCl [(cP, .byte)] U ∧ va_D (fun _ => True) [(mo, .inr (8, ms)), (tp, .inl (cP, 1620, .inl pf0))])) (va_Qi (fun (r : Int32) (_ : Unit) => r = 20) (fun _ t => va_P (dC, dI) vwCl [] t.heap ∧ va_K (dC, dI) vwCl [] t ∧ va_D (va_A [(mo, .inr (8, ms)), (tp, .inl (cP, 1620, .inl pf0))] sz) []) (va_A [(mo, .inr (8, ms)), (tp, .inl (cP, 1620, .inl pf0))] sz)) 0 0 (va_A [(mo, .inr (8, ms)), (tp, .inl (cP, 1620, .inl pf0))] sz) := by
  refine Met.ofW (cc := cX9_feed) (maxL := 8) (ret := (some .int)) (by decide) rfl ?_
  intro p e s m args below meth c s₁ B hml hv
  obtain ⟨rfl, hsz, hP, hK, hD0⟩ := hv
  have hx := B.exec
  have hb := B.bytes
  have hr := B.returns
  have hts := atoms_spec (ws := zw_m_feed) B.pre
  have hown : s.vm.findClass RX9 = some m.cls := findClass_of_methodNamed B.named
  have hlocks := B.notSynchronized
  subst hsz
  have hD := hD0.self (sz := s.heap.size)
  generalize hAe : va_A [(mo, .inr (8, ms)), (tp, .inl (cP, 1620, .inl pf0))] s.heap.size = A at hD ⊢
  have hA : ∀ q : Nat, s.heap.size ≤ q → A q := fun q h => by rw [← hAe]; exact Or.inr h
  have hS : va_S A s.heap s.heap [] := va_S.rf
  have hP : va_P (dC, dI) vwCl [(mo, .inr (8, ms)), (tp, .inl (cP, 1620, .inl pf0))] s.heap := hP
  have m_0 : (.fieldLink RX9 288 "BowWalkModel" "taped" "I" : Cond) ∈ zw_m_feed := List.mem_append_left _ (List.mem_of_getElem? (i := 1) rfl)
  have k_0 := hts _ m_0
  have m_1 : (.fieldLink RX9 7 "BowWalkModel" "tape" "[B" : Cond) ∈ zw_m_feed := List.mem_append_left _ (List.mem_of_getElem? (i := 2) rfl)
  have k_1 := hts _ m_1
  have i_X9 : ∀ w ∈ u_ws RX9 TX9 81, w ∈ zw_m_feed := fun w h => List.mem_append_right _ (List.mem_append_left _ h)
  have hl := lv_entry ([.ref mo, .int a1, .int a2, .int a3, .int a4, .int a5]) (n := 8) (Nat.le_of_ble_eq_true rfl)
  rw [lg_entry_eq]
  generalize (lg_sl ([.ref mo, .int a1, .int a2, .int a3, .int a4, .int a5]) ++ List.replicate (8 - (lg_sl ([.ref mo, .int a1, .int a2, .int a3, .int a4, .int a5])).length) Slot.unset).toArray = ls at hl ⊢
  have hl : lv_has ls 8 [(0, .ref mo), (1, .int a1), (2, .int a2), (3, .int a3), (4, .int a4), (5, .int a5)] := hl
  refine lv_aload_n hx hb dX9_feed_0 rfl (lv_at hl 0 rfl) ?_
  refine va_get (D := (dC, dI)) (ci := 8) (v := .int 0) (C := RX9) (T := TX9) (N := 81) hx hb hts i_X9 hown hK hP 0 rfl rfl 2 (by decide) k_0 (fun _ h9 => h9) f_ms_2 dX9_feed_1 ?_
  refine lv_bipush (v := 20) hx hb dX9_feed_4 (by decide) ?_
  refine lv_iadd hx hb dX9_feed_6 ?_
  refine lv_topi (fun v_1 ev_1 => ?_)
  obtain rfl : v_1 = 20 := ev_1.trans (by decide)
  refine lv_sipush (v := 1600) hx hb dX9_feed_7 (by decide) ?_
  refine lv_icmp_le (tgt := 15) hx hb dX9_feed_10 (by decide) (fun _ => ?_) (fun c9 => absurd c9 (by decide))
  refine lv_iconst (v := 0) hx hb dX9_feed_15 (by decide) ?_
  refine lv_istore (lv' := [(6, .int 0), (0, .ref mo), (1, .int a1), (2, .int a2), (3, .int a3), (4, .int a4), (5, .int a5)]) hx hb dX9_feed_16 hl (by decide) rfl (fun ls hl => ?_)
  refine lv_iload hx hb dX9_feed_18 (lv_at hl 0 rfl) ?_
  refine lv_bipush (v := 20) hx hb dX9_feed_20 (by decide) ?_
  refine lv_icmp_ge (tgt := 105) hx hb dX9_feed_22 (by decide) (fun c9 => absurd c9 (by decide)) (fun _ => ?_)
  refine lv_iload hx hb dX9_feed_25 (lv_at hl 0 rfl) ?_
  refine lv_iconst (v := 4) hx hb dX9_feed_27 (by decide) ?_
  refine lv_icmp_ge (tgt := 35) hx hb dX9_feed_28 (by decide) (fun c9 => absurd c9 (by decide)) (fun _ => ?_)
  refine lv_iload_n hx hb dX9_feed_31 rfl (lv_at hl 2 rfl) ?_
  refine lv_goto (tgt := 71) hx hb dX9_feed_32 (by decide) ?_
  refine lv_istore (lv' := [(7, .int a1), (6, .int 0), (0, .ref mo), (1, .int a1), (2, .int a2), (3, .int a3), (4, .int a4), (5, .int a5)]) hx hb dX9_feed_71 hl (by decide) rfl (fun ls hl => ?_)
  refine lv_aload_n hx hb dX9_feed_73 rfl (lv_at hl 2 rfl) ?_
  refine va_get (D := (dC, dI)) (ci := 8) (v := .ref tp) (C := RX9) (T := TX9) (N := 81) hx hb hts i_X9 hown hK hP 0 rfl rfl 0 (by decide) k_1 (fun _ h9 => h9) f_ms_0 dX9_feed_74 ?_
  refine lv_aload_n hx hb dX9_feed_77 rfl (lv_at hl 2 rfl) ?_
  refine va_get (D := (dC, dI)) (ci := 8) (v := .int 0) (C := RX9) (T := TX9) (N := 81) hx hb hts i_X9 hown hK hP 0 rfl rfl 2 (by decide) k_0 (fun _ h9 => h9) f_ms_2 dX9_feed_78 ?_
  refine lv_iload hx hb dX9_feed_81 (lv_at hl 1 rfl) ?_
  refine lv_iadd hx hb dX9_feed_83 ?_
  refine lv_topi (fun v_5 ev_5 => ?_)
  obtain rfl : v_5 = 0 := ev_5.trans (by decide)
  refine lv_iload hx hb dX9_feed_84 (lv_at hl 0 rfl) ?_
  refine lv_bipush (v := 24) hx hb dX9_feed_86 (by decide) ?_
  refine lv_bipush (v := 8) hx hb dX9_feed_88 (by decide) ?_
  refine lv_iload hx hb dX9_feed_90 (lv_at hl 1 rfl) ?_
  refine lv_iconst (v := 3) hx hb dX9_feed_92 (by decide) ?_
  refine lv_iand hx hb dX9_feed_93 ?_
  refine lv_topi (fun v_6 ev_6 => ?_)
  obtain rfl : v_6 = 0 := ev_6.trans (by decide)
  refine lv_imul hx hb dX9_feed_94 ?_
  refine lv_topi (fun v_7 ev_7 => ?_)
  obtain rfl : v_7 = 0 := ev_7.trans (by decide)
  refine lv_isub hx hb dX9_feed_95 ?_
  refine lv_topi (fun v_8 ev_8 => ?_)
  obtain rfl : v_8 = 24 := ev_8.trans (by decide)
  refine lv_ishr hx hb dX9_feed_96 ?_
  refine lv_topi (fun v_9 ev_9 => ?_)
  refine lv_i2b hx hb dX9_feed_97 rfl ?_
  refine lv_topi (fun v_11 ev_11 => ?_)
  refine va_bast hx hb hK hP hD hS 1 0 rfl rfl (p1_in (i := 0) (n := 1620) (by decide)) dX9_feed_98 (fun H locs hP hD hS => ?_)
  have hP : va_P (dC, dI) vwCl [(mo, .inr (8, ms)), (tp, .inl (cP, 1620, .inl (upd pf0 (0 : Int32).toNatClampNeg (vp_nar .byte v_11))))] H := hP
  have hD : va_D A [(mo, .inr (8, ms)), (tp, .inl (cP, 1620, .inl (upd pf0 (0 : Int32).toNatClampNeg (vp_nar .byte v_11))))] := hD
  generalize eg_12 : (upd pf0 (0 : Int32).toNatClampNeg (vp_nar .byte v_11)) = g_12 at hP hD
  refine lv_iinc (v := 1) (lv' := [(6, .int 1), (7, .int a1), (0, .ref mo), (1, .int a1), (2, .int a2), (3, .int a3), (4, .int a4), (5, .int a5)]) hx hb dX9_feed_99 hl (k := 1) rfl (by decide) (by decide) rfl (fun ls hl => ?_)
  refine lv_goto (tgt := 18) hx hb dX9_feed_102 (by decide) ?_
  refine lv_iload hx hb dX9_feed_18 (lv_at hl 0 rfl) ?_
  refine lv_bipush (v := 20) hx hb dX9_feed_20 (by decide) ?_
  refine lv_icmp_ge (tgt := 105) hx hb dX9_feed_22 (by decide) (fun c9 => absurd c9 (by decide)) (fun _ => ?_)
  refine lv_iload hx hb dX9_feed_25 (lv_at hl 0 rfl) ?_
  refine lv_iconst (v := 4) hx hb dX9_feed_27 (by decide) ?_
  refine lv_icmp_ge (tgt := 35) hx hb dX9_feed_28 (by decide) (fun c9 => absurd c9 (by decide)) (fun _ => ?_)
  refine lv_iload_n hx hb dX9_feed_31 rfl (lv_at hl 3 rfl) ?_
  refine lv_goto (tgt := 71) hx hb dX9_feed_32 (by decide) ?_
  refine lv_istore (lv' := [(7, .int a1), (6, .int 1), (0, .ref mo), (1, .int a1), (2, .int a2), (3, .int a3), (4, .int a4), (5, .int a5)]) hx hb dX9_feed_71 hl (by decide) rfl (fun ls hl => ?_)
  refine lv_aload_n hx hb dX9_feed_73 rfl (lv_at hl 2 rfl) ?_
  refine va_get (D := (dC, dI)) (ci := 8) (v := .ref tp) (C := RX9) (T := TX9) (N := 81) hx hb hts i_X9 hown hK hP 0 rfl rfl 0 (by decide) k_1 (fun _ h9 => h9) f_ms_0 dX9_feed_74 ?_
  refine lv_aload_n hx hb dX9_feed_77 rfl (lv_at hl 2 rfl) ?_
  refine va_get (D := (dC, dI)) (ci := 8) (v := .int 0) (C := RX9) (T := TX9) (N := 81) hx hb hts i_X9 hown hK hP 0 rfl rfl 2 (by decide) k_0 (fun _ h9 => h9) f_ms_2 dX9_feed_78 ?_
  refine lv_iload hx hb dX9_feed_81 (lv_at hl 1 rfl) ?_
  refine lv_iadd hx hb dX9_feed_83 ?_
  refine lv_topi (fun v_15 ev_15 => ?_)
  obtain rfl : v_15 = 1 := ev_15.trans (by decide)
  refine lv_iload hx hb dX9_feed_84 (lv_at hl 0 rfl) ?_
  refine lv_bipush (v := 24) hx hb dX9_feed_86 (by decide) ?_
  refine lv_bipush (v := 8) hx hb dX9_feed_88 (by decide) ?_
  refine lv_iload hx hb dX9_feed_90 (lv_at hl 1 rfl) ?_
  refine lv_iconst (v := 3) hx hb dX9_feed_92 (by decide) ?_
  refine lv_iand hx hb dX9_feed_93 ?_
  refine lv_topi (fun v_16 ev_16 => ?_)
  obtain rfl : v_16 = 1 := ev_16.trans (by decide)
  refine lv_imul hx hb dX9_feed_94 ?_
  refine lv_topi (fun v_17 ev_17 => ?_)
  obtain rfl : v_17 = 8 := ev_17.trans (by decide)
  refine lv_isub hx hb dX9_feed_95 ?_
  refine lv_topi (fun v_18 ev_18 => ?_)
  obtain rfl : v_18 = 16 := ev_18.trans (by decide)
  refine lv_ishr hx hb dX9_feed_96 ?_
  refine lv_topi (fun v_19 ev_19 => ?_)
  refine lv_i2b hx hb dX9_feed_97 rfl ?_
  refine lv_topi (fun v_21 ev_21 => ?_)
  refine va_bast hx hb hK hP hD hS 1 0 rfl rfl (p1_in (i := 1) (n := 1620) (by decide)) dX9_feed_98 (fun H locs hP hD hS => ?_)
  have hP : va_P (dC, dI) vwCl [(mo, .inr (8, ms)), (tp, .inl (cP, 1620, .inl (upd g_12 (1 : Int32).toNatClampNeg (vp_nar .byte v_21))))] H := hP
  have hD : va_D A [(mo, .inr (8, ms)), (tp, .inl (cP, 1620, .inl (upd g_12 (1 : Int32).toNatClampNeg (vp_nar .byte v_21))))] := hD
  generalize eg_22 : (upd g_12 (1 : Int32).toNatClampNeg (vp_nar .byte v_21)) = g_22 at hP hD
  refine lv_iinc (v := 2) (lv' := [(6, .int 2), (7, .int a1), (0, .ref mo), (1, .int a1), (2, .int a2), (3, .int a3), (4, .int a4), (5, .int a5)]) hx hb dX9_feed_99 hl (k := 1) rfl (by decide) (by decide) rfl (fun ls hl => ?_)
  refine lv_goto (tgt := 18) hx hb dX9_feed_102 (by decide) ?_
  refine lv_iload hx hb dX9_feed_18 (lv_at hl 0 rfl) ?_
  refine lv_bipush (v := 20) hx hb dX9_feed_20 (by decide) ?_
  refine lv_icmp_ge (tgt := 105) hx hb dX9_feed_22 (by decide) (fun c9 => absurd c9 (by decide)) (fun _ => ?_)
  refine lv_iload hx hb dX9_feed_25 (lv_at hl 0 rfl) ?_
  refine lv_iconst (v := 4) hx hb dX9_feed_27 (by decide) ?_
  refine lv_icmp_ge (tgt := 35) hx hb dX9_feed_28 (by decide) (fun c9 => absurd c9 (by decide)) (fun _ => ?_)
  refine lv_iload_n hx hb dX9_feed_31 rfl (lv_at hl 3 rfl) ?_
  refine lv_goto (tgt := 71) hx hb dX9_feed_32 (by decide) ?_
  refine lv_istore (lv' := [(7, .int a1), (6, .int 2), (0, .ref mo), (1, .int a1), (2, .int a2), (3, .int a3), (4, .int a4), (5, .int a5)]) hx hb dX9_feed_71 hl (by decide) rfl (fun ls hl => ?_)
  refine lv_aload_n hx hb dX9_feed_73 rfl (lv_at hl 2 rfl) ?_
  refine va_get (D := (dC, dI)) (ci := 8) (v := .ref tp) (C := RX9) (T := TX9) (N := 81) hx hb hts i_X9 hown hK hP 0 rfl rfl 0 (by decide) k_1 (fun _ h9 => h9) f_ms_0 dX9_feed_74 ?_
  refine lv_aload_n hx hb dX9_feed_77 rfl (lv_at hl 2 rfl) ?_
  refine va_get (D := (dC, dI)) (ci := 8) (v := .int 0) (C := RX9) (T := TX9) (N := 81) hx hb hts i_X9 hown hK hP 0 rfl rfl 2 (by decide) k_0 (fun _ h9 => h9) f_ms_2 dX9_feed_78 ?_
  refine lv_iload hx hb dX9_feed_81 (lv_at hl 1 rfl) ?_
  refine lv_iadd hx hb dX9_feed_83 ?_
  refine lv_topi (fun v_25 ev_25 => ?_)
  obtain rfl : v_25 = 2 := ev_25.trans (by decide)
  refine lv_iload hx hb dX9_feed_84 (lv_at hl 0 rfl) ?_
  refine lv_bipush (v := 24) hx hb dX9_feed_86 (by decide) ?_
  refine lv_bipush (v := 8) hx hb dX9_feed_88 (by decide) ?_
  refine lv_iload hx hb dX9_feed_90 (lv_at hl 1 rfl) ?_
  refine lv_iconst (v := 3) hx hb dX9_feed_92 (by decide) ?_
  refine lv_iand hx hb dX9_feed_93 ?_
  refine lv_topi (fun v_26 ev_26 => ?_)
  obtain rfl : v_26 = 2 := ev_26.trans (by decide)
  refine lv_imul hx hb dX9_feed_94 ?_
  refine lv_topi (fun v_27 ev_27 => ?_)
  obtain rfl : v_27 = 16 := ev_27.trans (by decide)
  refine lv_isub hx hb dX9_feed_95 ?_
  refine lv_topi (fun v_28 ev_28 => ?_)
  obtain rfl : v_28 = 8 := ev_28.trans (by decide)
  refine lv_ishr hx hb dX9_feed_96 ?_
  refine lv_topi (fun v_29 ev_29 => ?_)
  refine lv_i2b hx hb dX9_feed_97 rfl ?_
  refine lv_topi (fun v_31 ev_31 => ?_)
  refine va_bast hx hb hK hP hD hS 1 0 rfl rfl (p1_in (i := 2) (n := 1620) (by decide)) dX9_feed_98 (fun H locs hP hD hS => ?_)
  have hP : va_P (dC, dI) vwCl [(mo, .inr (8, ms)), (tp, .inl (cP, 1620, .inl (upd g_22 (2 : Int32).toNatClampNeg (vp_nar .byte v_31))))] H := hP
  have hD : va_D A [(mo, .inr (8, ms)), (tp, .inl (cP, 1620, .inl (upd g_22 (2 : Int32).toNatClampNeg (vp_nar .byte v_31))))] := hD
  generalize eg_32 : (upd g_22 (2 : Int32).toNatClampNeg (vp_nar .byte v_31)) = g_32 at hP hD
  refine lv_iinc (v := 3) (lv' := [(6, .int 3), (7, .int a1), (0, .ref mo), (1, .int a1), (2, .int a2), (3, .int a3), (4, .int a4), (5, .int a5)]) hx hb dX9_feed_99 hl (k := 1) rfl (by decide) (by decide) rfl (fun ls hl => ?_)
  refine lv_goto (tgt := 18) hx hb dX9_feed_102 (by decide) ?_
  refine lv_iload hx hb dX9_feed_18 (lv_at hl 0 rfl) ?_
  refine lv_bipush (v := 20) hx hb dX9_feed_20 (by decide) ?_
  refine lv_icmp_ge (tgt := 105) hx hb dX9_feed_22 (by decide) (fun c9 => absurd c9 (by decide)) (fun _ => ?_)
  refine lv_iload hx hb dX9_feed_25 (lv_at hl 0 rfl) ?_
  refine lv_iconst (v := 4) hx hb dX9_feed_27 (by decide) ?_
  refine lv_icmp_ge (tgt := 35) hx hb dX9_feed_28 (by decide) (fun c9 => absurd c9 (by decide)) (fun _ => ?_)
  refine lv_iload_n hx hb dX9_feed_31 rfl (lv_at hl 3 rfl) ?_
  refine lv_goto (tgt := 71) hx hb dX9_feed_32 (by decide) ?_
  refine lv_istore (lv' := [(7, .int a1), (6, .int 3), (0, .ref mo), (1, .int a1), (2, .int a2), (3, .int a3), (4, .int a4), (5, .int a5)]) hx hb dX9_feed_71 hl (by decide) rfl (fun ls hl => ?_)
  refine lv_aload_n hx hb dX9_feed_73 rfl (lv_at hl 2 rfl) ?_
  refine va_get (D := (dC, dI)) (ci := 8) (v := .ref tp) (C := RX9) (T := TX9) (N := 81) hx hb hts i_X9 hown hK hP 0 rfl rfl 0 (by decide) k_1 (fun _ h9 => h9) f_ms_0 dX9_feed_74 ?_
  refine lv_aload_n hx hb dX9_feed_77 rfl (lv_at hl 2 rfl) ?_
  refine va_get (D := (dC, dI)) (ci := 8) (v := .int 0) (C := RX9) (T := TX9) (N := 81) hx hb hts i_X9 hown hK hP 0 rfl rfl 2 (by decide) k_0 (fun _ h9 => h9) f_ms_2 dX9_feed_78 ?_
  refine lv_iload hx hb dX9_feed_81 (lv_at hl 1 rfl) ?_
  refine lv_iadd hx hb dX9_feed_83 ?_
  refine lv_topi (fun v_35 ev_35 => ?_)
  obtain rfl : v_35 = 3 := ev_35.trans (by decide)
  refine lv_iload hx hb dX9_feed_84 (lv_at hl 0 rfl) ?_
  refine lv_bipush (v := 24) hx hb dX9_feed_86 (by decide) ?_
  refine lv_bipush (v := 8) hx hb dX9_feed_88 (by decide) ?_
  refine lv_iload hx hb dX9_feed_90 (lv_at hl 1 rfl) ?_
  refine lv_iconst (v := 3) hx hb dX9_feed_92 (by decide) ?_
  refine lv_iand hx hb dX9_feed_93 ?_
  refine lv_topi (fun v_36 ev_36 => ?_)
  obtain rfl : v_36 = 3 := ev_36.trans (by decide)
  refine lv_imul hx hb dX9_feed_94 ?_
  refine lv_topi (fun v_37 ev_37 => ?_)
  obtain rfl : v_37 = 24 := ev_37.trans (by decide)
  refine lv_isub hx hb dX9_feed_95 ?_
  refine lv_topi (fun v_38 ev_38 => ?_)
  obtain rfl : v_38 = 0 := ev_38.trans (by decide)
  refine lv_ishr hx hb dX9_feed_96 ?_
  refine lv_topi (fun v_39 ev_39 => ?_)
  refine lv_i2b hx hb dX9_feed_97 rfl ?_
  refine lv_topi (fun v_41 ev_41 => ?_)
  refine va_bast hx hb hK hP hD hS 1 0 rfl rfl (p1_in (i := 3) (n := 1620) (by decide)) dX9_feed_98 (fun H locs hP hD hS => ?_)
  have hP : va_P (dC, dI) vwCl [(mo, .inr (8, ms)), (tp, .inl (cP, 1620, .inl (upd g_32 (3 : Int32).toNatClampNeg (vp_nar .byte v_41))))] H := hP
  have hD : va_D A [(mo, .inr (8, ms)), (tp, .inl (cP, 1620, .inl (upd g_32 (3 : Int32).toNatClampNeg (vp_nar .byte v_41))))] := hD
  generalize eg_42 : (upd g_32 (3 : Int32).toNatClampNeg (vp_nar .byte v_41)) = g_42 at hP hD
  refine lv_iinc (v := 4) (lv' := [(6, .int 4), (7, .int a1), (0, .ref mo), (1, .int a1), (2, .int a2), (3, .int a3), (4, .int a4), (5, .int a5)]) hx hb dX9_feed_99 hl (k := 1) rfl (by decide) (by decide) rfl (fun ls hl => ?_)
  refine lv_goto (tgt := 18) hx hb dX9_feed_102 (by decide) ?_
  refine lv_iload hx hb dX9_feed_18 (lv_at hl 0 rfl) ?_
  refine lv_bipush (v := 20) hx hb dX9_feed_20 (by decide) ?_
  refine lv_icmp_ge (tgt := 105) hx hb dX9_feed_22 (by decide) (fun c9 => absurd c9 (by decide)) (fun _ => ?_)
  refine lv_iload hx hb dX9_feed_25 (lv_at hl 0 rfl) ?_
  refine lv_iconst (v := 4) hx hb dX9_feed_27 (by decide) ?_
  refine lv_icmp_ge (tgt := 35) hx hb dX9_feed_28 (by decide) (fun _ => ?_) (fun c9 => absurd c9 (by decide))
  refine lv_iload hx hb dX9_feed_35 (lv_at hl 0 rfl) ?_
  refine lv_bipush (v := 8) hx hb dX9_feed_37 (by decide) ?_
  refine lv_icmp_ge (tgt := 46) hx hb dX9_feed_39 (by decide) (fun c9 => absurd c9 (by decide)) (fun _ => ?_)
  refine lv_iload_n hx hb dX9_feed_42 rfl (lv_at hl 4 rfl) ?_
  refine lv_goto (tgt := 71) hx hb dX9_feed_43 (by decide) ?_
  refine lv_istore (lv' := [(7, .int a2), (6, .int 4), (0, .ref mo), (1, .int a1), (2, .int a2), (3, .int a3), (4, .int a4), (5, .int a5)]) hx hb dX9_feed_71 hl (by decide) rfl (fun ls hl => ?_)
  refine lv_aload_n hx hb dX9_feed_73 rfl (lv_at hl 2 rfl) ?_
  refine va_get (D := (dC, dI)) (ci := 8) (v := .ref tp) (C := RX9) (T := TX9) (N := 81) hx hb hts i_X9 hown hK hP 0 rfl rfl 0 (by decide) k_1 (fun _ h9 => h9) f_ms_0 dX9_feed_74 ?_
  refine lv_aload_n hx hb dX9_feed_77 rfl (lv_at hl 2 rfl) ?_
  refine va_get (D := (dC, dI)) (ci := 8) (v := .int 0) (C := RX9) (T := TX9) (N := 81) hx hb hts i_X9 hown hK hP 0 rfl rfl 2 (by decide) k_0 (fun _ h9 => h9) f_ms_2 dX9_feed_78 ?_
  refine lv_iload hx hb dX9_feed_81 (lv_at hl 1 rfl) ?_
  refine lv_iadd hx hb dX9_feed_83 ?_
  refine lv_topi (fun v_46 ev_46 => ?_)
  obtain rfl : v_46 = 4 := ev_46.trans (by decide)
  refine lv_iload hx hb dX9_feed_84 (lv_at hl 0 rfl) ?_
  refine lv_bipush (v := 24) hx hb dX9_feed_86 (by decide) ?_
  refine lv_bipush (v := 8) hx hb dX9_feed_88 (by decide) ?_
  refine lv_iload hx hb dX9_feed_90 (lv_at hl 1 rfl) ?_
  refine lv_iconst (v := 3) hx hb dX9_feed_92 (by decide) ?_
  refine lv_iand hx hb dX9_feed_93 ?_
  refine lv_topi (fun v_47 ev_47 => ?_)
  obtain rfl : v_47 = 0 := ev_47.trans (by decide)
  refine lv_imul hx hb dX9_feed_94 ?_
  refine lv_topi (fun v_48 ev_48 => ?_)
  obtain rfl : v_48 = 0 := ev_48.trans (by decide)
  refine lv_isub hx hb dX9_feed_95 ?_
  refine lv_topi (fun v_49 ev_49 => ?_)
  obtain rfl : v_49 = 24 := ev_49.trans (by decide)
  refine lv_ishr hx hb dX9_feed_96 ?_
  refine lv_topi (fun v_50 ev_50 => ?_)
  refine lv_i2b hx hb dX9_feed_97 rfl ?_
  refine lv_topi (fun v_52 ev_52 => ?_)
  refine va_bast hx hb hK hP hD hS 1 0 rfl rfl (p1_in (i := 4) (n := 1620) (by decide)) dX9_feed_98 (fun H locs hP hD hS => ?_)
  have hP : va_P (dC, dI) vwCl [(mo, .inr (8, ms)), (tp, .inl (cP, 1620, .inl (upd g_42 (4 : Int32).toNatClampNeg (vp_nar .byte v_52))))] H := hP
  have hD : va_D A [(mo, .inr (8, ms)), (tp, .inl (cP, 1620, .inl (upd g_42 (4 : Int32).toNatClampNeg (vp_nar .byte v_52))))] := hD
  generalize eg_53 : (upd g_42 (4 : Int32).toNatClampNeg (vp_nar .byte v_52)) = g_53 at hP hD
  refine lv_iinc (v := 5) (lv' := [(6, .int 5), (7, .int a2), (0, .ref mo), (1, .int a1), (2, .int a2), (3, .int a3), (4, .int a4), (5, .int a5)]) hx hb dX9_feed_99 hl (k := 1) rfl (by decide) (by decide) rfl (fun ls hl => ?_)
  refine lv_goto (tgt := 18) hx hb dX9_feed_102 (by decide) ?_
  refine lv_iload hx hb dX9_feed_18 (lv_at hl 0 rfl) ?_
  refine lv_bipush (v := 20) hx hb dX9_feed_20 (by decide) ?_
  refine lv_icmp_ge (tgt := 105) hx hb dX9_feed_22 (by decide) (fun c9 => absurd c9 (by decide)) (fun _ => ?_)
  refine lv_iload hx hb dX9_feed_25 (lv_at hl 0 rfl) ?_
  refine lv_iconst (v := 4) hx hb dX9_feed_27 (by decide) ?_
  refine lv_icmp_ge (tgt := 35) hx hb dX9_feed_28 (by decide) (fun _ => ?_) (fun c9 => absurd c9 (by decide))
  refine lv_iload hx hb dX9_feed_35 (lv_at hl 0 rfl) ?_
  refine lv_bipush (v := 8) hx hb dX9_feed_37 (by decide) ?_
  refine lv_icmp_ge (tgt := 46) hx hb dX9_feed_39 (by decide) (fun c9 => absurd c9 (by decide)) (fun _ => ?_)
  refine lv_iload_n hx hb dX9_feed_42 rfl (lv_at hl 4 rfl) ?_
  refine lv_goto (tgt := 71) hx hb dX9_feed_43 (by decide) ?_
  refine lv_istore (lv' := [(7, .int a2), (6, .int 5), (0, .ref mo), (1, .int a1), (2, .int a2), (3, .int a3), (4, .int a4), (5, .int a5)]) hx hb dX9_feed_71 hl (by decide) rfl (fun ls hl => ?_)
  refine lv_aload_n hx hb dX9_feed_73 rfl (lv_at hl 2 rfl) ?_
  refine va_get (D := (dC, dI)) (ci := 8) (v := .ref tp) (C := RX9) (T := TX9) (N := 81) hx hb hts i_X9 hown hK hP 0 rfl rfl 0 (by decide) k_1 (fun _ h9 => h9) f_ms_0 dX9_feed_74 ?_
  refine lv_aload_n hx hb dX9_feed_77 rfl (lv_at hl 2 rfl) ?_
  refine va_get (D := (dC, dI)) (ci := 8) (v := .int 0) (C := RX9) (T := TX9) (N := 81) hx hb hts i_X9 hown hK hP 0 rfl rfl 2 (by decide) k_0 (fun _ h9 => h9) f_ms_2 dX9_feed_78 ?_
  refine lv_iload hx hb dX9_feed_81 (lv_at hl 1 rfl) ?_
  refine lv_iadd hx hb dX9_feed_83 ?_
  refine lv_topi (fun v_57 ev_57 => ?_)
  obtain rfl : v_57 = 5 := ev_57.trans (by decide)
  refine lv_iload hx hb dX9_feed_84 (lv_at hl 0 rfl) ?_
  refine lv_bipush (v := 24) hx hb dX9_feed_86 (by decide) ?_
  refine lv_bipush (v := 8) hx hb dX9_feed_88 (by decide) ?_
  refine lv_iload hx hb dX9_feed_90 (lv_at hl 1 rfl) ?_
  refine lv_iconst (v := 3) hx hb dX9_feed_92 (by decide) ?_
  refine lv_iand hx hb dX9_feed_93 ?_
  refine lv_topi (fun v_58 ev_58 => ?_)
  obtain rfl : v_58 = 1 := ev_58.trans (by decide)
  refine lv_imul hx hb dX9_feed_94 ?_
  refine lv_topi (fun v_59 ev_59 => ?_)
  obtain rfl : v_59 = 8 := ev_59.trans (by decide)
  refine lv_isub hx hb dX9_feed_95 ?_
  refine lv_topi (fun v_60 ev_60 => ?_)
  obtain rfl : v_60 = 16 := ev_60.trans (by decide)
  refine lv_ishr hx hb dX9_feed_96 ?_
  refine lv_topi (fun v_61 ev_61 => ?_)
  refine lv_i2b hx hb dX9_feed_97 rfl ?_
  refine lv_topi (fun v_63 ev_63 => ?_)
  refine va_bast hx hb hK hP hD hS 1 0 rfl rfl (p1_in (i := 5) (n := 1620) (by decide)) dX9_feed_98 (fun H locs hP hD hS => ?_)
  have hP : va_P (dC, dI) vwCl [(mo, .inr (8, ms)), (tp, .inl (cP, 1620, .inl (upd g_53 (5 : Int32).toNatClampNeg (vp_nar .byte v_63))))] H := hP
  have hD : va_D A [(mo, .inr (8, ms)), (tp, .inl (cP, 1620, .inl (upd g_53 (5 : Int32).toNatClampNeg (vp_nar .byte v_63))))] := hD
  generalize eg_64 : (upd g_53 (5 : Int32).toNatClampNeg (vp_nar .byte v_63)) = g_64 at hP hD
  refine lv_iinc (v := 6) (lv' := [(6, .int 6), (7, .int a2), (0, .ref mo), (1, .int a1), (2, .int a2), (3, .int a3), (4, .int a4), (5, .int a5)]) hx hb dX9_feed_99 hl (k := 1) rfl (by decide) (by decide) rfl (fun ls hl => ?_)
  refine lv_goto (tgt := 18) hx hb dX9_feed_102 (by decide) ?_
  refine lv_iload hx hb dX9_feed_18 (lv_at hl 0 rfl) ?_
  refine lv_bipush (v := 20) hx hb dX9_feed_20 (by decide) ?_
  refine lv_icmp_ge (tgt := 105) hx hb dX9_feed_22 (by decide) (fun c9 => absurd c9 (by decide)) (fun _ => ?_)
  refine lv_iload hx hb dX9_feed_25 (lv_at hl 0 rfl) ?_
  refine lv_iconst (v := 4) hx hb dX9_feed_27 (by decide) ?_
  refine lv_icmp_ge (tgt := 35) hx hb dX9_feed_28 (by decide) (fun _ => ?_) (fun c9 => absurd c9 (by decide))
  refine lv_iload hx hb dX9_feed_35 (lv_at hl 0 rfl) ?_
  refine lv_bipush (v := 8) hx hb dX9_feed_37 (by decide) ?_
  refine lv_icmp_ge (tgt := 46) hx hb dX9_feed_39 (by decide) (fun c9 => absurd c9 (by decide)) (fun _ => ?_)
  refine lv_iload_n hx hb dX9_feed_42 rfl (lv_at hl 4 rfl) ?_
  refine lv_goto (tgt := 71) hx hb dX9_feed_43 (by decide) ?_
  refine lv_istore (lv' := [(7, .int a2), (6, .int 6), (0, .ref mo), (1, .int a1), (2, .int a2), (3, .int a3), (4, .int a4), (5, .int a5)]) hx hb dX9_feed_71 hl (by decide) rfl (fun ls hl => ?_)
  refine lv_aload_n hx hb dX9_feed_73 rfl (lv_at hl 2 rfl) ?_
  refine va_get (D := (dC, dI)) (ci := 8) (v := .ref tp) (C := RX9) (T := TX9) (N := 81) hx hb hts i_X9 hown hK hP 0 rfl rfl 0 (by decide) k_1 (fun _ h9 => h9) f_ms_0 dX9_feed_74 ?_
  refine lv_aload_n hx hb dX9_feed_77 rfl (lv_at hl 2 rfl) ?_
  refine va_get (D := (dC, dI)) (ci := 8) (v := .int 0) (C := RX9) (T := TX9) (N := 81) hx hb hts i_X9 hown hK hP 0 rfl rfl 2 (by decide) k_0 (fun _ h9 => h9) f_ms_2 dX9_feed_78 ?_
  refine lv_iload hx hb dX9_feed_81 (lv_at hl 1 rfl) ?_
  refine lv_iadd hx hb dX9_feed_83 ?_
  refine lv_topi (fun v_68 ev_68 => ?_)
  obtain rfl : v_68 = 6 := ev_68.trans (by decide)
  refine lv_iload hx hb dX9_feed_84 (lv_at hl 0 rfl) ?_
  refine lv_bipush (v := 24) hx hb dX9_feed_86 (by decide) ?_
  refine lv_bipush (v := 8) hx hb dX9_feed_88 (by decide) ?_
  refine lv_iload hx hb dX9_feed_90 (lv_at hl 1 rfl) ?_
  refine lv_iconst (v := 3) hx hb dX9_feed_92 (by decide) ?_
  refine lv_iand hx hb dX9_feed_93 ?_
  refine lv_topi (fun v_69 ev_69 => ?_)
  obtain rfl : v_69 = 2 := ev_69.trans (by decide)
  refine lv_imul hx hb dX9_feed_94 ?_
  refine lv_topi (fun v_70 ev_70 => ?_)
  obtain rfl : v_70 = 16 := ev_70.trans (by decide)
  refine lv_isub hx hb dX9_feed_95 ?_
  refine lv_topi (fun v_71 ev_71 => ?_)
  obtain rfl : v_71 = 8 := ev_71.trans (by decide)
  refine lv_ishr hx hb dX9_feed_96 ?_
  refine lv_topi (fun v_72 ev_72 => ?_)
  refine lv_i2b hx hb dX9_feed_97 rfl ?_
  refine lv_topi (fun v_74 ev_74 => ?_)
  refine va_bast hx hb hK hP hD hS 1 0 rfl rfl (p1_in (i := 6) (n := 1620) (by decide)) dX9_feed_98 (fun H locs hP hD hS => ?_)
  have hP : va_P (dC, dI) vwCl [(mo, .inr (8, ms)), (tp, .inl (cP, 1620, .inl (upd g_64 (6 : Int32).toNatClampNeg (vp_nar .byte v_74))))] H := hP
  have hD : va_D A [(mo, .inr (8, ms)), (tp, .inl (cP, 1620, .inl (upd g_64 (6 : Int32).toNatClampNeg (vp_nar .byte v_74))))] := hD
  generalize eg_75 : (upd g_64 (6 : Int32).toNatClampNeg (vp_nar .byte v_74)) = g_75 at hP hD
  refine lv_iinc (v := 7) (lv' := [(6, .int 7), (7, .int a2), (0, .ref mo), (1, .int a1), (2, .int a2), (3, .int a3), (4, .int a4), (5, .int a5)]) hx hb dX9_feed_99 hl (k := 1) rfl (by decide) (by decide) rfl (fun ls hl => ?_)
  refine lv_goto (tgt := 18) hx hb dX9_feed_102 (by decide) ?_
  refine lv_iload hx hb dX9_feed_18 (lv_at hl 0 rfl) ?_
  refine lv_bipush (v := 20) hx hb dX9_feed_20 (by decide) ?_
  refine lv_icmp_ge (tgt := 105) hx hb dX9_feed_22 (by decide) (fun c9 => absurd c9 (by decide)) (fun _ => ?_)
  refine lv_iload hx hb dX9_feed_25 (lv_at hl 0 rfl) ?_
  refine lv_iconst (v := 4) hx hb dX9_feed_27 (by decide) ?_
  refine lv_icmp_ge (tgt := 35) hx hb dX9_feed_28 (by decide) (fun _ => ?_) (fun c9 => absurd c9 (by decide))
  refine lv_iload hx hb dX9_feed_35 (lv_at hl 0 rfl) ?_
  refine lv_bipush (v := 8) hx hb dX9_feed_37 (by decide) ?_
  refine lv_icmp_ge (tgt := 46) hx hb dX9_feed_39 (by decide) (fun c9 => absurd c9 (by decide)) (fun _ => ?_)
  refine lv_iload_n hx hb dX9_feed_42 rfl (lv_at hl 4 rfl) ?_
  refine lv_goto (tgt := 71) hx hb dX9_feed_43 (by decide) ?_
  refine lv_istore (lv' := [(7, .int a2), (6, .int 7), (0, .ref mo), (1, .int a1), (2, .int a2), (3, .int a3), (4, .int a4), (5, .int a5)]) hx hb dX9_feed_71 hl (by decide) rfl (fun ls hl => ?_)
  refine lv_aload_n hx hb dX9_feed_73 rfl (lv_at hl 2 rfl) ?_
  refine va_get (D := (dC, dI)) (ci := 8) (v := .ref tp) (C := RX9) (T := TX9) (N := 81) hx hb hts i_X9 hown hK hP 0 rfl rfl 0 (by decide) k_1 (fun _ h9 => h9) f_ms_0 dX9_feed_74 ?_
  refine lv_aload_n hx hb dX9_feed_77 rfl (lv_at hl 2 rfl) ?_
  refine va_get (D := (dC, dI)) (ci := 8) (v := .int 0) (C := RX9) (T := TX9) (N := 81) hx hb hts i_X9 hown hK hP 0 rfl rfl 2 (by decide) k_0 (fun _ h9 => h9) f_ms_2 dX9_feed_78 ?_
  refine lv_iload hx hb dX9_feed_81 (lv_at hl 1 rfl) ?_
  refine lv_iadd hx hb dX9_feed_83 ?_
  refine lv_topi (fun v_79 ev_79 => ?_)
  obtain rfl : v_79 = 7 := ev_79.trans (by decide)
  refine lv_iload hx hb dX9_feed_84 (lv_at hl 0 rfl) ?_
  refine lv_bipush (v := 24) hx hb dX9_feed_86 (by decide) ?_
  refine lv_bipush (v := 8) hx hb dX9_feed_88 (by decide) ?_
  refine lv_iload hx hb dX9_feed_90 (lv_at hl 1 rfl) ?_
  refine lv_iconst (v := 3) hx hb dX9_feed_92 (by decide) ?_
  refine lv_iand hx hb dX9_feed_93 ?_
  refine lv_topi (fun v_80 ev_80 => ?_)
  obtain rfl : v_80 = 3 := ev_80.trans (by decide)
  refine lv_imul hx hb dX9_feed_94 ?_
  refine lv_topi (fun v_81 ev_81 => ?_)
  obtain rfl : v_81 = 24 := ev_81.trans (by decide)
  refine lv_isub hx hb dX9_feed_95 ?_
  refine lv_topi (fun v_82 ev_82 => ?_)
  obtain rfl : v_82 = 0 := ev_82.trans (by decide)
  refine lv_ishr hx hb dX9_feed_96 ?_
  refine lv_topi (fun v_83 ev_83 => ?_)
  refine lv_i2b hx hb dX9_feed_97 rfl ?_
  refine lv_topi (fun v_85 ev_85 => ?_)
  refine va_bast hx hb hK hP hD hS 1 0 rfl rfl (p1_in (i := 7) (n := 1620) (by decide)) dX9_feed_98 (fun H locs hP hD hS => ?_)
  have hP : va_P (dC, dI) vwCl [(mo, .inr (8, ms)), (tp, .inl (cP, 1620, .inl (upd g_75 (7 : Int32).toNatClampNeg (vp_nar .byte v_85))))] H := hP
  have hD : va_D A [(mo, .inr (8, ms)), (tp, .inl (cP, 1620, .inl (upd g_75 (7 : Int32).toNatClampNeg (vp_nar .byte v_85))))] := hD
  generalize eg_86 : (upd g_75 (7 : Int32).toNatClampNeg (vp_nar .byte v_85)) = g_86 at hP hD
  refine lv_iinc (v := 8) (lv' := [(6, .int 8), (7, .int a2), (0, .ref mo), (1, .int a1), (2, .int a2), (3, .int a3), (4, .int a4), (5, .int a5)]) hx hb dX9_feed_99 hl (k := 1) rfl (by decide) (by decide) rfl (fun ls hl => ?_)
  refine lv_goto (tgt := 18) hx hb dX9_feed_102 (by decide) ?_
  refine lv_iload hx hb dX9_feed_18 (lv_at hl 0 rfl) ?_
  refine lv_bipush (v := 20) hx hb dX9_feed_20 (by decide) ?_
  refine lv_icmp_ge (tgt := 105) hx hb dX9_feed_22 (by decide) (fun c9 => absurd c9 (by decide)) (fun _ => ?_)
  refine lv_iload hx hb dX9_feed_25 (lv_at hl 0 rfl) ?_
  refine lv_iconst (v := 4) hx hb dX9_feed_27 (by decide) ?_
  refine lv_icmp_ge (tgt := 35) hx hb dX9_feed_28 (by decide) (fun _ => ?_) (fun c9 => absurd c9 (by decide))
  refine lv_iload hx hb dX9_feed_35 (lv_at hl 0 rfl) ?_
  refine lv_bipush (v := 8) hx hb dX9_feed_37 (by decide) ?_
  refine lv_icmp_ge (tgt := 46) hx hb dX9_feed_39 (by decide) (fun _ => ?_) (fun c9 => absurd c9 (by decide))
  refine lv_iload hx hb dX9_feed_46 (lv_at hl 0 rfl) ?_
  refine lv_bipush (v := 12) hx hb dX9_feed_48 (by decide) ?_
  refine lv_icmp_ge (tgt := 57) hx hb dX9_feed_50 (by decide) (fun c9 => absurd c9 (by decide)) (fun _ => ?_)
  refine lv_iload_n hx hb dX9_feed_53 rfl (lv_at hl 5 rfl) ?_
  refine lv_goto (tgt := 71) hx hb dX9_feed_54 (by decide) ?_
  refine lv_istore (lv' := [(7, .int a3), (6, .int 8), (0, .ref mo), (1, .int a1), (2, .int a2), (3, .int a3), (4, .int a4), (5, .int a5)]) hx hb dX9_feed_71 hl (by decide) rfl (fun ls hl => ?_)
  refine lv_aload_n hx hb dX9_feed_73 rfl (lv_at hl 2 rfl) ?_
  refine va_get (D := (dC, dI)) (ci := 8) (v := .ref tp) (C := RX9) (T := TX9) (N := 81) hx hb hts i_X9 hown hK hP 0 rfl rfl 0 (by decide) k_1 (fun _ h9 => h9) f_ms_0 dX9_feed_74 ?_
  refine lv_aload_n hx hb dX9_feed_77 rfl (lv_at hl 2 rfl) ?_
  refine va_get (D := (dC, dI)) (ci := 8) (v := .int 0) (C := RX9) (T := TX9) (N := 81) hx hb hts i_X9 hown hK hP 0 rfl rfl 2 (by decide) k_0 (fun _ h9 => h9) f_ms_2 dX9_feed_78 ?_
  refine lv_iload hx hb dX9_feed_81 (lv_at hl 1 rfl) ?_
  refine lv_iadd hx hb dX9_feed_83 ?_
  refine lv_topi (fun v_91 ev_91 => ?_)
  obtain rfl : v_91 = 8 := ev_91.trans (by decide)
  refine lv_iload hx hb dX9_feed_84 (lv_at hl 0 rfl) ?_
  refine lv_bipush (v := 24) hx hb dX9_feed_86 (by decide) ?_
  refine lv_bipush (v := 8) hx hb dX9_feed_88 (by decide) ?_
  refine lv_iload hx hb dX9_feed_90 (lv_at hl 1 rfl) ?_
  refine lv_iconst (v := 3) hx hb dX9_feed_92 (by decide) ?_
  refine lv_iand hx hb dX9_feed_93 ?_
  refine lv_topi (fun v_92 ev_92 => ?_)
  obtain rfl : v_92 = 0 := ev_92.trans (by decide)
  refine lv_imul hx hb dX9_feed_94 ?_
  refine lv_topi (fun v_93 ev_93 => ?_)
  obtain rfl : v_93 = 0 := ev_93.trans (by decide)
  refine lv_isub hx hb dX9_feed_95 ?_
  refine lv_topi (fun v_94 ev_94 => ?_)
  obtain rfl : v_94 = 24 := ev_94.trans (by decide)
  refine lv_ishr hx hb dX9_feed_96 ?_
  refine lv_topi (fun v_95 ev_95 => ?_)
  refine lv_i2b hx hb dX9_feed_97 rfl ?_
  refine lv_topi (fun v_97 ev_97 => ?_)
  refine va_bast hx hb hK hP hD hS 1 0 rfl rfl (p1_in (i := 8) (n := 1620) (by decide)) dX9_feed_98 (fun H locs hP hD hS => ?_)
  have hP : va_P (dC, dI) vwCl [(mo, .inr (8, ms)), (tp, .inl (cP, 1620, .inl (upd g_86 (8 : Int32).toNatClampNeg (vp_nar .byte v_97))))] H := hP
  have hD : va_D A [(mo, .inr (8, ms)), (tp, .inl (cP, 1620, .inl (upd g_86 (8 : Int32).toNatClampNeg (vp_nar .byte v_97))))] := hD
  generalize eg_98 : (upd g_86 (8 : Int32).toNatClampNeg (vp_nar .byte v_97)) = g_98 at hP hD
  refine lv_iinc (v := 9) (lv' := [(6, .int 9), (7, .int a3), (0, .ref mo), (1, .int a1), (2, .int a2), (3, .int a3), (4, .int a4), (5, .int a5)]) hx hb dX9_feed_99 hl (k := 1) rfl (by decide) (by decide) rfl (fun ls hl => ?_)
  refine lv_goto (tgt := 18) hx hb dX9_feed_102 (by decide) ?_
  refine lv_iload hx hb dX9_feed_18 (lv_at hl 0 rfl) ?_
  refine lv_bipush (v := 20) hx hb dX9_feed_20 (by decide) ?_
  refine lv_icmp_ge (tgt := 105) hx hb dX9_feed_22 (by decide) (fun c9 => absurd c9 (by decide)) (fun _ => ?_)
  refine lv_iload hx hb dX9_feed_25 (lv_at hl 0 rfl) ?_
  refine lv_iconst (v := 4) hx hb dX9_feed_27 (by decide) ?_
  refine lv_icmp_ge (tgt := 35) hx hb dX9_feed_28 (by decide) (fun _ => ?_) (fun c9 => absurd c9 (by decide))
  refine lv_iload hx hb dX9_feed_35 (lv_at hl 0 rfl) ?_
  refine lv_bipush (v := 8) hx hb dX9_feed_37 (by decide) ?_
  refine lv_icmp_ge (tgt := 46) hx hb dX9_feed_39 (by decide) (fun _ => ?_) (fun c9 => absurd c9 (by decide))
  refine lv_iload hx hb dX9_feed_46 (lv_at hl 0 rfl) ?_
  refine lv_bipush (v := 12) hx hb dX9_feed_48 (by decide) ?_
  refine lv_icmp_ge (tgt := 57) hx hb dX9_feed_50 (by decide) (fun c9 => absurd c9 (by decide)) (fun _ => ?_)
  refine lv_iload_n hx hb dX9_feed_53 rfl (lv_at hl 5 rfl) ?_
  refine lv_goto (tgt := 71) hx hb dX9_feed_54 (by decide) ?_
  refine lv_istore (lv' := [(7, .int a3), (6, .int 9), (0, .ref mo), (1, .int a1), (2, .int a2), (3, .int a3), (4, .int a4), (5, .int a5)]) hx hb dX9_feed_71 hl (by decide) rfl (fun ls hl => ?_)
  refine lv_aload_n hx hb dX9_feed_73 rfl (lv_at hl 2 rfl) ?_
  refine va_get (D := (dC, dI)) (ci := 8) (v := .ref tp) (C := RX9) (T := TX9) (N := 81) hx hb hts i_X9 hown hK hP 0 rfl rfl 0 (by decide) k_1 (fun _ h9 => h9) f_ms_0 dX9_feed_74 ?_
  refine lv_aload_n hx hb dX9_feed_77 rfl (lv_at hl 2 rfl) ?_
  refine va_get (D := (dC, dI)) (ci := 8) (v := .int 0) (C := RX9) (T := TX9) (N := 81) hx hb hts i_X9 hown hK hP 0 rfl rfl 2 (by decide) k_0 (fun _ h9 => h9) f_ms_2 dX9_feed_78 ?_
  refine lv_iload hx hb dX9_feed_81 (lv_at hl 1 rfl) ?_
  refine lv_iadd hx hb dX9_feed_83 ?_
  refine lv_topi (fun v_103 ev_103 => ?_)
  obtain rfl : v_103 = 9 := ev_103.trans (by decide)
  refine lv_iload hx hb dX9_feed_84 (lv_at hl 0 rfl) ?_
  refine lv_bipush (v := 24) hx hb dX9_feed_86 (by decide) ?_
  refine lv_bipush (v := 8) hx hb dX9_feed_88 (by decide) ?_
  refine lv_iload hx hb dX9_feed_90 (lv_at hl 1 rfl) ?_
  refine lv_iconst (v := 3) hx hb dX9_feed_92 (by decide) ?_
  refine lv_iand hx hb dX9_feed_93 ?_
  refine lv_topi (fun v_104 ev_104 => ?_)
  obtain rfl : v_104 = 1 := ev_104.trans (by decide)
  refine lv_imul hx hb dX9_feed_94 ?_
  refine lv_topi (fun v_105 ev_105 => ?_)
  obtain rfl : v_105 = 8 := ev_105.trans (by decide)
  refine lv_isub hx hb dX9_feed_95 ?_
  refine lv_topi (fun v_106 ev_106 => ?_)
  obtain rfl : v_106 = 16 := ev_106.trans (by decide)
  refine lv_ishr hx hb dX9_feed_96 ?_
  refine lv_topi (fun v_107 ev_107 => ?_)
  refine lv_i2b hx hb dX9_feed_97 rfl ?_
  refine lv_topi (fun v_109 ev_109 => ?_)
  refine va_bast hx hb hK hP hD hS 1 0 rfl rfl (p1_in (i := 9) (n := 1620) (by decide)) dX9_feed_98 (fun H locs hP hD hS => ?_)
  have hP : va_P (dC, dI) vwCl [(mo, .inr (8, ms)), (tp, .inl (cP, 1620, .inl (upd g_98 (9 : Int32).toNatClampNeg (vp_nar .byte v_109))))] H := hP
  have hD : va_D A [(mo, .inr (8, ms)), (tp, .inl (cP, 1620, .inl (upd g_98 (9 : Int32).toNatClampNeg (vp_nar .byte v_109))))] := hD
  generalize eg_110 : (upd g_98 (9 : Int32).toNatClampNeg (vp_nar .byte v_109)) = g_110 at hP hD
  refine lv_iinc (v := 10) (lv' := [(6, .int 10), (7, .int a3), (0, .ref mo), (1, .int a1), (2, .int a2), (3, .int a3), (4, .int a4), (5, .int a5)]) hx hb dX9_feed_99 hl (k := 1) rfl (by decide) (by decide) rfl (fun ls hl => ?_)
  refine lv_goto (tgt := 18) hx hb dX9_feed_102 (by decide) ?_
  refine lv_iload hx hb dX9_feed_18 (lv_at hl 0 rfl) ?_
  refine lv_bipush (v := 20) hx hb dX9_feed_20 (by decide) ?_
  refine lv_icmp_ge (tgt := 105) hx hb dX9_feed_22 (by decide) (fun c9 => absurd c9 (by decide)) (fun _ => ?_)
  refine lv_iload hx hb dX9_feed_25 (lv_at hl 0 rfl) ?_
  refine lv_iconst (v := 4) hx hb dX9_feed_27 (by decide) ?_
  refine lv_icmp_ge (tgt := 35) hx hb dX9_feed_28 (by decide) (fun _ => ?_) (fun c9 => absurd c9 (by decide))
  refine lv_iload hx hb dX9_feed_35 (lv_at hl 0 rfl) ?_
  refine lv_bipush (v := 8) hx hb dX9_feed_37 (by decide) ?_
  refine lv_icmp_ge (tgt := 46) hx hb dX9_feed_39 (by decide) (fun _ => ?_) (fun c9 => absurd c9 (by decide))
  refine lv_iload hx hb dX9_feed_46 (lv_at hl 0 rfl) ?_
  refine lv_bipush (v := 12) hx hb dX9_feed_48 (by decide) ?_
  refine lv_icmp_ge (tgt := 57) hx hb dX9_feed_50 (by decide) (fun c9 => absurd c9 (by decide)) (fun _ => ?_)
  refine lv_iload_n hx hb dX9_feed_53 rfl (lv_at hl 5 rfl) ?_
  refine lv_goto (tgt := 71) hx hb dX9_feed_54 (by decide) ?_
  refine lv_istore (lv' := [(7, .int a3), (6, .int 10), (0, .ref mo), (1, .int a1), (2, .int a2), (3, .int a3), (4, .int a4), (5, .int a5)]) hx hb dX9_feed_71 hl (by decide) rfl (fun ls hl => ?_)
  refine lv_aload_n hx hb dX9_feed_73 rfl (lv_at hl 2 rfl) ?_
  refine va_get (D := (dC, dI)) (ci := 8) (v := .ref tp) (C := RX9) (T := TX9) (N := 81) hx hb hts i_X9 hown hK hP 0 rfl rfl 0 (by decide) k_1 (fun _ h9 => h9) f_ms_0 dX9_feed_74 ?_
  refine lv_aload_n hx hb dX9_feed_77 rfl (lv_at hl 2 rfl) ?_
  refine va_get (D := (dC, dI)) (ci := 8) (v := .int 0) (C := RX9) (T := TX9) (N := 81) hx hb hts i_X9 hown hK hP 0 rfl rfl 2 (by decide) k_0 (fun _ h9 => h9) f_ms_2 dX9_feed_78 ?_
  refine lv_iload hx hb dX9_feed_81 (lv_at hl 1 rfl) ?_
  refine lv_iadd hx hb dX9_feed_83 ?_
  refine lv_topi (fun v_115 ev_115 => ?_)
  obtain rfl : v_115 = 10 := ev_115.trans (by decide)
  refine lv_iload hx hb dX9_feed_84 (lv_at hl 0 rfl) ?_
  refine lv_bipush (v := 24) hx hb dX9_feed_86 (by decide) ?_
  refine lv_bipush (v := 8) hx hb dX9_feed_88 (by decide) ?_
  refine lv_iload hx hb dX9_feed_90 (lv_at hl 1 rfl) ?_
  refine lv_iconst (v := 3) hx hb dX9_feed_92 (by decide) ?_
  refine lv_iand hx hb dX9_feed_93 ?_
  refine lv_topi (fun v_116 ev_116 => ?_)
  obtain rfl : v_116 = 2 := ev_116.trans (by decide)
  refine lv_imul hx hb dX9_feed_94 ?_
  refine lv_topi (fun v_117 ev_117 => ?_)
  obtain rfl : v_117 = 16 := ev_117.trans (by decide)
  refine lv_isub hx hb dX9_feed_95 ?_
  refine lv_topi (fun v_118 ev_118 => ?_)
  obtain rfl : v_118 = 8 := ev_118.trans (by decide)
  refine lv_ishr hx hb dX9_feed_96 ?_
  refine lv_topi (fun v_119 ev_119 => ?_)
  refine lv_i2b hx hb dX9_feed_97 rfl ?_
  refine lv_topi (fun v_121 ev_121 => ?_)
  refine va_bast hx hb hK hP hD hS 1 0 rfl rfl (p1_in (i := 10) (n := 1620) (by decide)) dX9_feed_98 (fun H locs hP hD hS => ?_)
  have hP : va_P (dC, dI) vwCl [(mo, .inr (8, ms)), (tp, .inl (cP, 1620, .inl (upd g_110 (10 : Int32).toNatClampNeg (vp_nar .byte v_121))))] H := hP
  have hD : va_D A [(mo, .inr (8, ms)), (tp, .inl (cP, 1620, .inl (upd g_110 (10 : Int32).toNatClampNeg (vp_nar .byte v_121))))] := hD
  generalize eg_122 : (upd g_110 (10 : Int32).toNatClampNeg (vp_nar .byte v_121)) = g_122 at hP hD
  refine lv_iinc (v := 11) (lv' := [(6, .int 11), (7, .int a3), (0, .ref mo), (1, .int a1), (2, .int a2), (3, .int a3), (4, .int a4), (5, .int a5)]) hx hb dX9_feed_99 hl (k := 1) rfl (by decide) (by decide) rfl (fun ls hl => ?_)
  refine lv_goto (tgt := 18) hx hb dX9_feed_102 (by decide) ?_
  refine lv_iload hx hb dX9_feed_18 (lv_at hl 0 rfl) ?_
  refine lv_bipush (v := 20) hx hb dX9_feed_20 (by decide) ?_
  refine lv_icmp_ge (tgt := 105) hx hb dX9_feed_22 (by decide) (fun c9 => absurd c9 (by decide)) (fun _ => ?_)
  refine lv_iload hx hb dX9_feed_25 (lv_at hl 0 rfl) ?_
  refine lv_iconst (v := 4) hx hb dX9_feed_27 (by decide) ?_
  refine lv_icmp_ge (tgt := 35) hx hb dX9_feed_28 (by decide) (fun _ => ?_) (fun c9 => absurd c9 (by decide))
  refine lv_iload hx hb dX9_feed_35 (lv_at hl 0 rfl) ?_
  refine lv_bipush (v := 8) hx hb dX9_feed_37 (by decide) ?_
  refine lv_icmp_ge (tgt := 46) hx hb dX9_feed_39 (by decide) (fun _ => ?_) (fun c9 => absurd c9 (by decide))
  refine lv_iload hx hb dX9_feed_46 (lv_at hl 0 rfl) ?_
  refine lv_bipush (v := 12) hx hb dX9_feed_48 (by decide) ?_
  refine lv_icmp_ge (tgt := 57) hx hb dX9_feed_50 (by decide) (fun c9 => absurd c9 (by decide)) (fun _ => ?_)
  refine lv_iload_n hx hb dX9_feed_53 rfl (lv_at hl 5 rfl) ?_
  refine lv_goto (tgt := 71) hx hb dX9_feed_54 (by decide) ?_
  refine lv_istore (lv' := [(7, .int a3), (6, .int 11), (0, .ref mo), (1, .int a1), (2, .int a2), (3, .int a3), (4, .int a4), (5, .int a5)]) hx hb dX9_feed_71 hl (by decide) rfl (fun ls hl => ?_)
  refine lv_aload_n hx hb dX9_feed_73 rfl (lv_at hl 2 rfl) ?_
  refine va_get (D := (dC, dI)) (ci := 8) (v := .ref tp) (C := RX9) (T := TX9) (N := 81) hx hb hts i_X9 hown hK hP 0 rfl rfl 0 (by decide) k_1 (fun _ h9 => h9) f_ms_0 dX9_feed_74 ?_
  refine lv_aload_n hx hb dX9_feed_77 rfl (lv_at hl 2 rfl) ?_
  refine va_get (D := (dC, dI)) (ci := 8) (v := .int 0) (C := RX9) (T := TX9) (N := 81) hx hb hts i_X9 hown hK hP 0 rfl rfl 2 (by decide) k_0 (fun _ h9 => h9) f_ms_2 dX9_feed_78 ?_
  refine lv_iload hx hb dX9_feed_81 (lv_at hl 1 rfl) ?_
  refine lv_iadd hx hb dX9_feed_83 ?_
  refine lv_topi (fun v_127 ev_127 => ?_)
  obtain rfl : v_127 = 11 := ev_127.trans (by decide)
  refine lv_iload hx hb dX9_feed_84 (lv_at hl 0 rfl) ?_
  refine lv_bipush (v := 24) hx hb dX9_feed_86 (by decide) ?_
  refine lv_bipush (v := 8) hx hb dX9_feed_88 (by decide) ?_
  refine lv_iload hx hb dX9_feed_90 (lv_at hl 1 rfl) ?_
  refine lv_iconst (v := 3) hx hb dX9_feed_92 (by decide) ?_
  refine lv_iand hx hb dX9_feed_93 ?_
  refine lv_topi (fun v_128 ev_128 => ?_)
  obtain rfl : v_128 = 3 := ev_128.trans (by decide)
  refine lv_imul hx hb dX9_feed_94 ?_
  refine lv_topi (fun v_129 ev_129 => ?_)
  obtain rfl : v_129 = 24 := ev_129.trans (by decide)
  refine lv_isub hx hb dX9_feed_95 ?_
  refine lv_topi (fun v_130 ev_130 => ?_)
  obtain rfl : v_130 = 0 := ev_130.trans (by decide)
  refine lv_ishr hx hb dX9_feed_96 ?_
  refine lv_topi (fun v_131 ev_131 => ?_)
  refine lv_i2b hx hb dX9_feed_97 rfl ?_
  refine lv_topi (fun v_133 ev_133 => ?_)
  refine va_bast hx hb hK hP hD hS 1 0 rfl rfl (p1_in (i := 11) (n := 1620) (by decide)) dX9_feed_98 (fun H locs hP hD hS => ?_)
  have hP : va_P (dC, dI) vwCl [(mo, .inr (8, ms)), (tp, .inl (cP, 1620, .inl (upd g_122 (11 : Int32).toNatClampNeg (vp_nar .byte v_133))))] H := hP
  have hD : va_D A [(mo, .inr (8, ms)), (tp, .inl (cP, 1620, .inl (upd g_122 (11 : Int32).toNatClampNeg (vp_nar .byte v_133))))] := hD
  generalize eg_134 : (upd g_122 (11 : Int32).toNatClampNeg (vp_nar .byte v_133)) = g_134 at hP hD
  refine lv_iinc (v := 12) (lv' := [(6, .int 12), (7, .int a3), (0, .ref mo), (1, .int a1), (2, .int a2), (3, .int a3), (4, .int a4), (5, .int a5)]) hx hb dX9_feed_99 hl (k := 1) rfl (by decide) (by decide) rfl (fun ls hl => ?_)
  refine lv_goto (tgt := 18) hx hb dX9_feed_102 (by decide) ?_
  refine lv_iload hx hb dX9_feed_18 (lv_at hl 0 rfl) ?_
  refine lv_bipush (v := 20) hx hb dX9_feed_20 (by decide) ?_
  refine lv_icmp_ge (tgt := 105) hx hb dX9_feed_22 (by decide) (fun c9 => absurd c9 (by decide)) (fun _ => ?_)
  refine lv_iload hx hb dX9_feed_25 (lv_at hl 0 rfl) ?_
  refine lv_iconst (v := 4) hx hb dX9_feed_27 (by decide) ?_
  refine lv_icmp_ge (tgt := 35) hx hb dX9_feed_28 (by decide) (fun _ => ?_) (fun c9 => absurd c9 (by decide))
  refine lv_iload hx hb dX9_feed_35 (lv_at hl 0 rfl) ?_
  refine lv_bipush (v := 8) hx hb dX9_feed_37 (by decide) ?_
  refine lv_icmp_ge (tgt := 46) hx hb dX9_feed_39 (by decide) (fun _ => ?_) (fun c9 => absurd c9 (by decide))
  refine lv_iload hx hb dX9_feed_46 (lv_at hl 0 rfl) ?_
  refine lv_bipush (v := 12) hx hb dX9_feed_48 (by decide) ?_
  refine lv_icmp_ge (tgt := 57) hx hb dX9_feed_50 (by decide) (fun _ => ?_) (fun c9 => absurd c9 (by decide))
  refine lv_iload hx hb dX9_feed_57 (lv_at hl 0 rfl) ?_
  refine lv_bipush (v := 16) hx hb dX9_feed_59 (by decide) ?_
  refine lv_icmp_ge (tgt := 69) hx hb dX9_feed_61 (by decide) (fun c9 => absurd c9 (by decide)) (fun _ => ?_)
  refine lv_iload hx hb dX9_feed_64 (lv_at hl 6 rfl) ?_
  refine lv_goto (tgt := 71) hx hb dX9_feed_66 (by decide) ?_
  refine lv_istore (lv' := [(7, .int a4), (6, .int 12), (0, .ref mo), (1, .int a1), (2, .int a2), (3, .int a3), (4, .int a4), (5, .int a5)]) hx hb dX9_feed_71 hl (by decide) rfl (fun ls hl => ?_)
  refine lv_aload_n hx hb dX9_feed_73 rfl (lv_at hl 2 rfl) ?_
  refine va_get (D := (dC, dI)) (ci := 8) (v := .ref tp) (C := RX9) (T := TX9) (N := 81) hx hb hts i_X9 hown hK hP 0 rfl rfl 0 (by decide) k_1 (fun _ h9 => h9) f_ms_0 dX9_feed_74 ?_
  refine lv_aload_n hx hb dX9_feed_77 rfl (lv_at hl 2 rfl) ?_
  refine va_get (D := (dC, dI)) (ci := 8) (v := .int 0) (C := RX9) (T := TX9) (N := 81) hx hb hts i_X9 hown hK hP 0 rfl rfl 2 (by decide) k_0 (fun _ h9 => h9) f_ms_2 dX9_feed_78 ?_
  refine lv_iload hx hb dX9_feed_81 (lv_at hl 1 rfl) ?_
  refine lv_iadd hx hb dX9_feed_83 ?_
  refine lv_topi (fun v_140 ev_140 => ?_)
  obtain rfl : v_140 = 12 := ev_140.trans (by decide)
  refine lv_iload hx hb dX9_feed_84 (lv_at hl 0 rfl) ?_
  refine lv_bipush (v := 24) hx hb dX9_feed_86 (by decide) ?_
  refine lv_bipush (v := 8) hx hb dX9_feed_88 (by decide) ?_
  refine lv_iload hx hb dX9_feed_90 (lv_at hl 1 rfl) ?_
  refine lv_iconst (v := 3) hx hb dX9_feed_92 (by decide) ?_
  refine lv_iand hx hb dX9_feed_93 ?_
  refine lv_topi (fun v_141 ev_141 => ?_)
  obtain rfl : v_141 = 0 := ev_141.trans (by decide)
  refine lv_imul hx hb dX9_feed_94 ?_
  refine lv_topi (fun v_142 ev_142 => ?_)
  obtain rfl : v_142 = 0 := ev_142.trans (by decide)
  refine lv_isub hx hb dX9_feed_95 ?_
  refine lv_topi (fun v_143 ev_143 => ?_)
  obtain rfl : v_143 = 24 := ev_143.trans (by decide)
  refine lv_ishr hx hb dX9_feed_96 ?_
  refine lv_topi (fun v_144 ev_144 => ?_)
  refine lv_i2b hx hb dX9_feed_97 rfl ?_
  refine lv_topi (fun v_146 ev_146 => ?_)
  refine va_bast hx hb hK hP hD hS 1 0 rfl rfl (p1_in (i := 12) (n := 1620) (by decide)) dX9_feed_98 (fun H locs hP hD hS => ?_)
  have hP : va_P (dC, dI) vwCl [(mo, .inr (8, ms)), (tp, .inl (cP, 1620, .inl (upd g_134 (12 : Int32).toNatClampNeg (vp_nar .byte v_146))))] H := hP
  have hD : va_D A [(mo, .inr (8, ms)), (tp, .inl (cP, 1620, .inl (upd g_134 (12 : Int32).toNatClampNeg (vp_nar .byte v_146))))] := hD
  generalize eg_147 : (upd g_134 (12 : Int32).toNatClampNeg (vp_nar .byte v_146)) = g_147 at hP hD
  refine lv_iinc (v := 13) (lv' := [(6, .int 13), (7, .int a4), (0, .ref mo), (1, .int a1), (2, .int a2), (3, .int a3), (4, .int a4), (5, .int a5)]) hx hb dX9_feed_99 hl (k := 1) rfl (by decide) (by decide) rfl (fun ls hl => ?_)
  refine lv_goto (tgt := 18) hx hb dX9_feed_102 (by decide) ?_
  refine lv_iload hx hb dX9_feed_18 (lv_at hl 0 rfl) ?_
  refine lv_bipush (v := 20) hx hb dX9_feed_20 (by decide) ?_
  refine lv_icmp_ge (tgt := 105) hx hb dX9_feed_22 (by decide) (fun c9 => absurd c9 (by decide)) (fun _ => ?_)
  refine lv_iload hx hb dX9_feed_25 (lv_at hl 0 rfl) ?_
  refine lv_iconst (v := 4) hx hb dX9_feed_27 (by decide) ?_
  refine lv_icmp_ge (tgt := 35) hx hb dX9_feed_28 (by decide) (fun _ => ?_) (fun c9 => absurd c9 (by decide))
  refine lv_iload hx hb dX9_feed_35 (lv_at hl 0 rfl) ?_
  refine lv_bipush (v := 8) hx hb dX9_feed_37 (by decide) ?_
  refine lv_icmp_ge (tgt := 46) hx hb dX9_feed_39 (by decide) (fun _ => ?_) (fun c9 => absurd c9 (by decide))
  refine lv_iload hx hb dX9_feed_46 (lv_at hl 0 rfl) ?_
  refine lv_bipush (v := 12) hx hb dX9_feed_48 (by decide) ?_
  refine lv_icmp_ge (tgt := 57) hx hb dX9_feed_50 (by decide) (fun _ => ?_) (fun c9 => absurd c9 (by decide))
  refine lv_iload hx hb dX9_feed_57 (lv_at hl 0 rfl) ?_
  refine lv_bipush (v := 16) hx hb dX9_feed_59 (by decide) ?_
  refine lv_icmp_ge (tgt := 69) hx hb dX9_feed_61 (by decide) (fun c9 => absurd c9 (by decide)) (fun _ => ?_)
  refine lv_iload hx hb dX9_feed_64 (lv_at hl 6 rfl) ?_
  refine lv_goto (tgt := 71) hx hb dX9_feed_66 (by decide) ?_
  refine lv_istore (lv' := [(7, .int a4), (6, .int 13), (0, .ref mo), (1, .int a1), (2, .int a2), (3, .int a3), (4, .int a4), (5, .int a5)]) hx hb dX9_feed_71 hl (by decide) rfl (fun ls hl => ?_)
  refine lv_aload_n hx hb dX9_feed_73 rfl (lv_at hl 2 rfl) ?_
  refine va_get (D := (dC, dI)) (ci := 8) (v := .ref tp) (C := RX9) (T := TX9) (N := 81) hx hb hts i_X9 hown hK hP 0 rfl rfl 0 (by decide) k_1 (fun _ h9 => h9) f_ms_0 dX9_feed_74 ?_
  refine lv_aload_n hx hb dX9_feed_77 rfl (lv_at hl 2 rfl) ?_
  refine va_get (D := (dC, dI)) (ci := 8) (v := .int 0) (C := RX9) (T := TX9) (N := 81) hx hb hts i_X9 hown hK hP 0 rfl rfl 2 (by decide) k_0 (fun _ h9 => h9) f_ms_2 dX9_feed_78 ?_
  refine lv_iload hx hb dX9_feed_81 (lv_at hl 1 rfl) ?_
  refine lv_iadd hx hb dX9_feed_83 ?_
  refine lv_topi (fun v_153 ev_153 => ?_)
  obtain rfl : v_153 = 13 := ev_153.trans (by decide)
  refine lv_iload hx hb dX9_feed_84 (lv_at hl 0 rfl) ?_
  refine lv_bipush (v := 24) hx hb dX9_feed_86 (by decide) ?_
  refine lv_bipush (v := 8) hx hb dX9_feed_88 (by decide) ?_
  refine lv_iload hx hb dX9_feed_90 (lv_at hl 1 rfl) ?_
  refine lv_iconst (v := 3) hx hb dX9_feed_92 (by decide) ?_
  refine lv_iand hx hb dX9_feed_93 ?_
  refine lv_topi (fun v_154 ev_154 => ?_)
  obtain rfl : v_154 = 1 := ev_154.trans (by decide)
  refine lv_imul hx hb dX9_feed_94 ?_
  refine lv_topi (fun v_155 ev_155 => ?_)
  obtain rfl : v_155 = 8 := ev_155.trans (by decide)
  refine lv_isub hx hb dX9_feed_95 ?_
  refine lv_topi (fun v_156 ev_156 => ?_)
  obtain rfl : v_156 = 16 := ev_156.trans (by decide)
  refine lv_ishr hx hb dX9_feed_96 ?_
  refine lv_topi (fun v_157 ev_157 => ?_)
  refine lv_i2b hx hb dX9_feed_97 rfl ?_
  refine lv_topi (fun v_159 ev_159 => ?_)
  refine va_bast hx hb hK hP hD hS 1 0 rfl rfl (p1_in (i := 13) (n := 1620) (by decide)) dX9_feed_98 (fun H locs hP hD hS => ?_)
  have hP : va_P (dC, dI) vwCl [(mo, .inr (8, ms)), (tp, .inl (cP, 1620, .inl (upd g_147 (13 : Int32).toNatClampNeg (vp_nar .byte v_159))))] H := hP
  have hD : va_D A [(mo, .inr (8, ms)), (tp, .inl (cP, 1620, .inl (upd g_147 (13 : Int32).toNatClampNeg (vp_nar .byte v_159))))] := hD
  generalize eg_160 : (upd g_147 (13 : Int32).toNatClampNeg (vp_nar .byte v_159)) = g_160 at hP hD
  refine lv_iinc (v := 14) (lv' := [(6, .int 14), (7, .int a4), (0, .ref mo), (1, .int a1), (2, .int a2), (3, .int a3), (4, .int a4), (5, .int a5)]) hx hb dX9_feed_99 hl (k := 1) rfl (by decide) (by decide) rfl (fun ls hl => ?_)
  refine lv_goto (tgt := 18) hx hb dX9_feed_102 (by decide) ?_
  refine lv_iload hx hb dX9_feed_18 (lv_at hl 0 rfl) ?_
  refine lv_bipush (v := 20) hx hb dX9_feed_20 (by decide) ?_
  refine lv_icmp_ge (tgt := 105) hx hb dX9_feed_22 (by decide) (fun c9 => absurd c9 (by decide)) (fun _ => ?_)
  refine lv_iload hx hb dX9_feed_25 (lv_at hl 0 rfl) ?_
  refine lv_iconst (v := 4) hx hb dX9_feed_27 (by decide) ?_
  refine lv_icmp_ge (tgt := 35) hx hb dX9_feed_28 (by decide) (fun _ => ?_) (fun c9 => absurd c9 (by decide))
  refine lv_iload hx hb dX9_feed_35 (lv_at hl 0 rfl) ?_
  refine lv_bipush (v := 8) hx hb dX9_feed_37 (by decide) ?_
  refine lv_icmp_ge (tgt := 46) hx hb dX9_feed_39 (by decide) (fun _ => ?_) (fun c9 => absurd c9 (by decide))
  refine lv_iload hx hb dX9_feed_46 (lv_at hl 0 rfl) ?_
  refine lv_bipush (v := 12) hx hb dX9_feed_48 (by decide) ?_
  refine lv_icmp_ge (tgt := 57) hx hb dX9_feed_50 (by decide) (fun _ => ?_) (fun c9 => absurd c9 (by decide))
  refine lv_iload hx hb dX9_feed_57 (lv_at hl 0 rfl) ?_
  refine lv_bipush (v := 16) hx hb dX9_feed_59 (by decide) ?_
  refine lv_icmp_ge (tgt := 69) hx hb dX9_feed_61 (by decide) (fun c9 => absurd c9 (by decide)) (fun _ => ?_)
  refine lv_iload hx hb dX9_feed_64 (lv_at hl 6 rfl) ?_
  refine lv_goto (tgt := 71) hx hb dX9_feed_66 (by decide) ?_
  refine lv_istore (lv' := [(7, .int a4), (6, .int 14), (0, .ref mo), (1, .int a1), (2, .int a2), (3, .int a3), (4, .int a4), (5, .int a5)]) hx hb dX9_feed_71 hl (by decide) rfl (fun ls hl => ?_)
  refine lv_aload_n hx hb dX9_feed_73 rfl (lv_at hl 2 rfl) ?_
  refine va_get (D := (dC, dI)) (ci := 8) (v := .ref tp) (C := RX9) (T := TX9) (N := 81) hx hb hts i_X9 hown hK hP 0 rfl rfl 0 (by decide) k_1 (fun _ h9 => h9) f_ms_0 dX9_feed_74 ?_
  refine lv_aload_n hx hb dX9_feed_77 rfl (lv_at hl 2 rfl) ?_
  refine va_get (D := (dC, dI)) (ci := 8) (v := .int 0) (C := RX9) (T := TX9) (N := 81) hx hb hts i_X9 hown hK hP 0 rfl rfl 2 (by decide) k_0 (fun _ h9 => h9) f_ms_2 dX9_feed_78 ?_
  refine lv_iload hx hb dX9_feed_81 (lv_at hl 1 rfl) ?_
  refine lv_iadd hx hb dX9_feed_83 ?_
  refine lv_topi (fun v_166 ev_166 => ?_)
  obtain rfl : v_166 = 14 := ev_166.trans (by decide)
  refine lv_iload hx hb dX9_feed_84 (lv_at hl 0 rfl) ?_
  refine lv_bipush (v := 24) hx hb dX9_feed_86 (by decide) ?_
  refine lv_bipush (v := 8) hx hb dX9_feed_88 (by decide) ?_
  refine lv_iload hx hb dX9_feed_90 (lv_at hl 1 rfl) ?_
  refine lv_iconst (v := 3) hx hb dX9_feed_92 (by decide) ?_
  refine lv_iand hx hb dX9_feed_93 ?_
  refine lv_topi (fun v_167 ev_167 => ?_)
  obtain rfl : v_167 = 2 := ev_167.trans (by decide)
  refine lv_imul hx hb dX9_feed_94 ?_
  refine lv_topi (fun v_168 ev_168 => ?_)
  obtain rfl : v_168 = 16 := ev_168.trans (by decide)
  refine lv_isub hx hb dX9_feed_95 ?_
  refine lv_topi (fun v_169 ev_169 => ?_)
  obtain rfl : v_169 = 8 := ev_169.trans (by decide)
  refine lv_ishr hx hb dX9_feed_96 ?_
  refine lv_topi (fun v_170 ev_170 => ?_)
  refine lv_i2b hx hb dX9_feed_97 rfl ?_
  refine lv_topi (fun v_172 ev_172 => ?_)
  refine va_bast hx hb hK hP hD hS 1 0 rfl rfl (p1_in (i := 14) (n := 1620) (by decide)) dX9_feed_98 (fun H locs hP hD hS => ?_)
  have hP : va_P (dC, dI) vwCl [(mo, .inr (8, ms)), (tp, .inl (cP, 1620, .inl (upd g_160 (14 : Int32).toNatClampNeg (vp_nar .byte v_172))))] H := hP
  have hD : va_D A [(mo, .inr (8, ms)), (tp, .inl (cP, 1620, .inl (upd g_160 (14 : Int32).toNatClampNeg (vp_nar .byte v_172))))] := hD
  generalize eg_173 : (upd g_160 (14 : Int32).toNatClampNeg (vp_nar .byte v_172)) = g_173 at hP hD
  refine lv_iinc (v := 15) (lv' := [(6, .int 15), (7, .int a4), (0, .ref mo), (1, .int a1), (2, .int a2), (3, .int a3), (4, .int a4), (5, .int a5)]) hx hb dX9_feed_99 hl (k := 1) rfl (by decide) (by decide) rfl (fun ls hl => ?_)
  refine lv_goto (tgt := 18) hx hb dX9_feed_102 (by decide) ?_
  refine lv_iload hx hb dX9_feed_18 (lv_at hl 0 rfl) ?_
  refine lv_bipush (v := 20) hx hb dX9_feed_20 (by decide) ?_
  refine lv_icmp_ge (tgt := 105) hx hb dX9_feed_22 (by decide) (fun c9 => absurd c9 (by decide)) (fun _ => ?_)
  refine lv_iload hx hb dX9_feed_25 (lv_at hl 0 rfl) ?_
  refine lv_iconst (v := 4) hx hb dX9_feed_27 (by decide) ?_
  refine lv_icmp_ge (tgt := 35) hx hb dX9_feed_28 (by decide) (fun _ => ?_) (fun c9 => absurd c9 (by decide))
  refine lv_iload hx hb dX9_feed_35 (lv_at hl 0 rfl) ?_
  refine lv_bipush (v := 8) hx hb dX9_feed_37 (by decide) ?_
  refine lv_icmp_ge (tgt := 46) hx hb dX9_feed_39 (by decide) (fun _ => ?_) (fun c9 => absurd c9 (by decide))
  refine lv_iload hx hb dX9_feed_46 (lv_at hl 0 rfl) ?_
  refine lv_bipush (v := 12) hx hb dX9_feed_48 (by decide) ?_
  refine lv_icmp_ge (tgt := 57) hx hb dX9_feed_50 (by decide) (fun _ => ?_) (fun c9 => absurd c9 (by decide))
  refine lv_iload hx hb dX9_feed_57 (lv_at hl 0 rfl) ?_
  refine lv_bipush (v := 16) hx hb dX9_feed_59 (by decide) ?_
  refine lv_icmp_ge (tgt := 69) hx hb dX9_feed_61 (by decide) (fun c9 => absurd c9 (by decide)) (fun _ => ?_)
  refine lv_iload hx hb dX9_feed_64 (lv_at hl 6 rfl) ?_
  refine lv_goto (tgt := 71) hx hb dX9_feed_66 (by decide) ?_
  refine lv_istore (lv' := [(7, .int a4), (6, .int 15), (0, .ref mo), (1, .int a1), (2, .int a2), (3, .int a3), (4, .int a4), (5, .int a5)]) hx hb dX9_feed_71 hl (by decide) rfl (fun ls hl => ?_)
  refine lv_aload_n hx hb dX9_feed_73 rfl (lv_at hl 2 rfl) ?_
  refine va_get (D := (dC, dI)) (ci := 8) (v := .ref tp) (C := RX9) (T := TX9) (N := 81) hx hb hts i_X9 hown hK hP 0 rfl rfl 0 (by decide) k_1 (fun _ h9 => h9) f_ms_0 dX9_feed_74 ?_
  refine lv_aload_n hx hb dX9_feed_77 rfl (lv_at hl 2 rfl) ?_
  refine va_get (D := (dC, dI)) (ci := 8) (v := .int 0) (C := RX9) (T := TX9) (N := 81) hx hb hts i_X9 hown hK hP 0 rfl rfl 2 (by decide) k_0 (fun _ h9 => h9) f_ms_2 dX9_feed_78 ?_
  refine lv_iload hx hb dX9_feed_81 (lv_at hl 1 rfl) ?_
  refine lv_iadd hx hb dX9_feed_83 ?_
  refine lv_topi (fun v_179 ev_179 => ?_)
  obtain rfl : v_179 = 15 := ev_179.trans (by decide)
  refine lv_iload hx hb dX9_feed_84 (lv_at hl 0 rfl) ?_
  refine lv_bipush (v := 24) hx hb dX9_feed_86 (by decide) ?_
  refine lv_bipush (v := 8) hx hb dX9_feed_88 (by decide) ?_
  refine lv_iload hx hb dX9_feed_90 (lv_at hl 1 rfl) ?_
  refine lv_iconst (v := 3) hx hb dX9_feed_92 (by decide) ?_
  refine lv_iand hx hb dX9_feed_93 ?_
  refine lv_topi (fun v_180 ev_180 => ?_)
  obtain rfl : v_180 = 3 := ev_180.trans (by decide)
  refine lv_imul hx hb dX9_feed_94 ?_
  refine lv_topi (fun v_181 ev_181 => ?_)
  obtain rfl : v_181 = 24 := ev_181.trans (by decide)
  refine lv_isub hx hb dX9_feed_95 ?_
  refine lv_topi (fun v_182 ev_182 => ?_)
  obtain rfl : v_182 = 0 := ev_182.trans (by decide)
  refine lv_ishr hx hb dX9_feed_96 ?_
  refine lv_topi (fun v_183 ev_183 => ?_)
  refine lv_i2b hx hb dX9_feed_97 rfl ?_
  refine lv_topi (fun v_185 ev_185 => ?_)
  refine va_bast hx hb hK hP hD hS 1 0 rfl rfl (p1_in (i := 15) (n := 1620) (by decide)) dX9_feed_98 (fun H locs hP hD hS => ?_)
  have hP : va_P (dC, dI) vwCl [(mo, .inr (8, ms)), (tp, .inl (cP, 1620, .inl (upd g_173 (15 : Int32).toNatClampNeg (vp_nar .byte v_185))))] H := hP
  have hD : va_D A [(mo, .inr (8, ms)), (tp, .inl (cP, 1620, .inl (upd g_173 (15 : Int32).toNatClampNeg (vp_nar .byte v_185))))] := hD
  generalize eg_186 : (upd g_173 (15 : Int32).toNatClampNeg (vp_nar .byte v_185)) = g_186 at hP hD
  refine lv_iinc (v := 16) (lv' := [(6, .int 16), (7, .int a4), (0, .ref mo), (1, .int a1), (2, .int a2), (3, .int a3), (4, .int a4), (5, .int a5)]) hx hb dX9_feed_99 hl (k := 1) rfl (by decide) (by decide) rfl (fun ls hl => ?_)
  refine lv_goto (tgt := 18) hx hb dX9_feed_102 (by decide) ?_
  refine lv_iload hx hb dX9_feed_18 (lv_at hl 0 rfl) ?_
  refine lv_bipush (v := 20) hx hb dX9_feed_20 (by decide) ?_
  refine lv_icmp_ge (tgt := 105) hx hb dX9_feed_22 (by decide) (fun c9 => absurd c9 (by decide)) (fun _ => ?_)
  refine lv_iload hx hb dX9_feed_25 (lv_at hl 0 rfl) ?_
  refine lv_iconst (v := 4) hx hb dX9_feed_27 (by decide) ?_
  refine lv_icmp_ge (tgt := 35) hx hb dX9_feed_28 (by decide) (fun _ => ?_) (fun c9 => absurd c9 (by decide))
  refine lv_iload hx hb dX9_feed_35 (lv_at hl 0 rfl) ?_
  refine lv_bipush (v := 8) hx hb dX9_feed_37 (by decide) ?_
  refine lv_icmp_ge (tgt := 46) hx hb dX9_feed_39 (by decide) (fun _ => ?_) (fun c9 => absurd c9 (by decide))
  refine lv_iload hx hb dX9_feed_46 (lv_at hl 0 rfl) ?_
  refine lv_bipush (v := 12) hx hb dX9_feed_48 (by decide) ?_
  refine lv_icmp_ge (tgt := 57) hx hb dX9_feed_50 (by decide) (fun _ => ?_) (fun c9 => absurd c9 (by decide))
  refine lv_iload hx hb dX9_feed_57 (lv_at hl 0 rfl) ?_
  refine lv_bipush (v := 16) hx hb dX9_feed_59 (by decide) ?_
  refine lv_icmp_ge (tgt := 69) hx hb dX9_feed_61 (by decide) (fun _ => ?_) (fun c9 => absurd c9 (by decide))
  refine lv_iload hx hb dX9_feed_69 (lv_at hl 7 rfl) ?_
  refine lv_istore (lv' := [(7, .int a5), (6, .int 16), (0, .ref mo), (1, .int a1), (2, .int a2), (3, .int a3), (4, .int a4), (5, .int a5)]) hx hb dX9_feed_71 hl (by decide) rfl (fun ls hl => ?_)
  refine lv_aload_n hx hb dX9_feed_73 rfl (lv_at hl 2 rfl) ?_
  refine va_get (D := (dC, dI)) (ci := 8) (v := .ref tp) (C := RX9) (T := TX9) (N := 81) hx hb hts i_X9 hown hK hP 0 rfl rfl 0 (by decide) k_1 (fun _ h9 => h9) f_ms_0 dX9_feed_74 ?_
  refine lv_aload_n hx hb dX9_feed_77 rfl (lv_at hl 2 rfl) ?_
  refine va_get (D := (dC, dI)) (ci := 8) (v := .int 0) (C := RX9) (T := TX9) (N := 81) hx hb hts i_X9 hown hK hP 0 rfl rfl 2 (by decide) k_0 (fun _ h9 => h9) f_ms_2 dX9_feed_78 ?_
  refine lv_iload hx hb dX9_feed_81 (lv_at hl 1 rfl) ?_
  refine lv_iadd hx hb dX9_feed_83 ?_
  refine lv_topi (fun v_192 ev_192 => ?_)
  obtain rfl : v_192 = 16 := ev_192.trans (by decide)
  refine lv_iload hx hb dX9_feed_84 (lv_at hl 0 rfl) ?_
  refine lv_bipush (v := 24) hx hb dX9_feed_86 (by decide) ?_
  refine lv_bipush (v := 8) hx hb dX9_feed_88 (by decide) ?_
  refine lv_iload hx hb dX9_feed_90 (lv_at hl 1 rfl) ?_
  refine lv_iconst (v := 3) hx hb dX9_feed_92 (by decide) ?_
  refine lv_iand hx hb dX9_feed_93 ?_
  refine lv_topi (fun v_193 ev_193 => ?_)
  obtain rfl : v_193 = 0 := ev_193.trans (by decide)
  refine lv_imul hx hb dX9_feed_94 ?_
  refine lv_topi (fun v_194 ev_194 => ?_)
  obtain rfl : v_194 = 0 := ev_194.trans (by decide)
  refine lv_isub hx hb dX9_feed_95 ?_
  refine lv_topi (fun v_195 ev_195 => ?_)
  obtain rfl : v_195 = 24 := ev_195.trans (by decide)
  refine lv_ishr hx hb dX9_feed_96 ?_
  refine lv_topi (fun v_196 ev_196 => ?_)
  refine lv_i2b hx hb dX9_feed_97 rfl ?_
  refine lv_topi (fun v_198 ev_198 => ?_)
  refine va_bast hx hb hK hP hD hS 1 0 rfl rfl (p1_in (i := 16) (n := 1620) (by decide)) dX9_feed_98 (fun H locs hP hD hS => ?_)
  have hP : va_P (dC, dI) vwCl [(mo, .inr (8, ms)), (tp, .inl (cP, 1620, .inl (upd g_186 (16 : Int32).toNatClampNeg (vp_nar .byte v_198))))] H := hP
  have hD : va_D A [(mo, .inr (8, ms)), (tp, .inl (cP, 1620, .inl (upd g_186 (16 : Int32).toNatClampNeg (vp_nar .byte v_198))))] := hD
  generalize eg_199 : (upd g_186 (16 : Int32).toNatClampNeg (vp_nar .byte v_198)) = g_199 at hP hD
  refine lv_iinc (v := 17) (lv' := [(6, .int 17), (7, .int a5), (0, .ref mo), (1, .int a1), (2, .int a2), (3, .int a3), (4, .int a4), (5, .int a5)]) hx hb dX9_feed_99 hl (k := 1) rfl (by decide) (by decide) rfl (fun ls hl => ?_)
  refine lv_goto (tgt := 18) hx hb dX9_feed_102 (by decide) ?_
  refine lv_iload hx hb dX9_feed_18 (lv_at hl 0 rfl) ?_
  refine lv_bipush (v := 20) hx hb dX9_feed_20 (by decide) ?_
  refine lv_icmp_ge (tgt := 105) hx hb dX9_feed_22 (by decide) (fun c9 => absurd c9 (by decide)) (fun _ => ?_)
  refine lv_iload hx hb dX9_feed_25 (lv_at hl 0 rfl) ?_
  refine lv_iconst (v := 4) hx hb dX9_feed_27 (by decide) ?_
  refine lv_icmp_ge (tgt := 35) hx hb dX9_feed_28 (by decide) (fun _ => ?_) (fun c9 => absurd c9 (by decide))
  refine lv_iload hx hb dX9_feed_35 (lv_at hl 0 rfl) ?_
  refine lv_bipush (v := 8) hx hb dX9_feed_37 (by decide) ?_
  refine lv_icmp_ge (tgt := 46) hx hb dX9_feed_39 (by decide) (fun _ => ?_) (fun c9 => absurd c9 (by decide))
  refine lv_iload hx hb dX9_feed_46 (lv_at hl 0 rfl) ?_
  refine lv_bipush (v := 12) hx hb dX9_feed_48 (by decide) ?_
  refine lv_icmp_ge (tgt := 57) hx hb dX9_feed_50 (by decide) (fun _ => ?_) (fun c9 => absurd c9 (by decide))
  refine lv_iload hx hb dX9_feed_57 (lv_at hl 0 rfl) ?_
  refine lv_bipush (v := 16) hx hb dX9_feed_59 (by decide) ?_
  refine lv_icmp_ge (tgt := 69) hx hb dX9_feed_61 (by decide) (fun _ => ?_) (fun c9 => absurd c9 (by decide))
  refine lv_iload hx hb dX9_feed_69 (lv_at hl 7 rfl) ?_
  refine lv_istore (lv' := [(7, .int a5), (6, .int 17), (0, .ref mo), (1, .int a1), (2, .int a2), (3, .int a3), (4, .int a4), (5, .int a5)]) hx hb dX9_feed_71 hl (by decide) rfl (fun ls hl => ?_)
  refine lv_aload_n hx hb dX9_feed_73 rfl (lv_at hl 2 rfl) ?_
  refine va_get (D := (dC, dI)) (ci := 8) (v := .ref tp) (C := RX9) (T := TX9) (N := 81) hx hb hts i_X9 hown hK hP 0 rfl rfl 0 (by decide) k_1 (fun _ h9 => h9) f_ms_0 dX9_feed_74 ?_
  refine lv_aload_n hx hb dX9_feed_77 rfl (lv_at hl 2 rfl) ?_
  refine va_get (D := (dC, dI)) (ci := 8) (v := .int 0) (C := RX9) (T := TX9) (N := 81) hx hb hts i_X9 hown hK hP 0 rfl rfl 2 (by decide) k_0 (fun _ h9 => h9) f_ms_2 dX9_feed_78 ?_
  refine lv_iload hx hb dX9_feed_81 (lv_at hl 1 rfl) ?_
  refine lv_iadd hx hb dX9_feed_83 ?_
  refine lv_topi (fun v_205 ev_205 => ?_)
  obtain rfl : v_205 = 17 := ev_205.trans (by decide)
  refine lv_iload hx hb dX9_feed_84 (lv_at hl 0 rfl) ?_
  refine lv_bipush (v := 24) hx hb dX9_feed_86 (by decide) ?_
  refine lv_bipush (v := 8) hx hb dX9_feed_88 (by decide) ?_
  refine lv_iload hx hb dX9_feed_90 (lv_at hl 1 rfl) ?_
  refine lv_iconst (v := 3) hx hb dX9_feed_92 (by decide) ?_
  refine lv_iand hx hb dX9_feed_93 ?_
  refine lv_topi (fun v_206 ev_206 => ?_)
  obtain rfl : v_206 = 1 := ev_206.trans (by decide)
  refine lv_imul hx hb dX9_feed_94 ?_
  refine lv_topi (fun v_207 ev_207 => ?_)
  obtain rfl : v_207 = 8 := ev_207.trans (by decide)
  refine lv_isub hx hb dX9_feed_95 ?_
  refine lv_topi (fun v_208 ev_208 => ?_)
  obtain rfl : v_208 = 16 := ev_208.trans (by decide)
  refine lv_ishr hx hb dX9_feed_96 ?_
  refine lv_topi (fun v_209 ev_209 => ?_)
  refine lv_i2b hx hb dX9_feed_97 rfl ?_
  refine lv_topi (fun v_211 ev_211 => ?_)
  refine va_bast hx hb hK hP hD hS 1 0 rfl rfl (p1_in (i := 17) (n := 1620) (by decide)) dX9_feed_98 (fun H locs hP hD hS => ?_)
  have hP : va_P (dC, dI) vwCl [(mo, .inr (8, ms)), (tp, .inl (cP, 1620, .inl (upd g_199 (17 : Int32).toNatClampNeg (vp_nar .byte v_211))))] H := hP
  have hD : va_D A [(mo, .inr (8, ms)), (tp, .inl (cP, 1620, .inl (upd g_199 (17 : Int32).toNatClampNeg (vp_nar .byte v_211))))] := hD
  generalize eg_212 : (upd g_199 (17 : Int32).toNatClampNeg (vp_nar .byte v_211)) = g_212 at hP hD
  refine lv_iinc (v := 18) (lv' := [(6, .int 18), (7, .int a5), (0, .ref mo), (1, .int a1), (2, .int a2), (3, .int a3), (4, .int a4), (5, .int a5)]) hx hb dX9_feed_99 hl (k := 1) rfl (by decide) (by decide) rfl (fun ls hl => ?_)
  refine lv_goto (tgt := 18) hx hb dX9_feed_102 (by decide) ?_
  refine lv_iload hx hb dX9_feed_18 (lv_at hl 0 rfl) ?_
  refine lv_bipush (v := 20) hx hb dX9_feed_20 (by decide) ?_
  refine lv_icmp_ge (tgt := 105) hx hb dX9_feed_22 (by decide) (fun c9 => absurd c9 (by decide)) (fun _ => ?_)
  refine lv_iload hx hb dX9_feed_25 (lv_at hl 0 rfl) ?_
  refine lv_iconst (v := 4) hx hb dX9_feed_27 (by decide) ?_
  refine lv_icmp_ge (tgt := 35) hx hb dX9_feed_28 (by decide) (fun _ => ?_) (fun c9 => absurd c9 (by decide))
  refine lv_iload hx hb dX9_feed_35 (lv_at hl 0 rfl) ?_
  refine lv_bipush (v := 8) hx hb dX9_feed_37 (by decide) ?_
  refine lv_icmp_ge (tgt := 46) hx hb dX9_feed_39 (by decide) (fun _ => ?_) (fun c9 => absurd c9 (by decide))
  refine lv_iload hx hb dX9_feed_46 (lv_at hl 0 rfl) ?_
  refine lv_bipush (v := 12) hx hb dX9_feed_48 (by decide) ?_
  refine lv_icmp_ge (tgt := 57) hx hb dX9_feed_50 (by decide) (fun _ => ?_) (fun c9 => absurd c9 (by decide))
  refine lv_iload hx hb dX9_feed_57 (lv_at hl 0 rfl) ?_
  refine lv_bipush (v := 16) hx hb dX9_feed_59 (by decide) ?_
  refine lv_icmp_ge (tgt := 69) hx hb dX9_feed_61 (by decide) (fun _ => ?_) (fun c9 => absurd c9 (by decide))
  refine lv_iload hx hb dX9_feed_69 (lv_at hl 7 rfl) ?_
  refine lv_istore (lv' := [(7, .int a5), (6, .int 18), (0, .ref mo), (1, .int a1), (2, .int a2), (3, .int a3), (4, .int a4), (5, .int a5)]) hx hb dX9_feed_71 hl (by decide) rfl (fun ls hl => ?_)
  refine lv_aload_n hx hb dX9_feed_73 rfl (lv_at hl 2 rfl) ?_
  refine va_get (D := (dC, dI)) (ci := 8) (v := .ref tp) (C := RX9) (T := TX9) (N := 81) hx hb hts i_X9 hown hK hP 0 rfl rfl 0 (by decide) k_1 (fun _ h9 => h9) f_ms_0 dX9_feed_74 ?_
  refine lv_aload_n hx hb dX9_feed_77 rfl (lv_at hl 2 rfl) ?_
  refine va_get (D := (dC, dI)) (ci := 8) (v := .int 0) (C := RX9) (T := TX9) (N := 81) hx hb hts i_X9 hown hK hP 0 rfl rfl 2 (by decide) k_0 (fun _ h9 => h9) f_ms_2 dX9_feed_78 ?_
  refine lv_iload hx hb dX9_feed_81 (lv_at hl 1 rfl) ?_
  refine lv_iadd hx hb dX9_feed_83 ?_
  refine lv_topi (fun v_218 ev_218 => ?_)
  obtain rfl : v_218 = 18 := ev_218.trans (by decide)
  refine lv_iload hx hb dX9_feed_84 (lv_at hl 0 rfl) ?_
  refine lv_bipush (v := 24) hx hb dX9_feed_86 (by decide) ?_
  refine lv_bipush (v := 8) hx hb dX9_feed_88 (by decide) ?_
  refine lv_iload hx hb dX9_feed_90 (lv_at hl 1 rfl) ?_
  refine lv_iconst (v := 3) hx hb dX9_feed_92 (by decide) ?_
  refine lv_iand hx hb dX9_feed_93 ?_
  refine lv_topi (fun v_219 ev_219 => ?_)
  obtain rfl : v_219 = 2 := ev_219.trans (by decide)
  refine lv_imul hx hb dX9_feed_94 ?_
  refine lv_topi (fun v_220 ev_220 => ?_)
  obtain rfl : v_220 = 16 := ev_220.trans (by decide)
  refine lv_isub hx hb dX9_feed_95 ?_
  refine lv_topi (fun v_221 ev_221 => ?_)
  obtain rfl : v_221 = 8 := ev_221.trans (by decide)
  refine lv_ishr hx hb dX9_feed_96 ?_
  refine lv_topi (fun v_222 ev_222 => ?_)
  refine lv_i2b hx hb dX9_feed_97 rfl ?_
  refine lv_topi (fun v_224 ev_224 => ?_)
  refine va_bast hx hb hK hP hD hS 1 0 rfl rfl (p1_in (i := 18) (n := 1620) (by decide)) dX9_feed_98 (fun H locs hP hD hS => ?_)
  have hP : va_P (dC, dI) vwCl [(mo, .inr (8, ms)), (tp, .inl (cP, 1620, .inl (upd g_212 (18 : Int32).toNatClampNeg (vp_nar .byte v_224))))] H := hP
  have hD : va_D A [(mo, .inr (8, ms)), (tp, .inl (cP, 1620, .inl (upd g_212 (18 : Int32).toNatClampNeg (vp_nar .byte v_224))))] := hD
  generalize eg_225 : (upd g_212 (18 : Int32).toNatClampNeg (vp_nar .byte v_224)) = g_225 at hP hD
  refine lv_iinc (v := 19) (lv' := [(6, .int 19), (7, .int a5), (0, .ref mo), (1, .int a1), (2, .int a2), (3, .int a3), (4, .int a4), (5, .int a5)]) hx hb dX9_feed_99 hl (k := 1) rfl (by decide) (by decide) rfl (fun ls hl => ?_)
  refine lv_goto (tgt := 18) hx hb dX9_feed_102 (by decide) ?_
  refine lv_iload hx hb dX9_feed_18 (lv_at hl 0 rfl) ?_
  refine lv_bipush (v := 20) hx hb dX9_feed_20 (by decide) ?_
  refine lv_icmp_ge (tgt := 105) hx hb dX9_feed_22 (by decide) (fun c9 => absurd c9 (by decide)) (fun _ => ?_)
  refine lv_iload hx hb dX9_feed_25 (lv_at hl 0 rfl) ?_
  refine lv_iconst (v := 4) hx hb dX9_feed_27 (by decide) ?_
  refine lv_icmp_ge (tgt := 35) hx hb dX9_feed_28 (by decide) (fun _ => ?_) (fun c9 => absurd c9 (by decide))
  refine lv_iload hx hb dX9_feed_35 (lv_at hl 0 rfl) ?_
  refine lv_bipush (v := 8) hx hb dX9_feed_37 (by decide) ?_
  refine lv_icmp_ge (tgt := 46) hx hb dX9_feed_39 (by decide) (fun _ => ?_) (fun c9 => absurd c9 (by decide))
  refine lv_iload hx hb dX9_feed_46 (lv_at hl 0 rfl) ?_
  refine lv_bipush (v := 12) hx hb dX9_feed_48 (by decide) ?_
  refine lv_icmp_ge (tgt := 57) hx hb dX9_feed_50 (by decide) (fun _ => ?_) (fun c9 => absurd c9 (by decide))
  refine lv_iload hx hb dX9_feed_57 (lv_at hl 0 rfl) ?_
  refine lv_bipush (v := 16) hx hb dX9_feed_59 (by decide) ?_
  refine lv_icmp_ge (tgt := 69) hx hb dX9_feed_61 (by decide) (fun _ => ?_) (fun c9 => absurd c9 (by decide))
  refine lv_iload hx hb dX9_feed_69 (lv_at hl 7 rfl) ?_
  refine lv_istore (lv' := [(7, .int a5), (6, .int 19), (0, .ref mo), (1, .int a1), (2, .int a2), (3, .int a3), (4, .int a4), (5, .int a5)]) hx hb dX9_feed_71 hl (by decide) rfl (fun ls hl => ?_)
  refine lv_aload_n hx hb dX9_feed_73 rfl (lv_at hl 2 rfl) ?_
  refine va_get (D := (dC, dI)) (ci := 8) (v := .ref tp) (C := RX9) (T := TX9) (N := 81) hx hb hts i_X9 hown hK hP 0 rfl rfl 0 (by decide) k_1 (fun _ h9 => h9) f_ms_0 dX9_feed_74 ?_
  refine lv_aload_n hx hb dX9_feed_77 rfl (lv_at hl 2 rfl) ?_
  refine va_get (D := (dC, dI)) (ci := 8) (v := .int 0) (C := RX9) (T := TX9) (N := 81) hx hb hts i_X9 hown hK hP 0 rfl rfl 2 (by decide) k_0 (fun _ h9 => h9) f_ms_2 dX9_feed_78 ?_
  refine lv_iload hx hb dX9_feed_81 (lv_at hl 1 rfl) ?_
  refine lv_iadd hx hb dX9_feed_83 ?_
  refine lv_topi (fun v_231 ev_231 => ?_)
  obtain rfl : v_231 = 19 := ev_231.trans (by decide)
  refine lv_iload hx hb dX9_feed_84 (lv_at hl 0 rfl) ?_
  refine lv_bipush (v := 24) hx hb dX9_feed_86 (by decide) ?_
  refine lv_bipush (v := 8) hx hb dX9_feed_88 (by decide) ?_
  refine lv_iload hx hb dX9_feed_90 (lv_at hl 1 rfl) ?_
  refine lv_iconst (v := 3) hx hb dX9_feed_92 (by decide) ?_
  refine lv_iand hx hb dX9_feed_93 ?_
  refine lv_topi (fun v_232 ev_232 => ?_)
  obtain rfl : v_232 = 3 := ev_232.trans (by decide)
  refine lv_imul hx hb dX9_feed_94 ?_
  refine lv_topi (fun v_233 ev_233 => ?_)
  obtain rfl : v_233 = 24 := ev_233.trans (by decide)
  refine lv_isub hx hb dX9_feed_95 ?_
  refine lv_topi (fun v_234 ev_234 => ?_)
  obtain rfl : v_234 = 0 := ev_234.trans (by decide)
  refine lv_ishr hx hb dX9_feed_96 ?_
  refine lv_topi (fun v_235 ev_235 => ?_)
  refine lv_i2b hx hb dX9_feed_97 rfl ?_
  refine lv_topi (fun v_237 ev_237 => ?_)
  refine va_bast hx hb hK hP hD hS 1 0 rfl rfl (p1_in (i := 19) (n := 1620) (by decide)) dX9_feed_98 (fun H locs hP hD hS => ?_)
  have hP : va_P (dC, dI) vwCl [(mo, .inr (8, ms)), (tp, .inl (cP, 1620, .inl (upd g_225 (19 : Int32).toNatClampNeg (vp_nar .byte v_237))))] H := hP
  have hD : va_D A [(mo, .inr (8, ms)), (tp, .inl (cP, 1620, .inl (upd g_225 (19 : Int32).toNatClampNeg (vp_nar .byte v_237))))] := hD
  generalize eg_238 : (upd g_225 (19 : Int32).toNatClampNeg (vp_nar .byte v_237)) = g_238 at hP hD
  refine lv_iinc (v := 20) (lv' := [(6, .int 20), (7, .int a5), (0, .ref mo), (1, .int a1), (2, .int a2), (3, .int a3), (4, .int a4), (5, .int a5)]) hx hb dX9_feed_99 hl (k := 1) rfl (by decide) (by decide) rfl (fun ls hl => ?_)
  refine lv_goto (tgt := 18) hx hb dX9_feed_102 (by decide) ?_
  refine lv_iload hx hb dX9_feed_18 (lv_at hl 0 rfl) ?_
  refine lv_bipush (v := 20) hx hb dX9_feed_20 (by decide) ?_
  refine lv_icmp_ge (tgt := 105) hx hb dX9_feed_22 (by decide) (fun _ => ?_) (fun c9 => absurd c9 (by decide))
  refine lv_aload_n hx hb dX9_feed_105 rfl (lv_at hl 2 rfl) ?_
  refine lv_dup hx hb dX9_feed_106 rfl ?_
  refine va_get (D := (dC, dI)) (ci := 8) (v := .int 0) (C := RX9) (T := TX9) (N := 81) hx hb hts i_X9 hown hK hP 0 rfl rfl 2 (by decide) k_0 (fun _ h9 => h9) f_ms_2 dX9_feed_107 ?_
  refine lv_bipush (v := 20) hx hb dX9_feed_110 (by decide) ?_
  refine lv_iadd hx hb dX9_feed_112 ?_
  refine lv_topi (fun v_240 ev_240 => ?_)
  obtain rfl : v_240 = 20 := ev_240.trans (by decide)
  refine va_put (D := (dC, dI)) (ci := 8) (v := .int 20) (ty := .int) (C := RX9) (T := TX9) (N := 81) hx hb hts i_X9 tyX9 tyX9_ok nmX9 hown hK hP hD hS 0 rfl rfl 2 (by decide) k_0 (fun _ h9 => h9) rfl (by decide +kernel) rfl rfl (by rw [l_ms]; decide) dX9_feed_113 (fun H locs hP hD hS => ?_)
  have hP : va_P (dC, dI) vwCl [(mo, .inr (8, (ms.set 2 (.int 20)))), (tp, .inl (cP, 1620, .inl g_238))] H := hP
  have hD : va_D A [(mo, .inr (8, (ms.set 2 (.int 20)))), (tp, .inl (cP, 1620, .inl g_238))] := hD
  generalize efs_241 : (ms.set 2 (.int 20)) = fs_241 at hP hD
  have lfs_241 : fs_241.length = 81 := by rw [← efs_241, List.length_set]; exact l_ms
  have ffs_241_0 : fs_241[0]? = some (.ref tp) := by rw [← efs_241]; exact p1_sn (by decide) f_ms_0
  have ffs_241_2 : fs_241[2]? = some (.int 20) := by rw [← efs_241]; exact p1_sa l_ms (by decide)
  refine lv_aload_n hx hb dX9_feed_116 rfl (lv_at hl 2 rfl) ?_
  refine va_get (D := (dC, dI)) (ci := 8) (v := .int 20) (C := RX9) (T := TX9) (N := 81) hx hb hts i_X9 hown hK hP 0 rfl rfl 2 (by decide) k_0 (fun _ h9 => h9) ffs_241_2 dX9_feed_117 ?_
  have hP9 := hP.sub (ws' := []) [] rfl
  have hD9 := hD.sub (ws' := []) [] (by decide) rfl
  have hK9 := hK.sub (tys' := []) [] rfl
  exact W.iret (v := 20) hx hb hr (fun t ht hW => ⟨⟨20, (), rfl, rfl, by rw [ht]; exact hP9, va_K.moved hW.alike hK9, hD9⟩, hS.F ht⟩) hS.2.2 dX9_feed_120
