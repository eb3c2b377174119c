def zo_c_lclear : List Cond := [.code yX3_clear cX3_clear 1 none, .fieldLink RX3 21 "BowWalk$Laws" "used" "I", .fieldLink RX3 25 "BowWalk$Laws" "rows" "I", .fieldLink RX3 28 "BowWalk$Laws" "units" "I"]
def zw_c_lclear : List Cond := zo_c_lclear ++ (wsX30 ++ [])
theorem gz_c_lclear : zw_c_lclear.all goodWord = true := p1_ga (by decide +kernel) (p1_ga gk_X3 p1_g0)
theorem iz_c_lclear : ∀ w ∈ zw_c_lclear, w ∈ lw_tbl := p1_ia (p1_all [572, 153, 154, 155] (by decide +kernel)) (p1_ia ik_X3 p1_i0)
set_option maxHeartbeats 4000000 in
set_option maxRecDepth 100000 in
theorem c_lclear (l : Launch) (dC : Nat → ClassId) (dI : Nat → Nat → Nat) (sz : Nat) (lw : Nat) (lf : List Value) (lc : Nat) (lb : Nat) (f_lf_0 : lf[0]? = some (.ref lc)) (f_lf_1 : lf[1]? = some (.ref lb)) (l_lf : lf.length = 6) : Met l yX3_clear zw_c_lclear ({ frames := 0, cells := 0, slots := 0, locals := 0 }) (va_Pc [.ref lw] (fun U => U.heap.size = sz ∧ va_P (dC, dI) vwCl [(lw, .inr (3, lf))] U.heap ∧ va_K (dC, dI) vwCl [] U ∧ va_D (fun _ => True) [(lw, .inr (3, lf))])) (va_Qv (fun (_ : Unit) => True) (fun _ t => ∃ (lo : List Value), lo.length = 6 ∧ lo[0]? = some (.ref lc) ∧ lo[1]? = some (.ref lb) ∧ lo[3]? = some (.int 0) ∧ lo[4]? = some (.int 0) ∧ lo[5]? = some (.int 0) ∧ va_P (dC, dI) vwCl [(lw, .inr (3, lo))] t.heap ∧ va_K (dC, dI) vwCl [] t ∧ va_D (va_A [(lw, .inr (3, lf))] sz) [(lw, .inr (3, lo))]) (va_A [(lw, .inr (3, lf))] sz)) 0 0 (va_A [(lw, .inr (3, lf))] sz) := by
  refine Met.ofW (cc := cX3_clear) (maxL := 1) (ret := none) (by decide) rfl ?_
  intro p e s m args below meth c s₁ B hml hv
  obtain ⟨rfl, hsz, hP, hK, hD0⟩ := hv
  have hx := B.exec
  have hb := B.bytes
  have hr := B.returns
  have hts := atoms_spec (ws := zw_c_lclear) B.pre
  have hown : s.vm.findClass RX3 = some m.cls := findClass_of_methodNamed B.named
  have hlocks := B.notSynchronized
  subst hsz
  have hD := hD0.self (sz := s.heap.size)
  generalize hAe : va_A [(lw, .inr (3, lf))] s.heap.size = A at hD ⊢
  have hA : ∀ q : Nat, s.heap.size ≤ q → A q := fun q h => by rw [← hAe]; exact Or.inr h
  have hS : va_S A s.heap s.heap [] := va_S.rf
  have hP : va_P (dC, dI) vwCl [(lw, .inr (3, lf))] s.heap := hP
  have m_0 : (.fieldLink RX3 21 "BowWalk$Laws" "used" "I" : Cond) ∈ zw_c_lclear := List.mem_append_left _ (List.mem_of_getElem? (i := 1) rfl)
  have k_0 := hts _ m_0
  have m_1 : (.fieldLink RX3 25 "BowWalk$Laws" "rows" "I" : Cond) ∈ zw_c_lclear := List.mem_append_left _ (List.mem_of_getElem? (i := 2) rfl)
  have k_1 := hts _ m_1
  have m_2 : (.fieldLink RX3 28 "BowWalk$Laws" "units" "I" : Cond) ∈ zw_c_lclear := List.mem_append_left _ (List.mem_of_getElem? (i := 3) rfl)
  have k_2 := hts _ m_2
  have i_X3 : ∀ w ∈ u_ws RX3 TX3 6, w ∈ zw_c_lclear := fun w h => List.mem_append_right _ (List.mem_append_left _ h)
  have hl := lv_entry ([.ref lw]) (n := 1) (Nat.le_of_ble_eq_true rfl)
  rw [lg_entry_eq]
  generalize (lg_sl ([.ref lw]) ++ List.replicate (1 - (lg_sl ([.ref lw])).length) Slot.unset).toArray = ls at hl ⊢
  have hl : lv_has ls 1 [(0, .ref lw)] := hl
  refine lv_aload_n hx hb dX3_clear_0 rfl (lv_at hl 0 rfl) ?_
  refine lv_iconst (v := 0) hx hb dX3_clear_1 (by decide) ?_
  refine va_put (D := (dC, dI)) (ci := 3) (v := .int 0) (ty := .int) (C := RX3) (T := TX3) (N := 6) hx hb hts i_X3 tyX3 tyX3_ok nmX3 hown hK hP hD hS 0 rfl rfl 3 (by decide) k_0 (fun _ h9 => h9) rfl (by decide +kernel) rfl rfl (by rw [l_lf]; decide) dX3_clear_2 (fun H locs hP hD hS => ?_)
  have hP : va_P (dC, dI) vwCl [(lw, .inr (3, (lf.set 3 (.int 0))))] H := hP
  have hD : va_D A [(lw, .inr (3, (lf.set 3 (.int 0))))] := hD
  generalize efs_1 : (lf.set 3 (.int 0)) = fs_1 at hP hD
  have lfs_1 : fs_1.length = 6 := by rw [← efs_1, List.length_set]; exact l_lf
  have ffs_1_0 : fs_1[0]? = some (.ref lc) := by rw [← efs_1]; exact p1_sn (by decide) f_lf_0
  have ffs_1_1 : fs_1[1]? = some (.ref lb) := by rw [← efs_1]; exact p1_sn (by decide) f_lf_1
  have ffs_1_3 : fs_1[3]? = some (.int 0) := by rw [← efs_1]; exact p1_sa l_lf (by decide)
  refine lv_aload_n hx hb dX3_clear_5 rfl (lv_at hl 0 rfl) ?_
  refine lv_iconst (v := 0) hx hb dX3_clear_6 (by decide) ?_
  refine va_put (D := (dC, dI)) (ci := 3) (v := .int 0) (ty := .int) (C := RX3) (T := TX3) (N := 6) hx hb hts i_X3 tyX3 tyX3_ok nmX3 hown hK hP hD hS 0 rfl rfl 4 (by decide) k_1 (fun _ h9 => h9) rfl (by decide +kernel) rfl rfl (by rw [lfs_1]; decide) dX3_clear_7 (fun H locs hP hD hS => ?_)
  have hP : va_P (dC, dI) vwCl [(lw, .inr (3, (fs_1.set 4 (.int 0))))] H := hP
  have hD : va_D A [(lw, .inr (3, (fs_1.set 4 (.int 0))))] := hD
  generalize efs_2 : (fs_1.set 4 (.int 0)) = fs_2 at hP hD
  have lfs_2 : fs_2.length = 6 := by rw [← efs_2, List.length_set]; exact lfs_1
  have ffs_2_0 : fs_2[0]? = some (.ref lc) := by rw [← efs_2]; exact p1_sn (by decide) ffs_1_0
  have ffs_2_1 : fs_2[1]? = some (.ref lb) := by rw [← efs_2]; exact p1_sn (by decide) ffs_1_1
  have ffs_2_3 : fs_2[3]? = some (.int 0) := by rw [← efs_2]; exact p1_sn (by decide) ffs_1_3
  have ffs_2_4 : fs_2[4]? = some (.int 0) := by rw [← efs_2]; exact p1_sa lfs_1 (by decide)
  refine lv_aload_n hx hb dX3_clear_10 rfl (lv_at hl 0 rfl) ?_
  refine lv_iconst (v := 0) hx hb dX3_clear_11 (by decide) ?_
  refine va_put (D := (dC, dI)) (ci := 3) (v := .int 0) (ty := .int) (C := RX3) (T := TX3) (N := 6) hx hb hts i_X3 tyX3 tyX3_ok nmX3 hown hK hP hD hS 0 rfl rfl 5 (by decide) k_2 (fun _ h9 => h9) rfl (by decide +kernel) rfl rfl (by rw [lfs_2]; decide) dX3_clear_12 (fun H locs hP hD hS => ?_)
  have hP : va_P (dC, dI) vwCl [(lw, .inr (3, (fs_2.set 5 (.int 0))))] H := hP
  have hD : va_D A [(lw, .inr (3, (fs_2.set 5 (.int 0))))] := hD
  generalize efs_3 : (fs_2.set 5 (.int 0)) = fs_3 at hP hD
  have lfs_3 : fs_3.length = 6 := by rw [← efs_3, List.length_set]; exact lfs_2
  have ffs_3_0 : fs_3[0]? = some (.ref lc) := by rw [← efs_3]; exact p1_sn (by decide) ffs_2_0
  have ffs_3_1 : fs_3[1]? = some (.ref lb) := by rw [← efs_3]; exact p1_sn (by decide) ffs_2_1
  have ffs_3_3 : fs_3[3]? = some (.int 0) := by rw [← efs_3]; exact p1_sn (by decide) ffs_2_3
  have ffs_3_4 : fs_3[4]? = some (.int 0) := by rw [← efs_3]; exact p1_sn (by decide) ffs_2_4
  have ffs_3_5 : fs_3[5]? = some (.int 0) := by rw [← efs_3]; exact p1_sa lfs_2 (by decide)
  have hP9 := hP.sub (ws' := [(lw, .inr (3, fs_3))]) [0] rfl
  have hD9 := hD.sub (ws' := [(lw, .inr (3, fs_3))]) [0] (by decide) rfl
  have hK9 := hK.sub (tys' := []) [] rfl
  exact W.vret hx hb hr (fun t ht hW => ⟨⟨(), rfl, trivial, fs_3, lfs_3, ffs_3_0, ffs_3_1, ffs_3_3, ffs_3_4, ffs_3_5, by rw [ht]; exact hP9, va_K.moved hW.alike hK9, hD9⟩, hS.F ht⟩) hS.2.2 dX3_clear_15
def zo_c_sclear : List Cond := [.code yX5_clear cX5_clear 2 none, .fieldLink RX5 9 "BowWalk$Shop" "count" "[I", .fieldLink RX5 53 "BowWalk$Shop" "laws" "LBowWalk$Laws;", .methodLink RX5 64 yX3_clear, .instanceMethod yX3_clear, .selects RX3 yX3_clear yX3_clear, .initialized RX3, .fieldLink RX5 57 "BowWalk$Shop" "once" "[I", .fieldLink RX5 60 "BowWalk$Shop" "onceTold" "[Z"]
def zw_c_sclear : List Cond := zo_c_sclear ++ (zw_c_lclear ++ (wsX50 ++ []))
theorem gz_c_sclear : zw_c_sclear.all goodWord = true := p1_ga (by decide +kernel) (p1_ga gz_c_lclear (p1_ga gk_X5 p1_g0))
theorem iz_c_sclear : ∀ w ∈ zw_c_sclear, w ∈ lw_tbl := p1_ia (p1_all [568, 174, 212, 569, 570, 571, 107, 216, 220] (by decide +kernel)) (p1_ia iz_c_lclear (p1_ia ik_X5 p1_i0))
set_option maxHeartbeats 4000000 in
set_option maxRecDepth 100000 in
theorem c_sclear (l : Launch) (dC : Nat → ClassId) (dI : Nat → Nat → Nat) (sz : Nat) (sh : Nat) (sfs : List Value) (sc : Nat) (lw : Nat) (on : Nat) (ot : Nat) (cS : ClassId) (lf : List Value) (lc : Nat) (lb : Nat) (cN : ClassId) (nf : Nat → Int32) (cO : ClassId) (f_sfs_0 : sfs[0]? = some (.ref sc)) (f_sfs_12 : sfs[12]? = some (.ref lw)) (f_sfs_13 : sfs[13]? = some (.ref on)) (f_sfs_14 : sfs[14]? = some (.ref ot)) (f_lf_0 : lf[0]? = some (.ref lc)) (f_lf_1 : lf[1]? = some (.ref lb)) (l_lf : lf.length = 6) : Met l yX5_clear zw_c_sclear ({ frames := 1, cells := 0, slots := 0, locals := 20 }) (va_Pc [.ref sh] (fun U => U.heap.size = sz ∧ va_P (dC, dI) vwCl [(sh, .inr (5, sfs)), (sc, .inl (cS, 5, .inl (fun _ => 0))), (lw, .inr (3, lf)), (on, .inl (cN, 2, .inl nf)), (ot, .inl (cO, 2, .inl (fun _ => 0)))] U.heap ∧ va_K (dC, dI) vwCl [(cS, .int), (cN, .int), (cO, .boolean)] U ∧ va_D (fun _ => True) [(sh, .inr (5, sfs)), (sc, .inl (cS, 5, .inl (fun _ => 0))), (lw, .inr (3, lf)), (on, .inl (cN, 2, .inl nf)), (ot, .inl (cO, 2, .inl (fun _ => 0)))])) (va_Qv (fun (_ : Unit) => True) (fun _ t => ∃ (so : List Value) (sg : Nat → Int32) (lo : List Value), so[0]? = some (.ref sc) ∧ so[12]? = some (.ref lw) ∧ sg 0 = 0 ∧ sg 3 = 0 ∧ lo.length = 6 ∧ lo[0]? = some (.ref lc) ∧ lo[1]? = some (.ref lb) ∧ lo[3]? = some (.int 0) ∧ lo[4]? = some (.int 0) ∧ lo[5]? = some (.int 0) ∧ va_P (dC, dI) vwCl [(sh, .inr (5, so)), (sc, .inl (cS, 5, .inl sg)), (lw, .inr (3, lo))] t.heap ∧ va_K (dC, dI) vwCl [] t ∧ va_D (va_A [(sh, .inr (5, sfs)), (sc, .inl (cS, 5, .inl (fun _ => 0))), (lw, .inr (3, lf)), (on, .inl (cN, 2, .inl nf)), (ot, .inl (cO, 2, .inl (fun _ => 0)))] sz) [(sh, .inr (5, so)), (sc, .inl (cS, 5, .inl sg)), (lw, .inr (3, lo))]) (va_A [(sh, .inr (5, sfs)), (sc, .inl (cS, 5, .inl (fun _ => 0))), (lw, .inr (3, lf)), (on, .inl (cN, 2, .inl nf)), (ot, .inl (cO, 2, .inl (fun _ => 0)))] sz)) 0 0 (va_A [(sh, .inr (5, sfs)), (sc, .inl (cS, 5, .inl (fun _ => 0))), (lw, .inr (3, lf)), (on, .inl (cN, 2, .inl nf)), (ot, .inl (cO, 2, .inl (fun _ => 0)))] sz) := by
  refine Met.ofW (cc := cX5_clear) (maxL := 2) (ret := none) (by decide) rfl ?_
  intro p e s m args below meth c s₁ B hml hv
  obtain ⟨rfl, hsz, hP, hK, hD0⟩ := hv
  have hx := B.exec
  have hb := B.bytes
  have hr := B.returns
  have hts := atoms_spec (ws := zw_c_sclear) B.pre
  have hown : s.vm.findClass RX5 = some m.cls := findClass_of_methodNamed B.named
  have hlocks := B.notSynchronized
  subst hsz
  have hD := hD0.self (sz := s.heap.size)
  generalize hAe : va_A [(sh, .inr (5, sfs)), (sc, .inl (cS, 5, .inl (fun _ => 0))), (lw, .inr (3, lf)), (on, .inl (cN, 2, .inl nf)), (ot, .inl (cO, 2, .inl (fun _ => 0)))] s.heap.size = A at hD ⊢
  have hA : ∀ q : Nat, s.heap.size ≤ q → A q := fun q h => by rw [← hAe]; exact Or.inr h
  have hS : va_S A s.heap s.heap [] := va_S.rf
  have hP : va_P (dC, dI) vwCl [(sh, .inr (5, sfs)), (sc, .inl (cS, 5, .inl (fun _ => 0))), (lw, .inr (3, lf)), (on, .inl (cN, 2, .inl nf)), (ot, .inl (cO, 2, .inl (fun _ => 0)))] s.heap := hP
  have m_0 : (.fieldLink RX5 9 "BowWalk$Shop" "count" "[I" : Cond) ∈ zw_c_sclear := List.mem_append_left _ (List.mem_of_getElem? (i := 1) rfl)
  have k_0 := hts _ m_0
  have m_1 : (.fieldLink RX5 53 "BowWalk$Shop" "laws" "LBowWalk$Laws;" : Cond) ∈ zw_c_sclear := List.mem_append_left _ (List.mem_of_getElem? (i := 2) rfl)
  have k_1 := hts _ m_1
  have m_2 : (.methodLink RX5 64 yX3_clear : Cond) ∈ zw_c_sclear := List.mem_append_left _ (List.mem_of_getElem? (i := 3) rfl)
  have k_2 := hts _ m_2
  have m_3 : (.instanceMethod yX3_clear : Cond) ∈ zw_c_sclear := List.mem_append_left _ (List.mem_of_getElem? (i := 4) rfl)
  have k_3 := hts _ m_3
  have m_4 : (.selects RX3 yX3_clear yX3_clear : Cond) ∈ zw_c_sclear := List.mem_append_left _ (List.mem_of_getElem? (i := 5) rfl)
  have k_4 := hts _ m_4
  have m_5 : (.initialized RX3 : Cond) ∈ zw_c_sclear := List.mem_append_left _ (List.mem_of_getElem? (i := 6) rfl)
  have k_5 := hts _ m_5
  have m_6 : (.fieldLink RX5 57 "BowWalk$Shop" "once" "[I" : Cond) ∈ zw_c_sclear := List.mem_append_left _ (List.mem_of_getElem? (i := 7) rfl)
  have k_6 := hts _ m_6
  have m_7 : (.fieldLink RX5 60 "BowWalk$Shop" "onceTold" "[Z" : Cond) ∈ zw_c_sclear := List.mem_append_left _ (List.mem_of_getElem? (i := 8) rfl)
  have k_7 := hts _ m_7
  have g_c_lclear : ∀ w ∈ zw_c_lclear, w ∈ zw_c_sclear := fun w h => List.mem_append_right _ (List.mem_append_left _ h)
  have i_X5 : ∀ w ∈ u_ws RX5 TX5 15, w ∈ zw_c_sclear := fun w h => List.mem_append_right _ (List.mem_append_right _ (List.mem_append_left _ h))
  have hl := lv_entry ([.ref sh]) (n := 2) (Nat.le_of_ble_eq_true rfl)
  rw [lg_entry_eq]
  generalize (lg_sl ([.ref sh]) ++ List.replicate (2 - (lg_sl ([.ref sh])).length) Slot.unset).toArray = ls at hl ⊢
  have hl : lv_has ls 2 [(0, .ref sh)] := hl
  refine lv_iconst (v := 0) hx hb dX5_clear_0 (by decide) ?_
  refine lv_istore_n (lv' := [(1, .int 0), (0, .ref sh)]) hx hb dX5_clear_1 rfl hl (by decide) rfl (fun ls hl => ?_)
  refine lv_iload_n hx hb dX5_clear_2 rfl (lv_at hl 0 rfl) ?_
  refine lv_iconst (v := 5) hx hb dX5_clear_3 (by decide) ?_
  refine lv_icmp_ge (tgt := 20) hx hb dX5_clear_4 (by decide) (fun c9 => absurd c9 (by decide)) (fun _ => ?_)
  refine lv_aload_n hx hb dX5_clear_7 rfl (lv_at hl 1 rfl) ?_
  refine va_get (D := (dC, dI)) (ci := 5) (v := .ref sc) (C := RX5) (T := TX5) (N := 15) hx hb hts i_X5 hown hK hP 0 rfl rfl 0 (by decide) k_0 (fun _ h9 => h9) f_sfs_0 dX5_clear_8 ?_
  refine lv_iload_n hx hb dX5_clear_11 rfl (lv_at hl 0 rfl) ?_
  refine lv_iconst (v := 0) hx hb dX5_clear_12 (by decide) ?_
  refine va_iast hx hb hK hP hD hS 1 0 rfl rfl (p1_in (i := 0) (n := 5) (by decide)) dX5_clear_13 (fun H locs hP hD hS => ?_)
  have hP : va_P (dC, dI) vwCl [(sh, .inr (5, sfs)), (sc, .inl (cS, 5, .inl (upd (fun _ => 0) (0 : Int32).toNatClampNeg 0))), (lw, .inr (3, lf)), (on, .inl (cN, 2, .inl nf)), (ot, .inl (cO, 2, .inl (fun _ => 0)))] H := hP
  have hD : va_D A [(sh, .inr (5, sfs)), (sc, .inl (cS, 5, .inl (upd (fun _ => 0) (0 : Int32).toNatClampNeg 0))), (lw, .inr (3, lf)), (on, .inl (cN, 2, .inl nf)), (ot, .inl (cO, 2, .inl (fun _ => 0)))] := hD
  generalize eg_2 : (upd (fun _ => 0) (0 : Int32).toNatClampNeg 0) = g_2 at hP hD
  have hg_2_0 : g_2 0 = 0 := by rw [← eg_2]; exact p1_us
  have hg_2_3 : g_2 3 = 0 := by rw [← eg_2]; exact p1_un (by decide) rfl
  refine lv_iinc (v := 1) (lv' := [(1, .int 1), (0, .ref sh)]) hx hb dX5_clear_14 hl (k := 0) rfl (by decide) (by decide) rfl (fun ls hl => ?_)
  refine lv_goto (tgt := 2) hx hb dX5_clear_17 (by decide) ?_
  refine lv_iload_n hx hb dX5_clear_2 rfl (lv_at hl 0 rfl) ?_
  refine lv_iconst (v := 5) hx hb dX5_clear_3 (by decide) ?_
  refine lv_icmp_ge (tgt := 20) hx hb dX5_clear_4 (by decide) (fun c9 => absurd c9 (by decide)) (fun _ => ?_)
  refine lv_aload_n hx hb dX5_clear_7 rfl (lv_at hl 1 rfl) ?_
  refine va_get (D := (dC, dI)) (ci := 5) (v := .ref sc) (C := RX5) (T := TX5) (N := 15) hx hb hts i_X5 hown hK hP 0 rfl rfl 0 (by decide) k_0 (fun _ h9 => h9) f_sfs_0 dX5_clear_8 ?_
  refine lv_iload_n hx hb dX5_clear_11 rfl (lv_at hl 0 rfl) ?_
  refine lv_iconst (v := 0) hx hb dX5_clear_12 (by decide) ?_
  refine va_iast hx hb hK hP hD hS 1 0 rfl rfl (p1_in (i := 1) (n := 5) (by decide)) dX5_clear_13 (fun H locs hP hD hS => ?_)
  have hP : va_P (dC, dI) vwCl [(sh, .inr (5, sfs)), (sc, .inl (cS, 5, .inl (upd g_2 (1 : Int32).toNatClampNeg 0))), (lw, .inr (3, lf)), (on, .inl (cN, 2, .inl nf)), (ot, .inl (cO, 2, .inl (fun _ => 0)))] H := hP
  have hD : va_D A [(sh, .inr (5, sfs)), (sc, .inl (cS, 5, .inl (upd g_2 (1 : Int32).toNatClampNeg 0))), (lw, .inr (3, lf)), (on, .inl (cN, 2, .inl nf)), (ot, .inl (cO, 2, .inl (fun _ => 0)))] := hD
  generalize eg_4 : (upd g_2 (1 : Int32).toNatClampNeg 0) = g_4 at hP hD
  have hg_4_0 : g_4 0 = 0 := by rw [← eg_4]; exact p1_un (by decide) hg_2_0
  have hg_4_3 : g_4 3 = 0 := by rw [← eg_4]; exact p1_un (by decide) hg_2_3
  refine lv_iinc (v := 2) (lv' := [(1, .int 2), (0, .ref sh)]) hx hb dX5_clear_14 hl (k := 0) rfl (by decide) (by decide) rfl (fun ls hl => ?_)
  refine lv_goto (tgt := 2) hx hb dX5_clear_17 (by decide) ?_
  refine lv_iload_n hx hb dX5_clear_2 rfl (lv_at hl 0 rfl) ?_
  refine lv_iconst (v := 5) hx hb dX5_clear_3 (by decide) ?_
  refine lv_icmp_ge (tgt := 20) hx hb dX5_clear_4 (by decide) (fun c9 => absurd c9 (by decide)) (fun _ => ?_)
  refine lv_aload_n hx hb dX5_clear_7 rfl (lv_at hl 1 rfl) ?_
  refine va_get (D := (dC, dI)) (ci := 5) (v := .ref sc) (C := RX5) (T := TX5) (N := 15) hx hb hts i_X5 hown hK hP 0 rfl rfl 0 (by decide) k_0 (fun _ h9 => h9) f_sfs_0 dX5_clear_8 ?_
  refine lv_iload_n hx hb dX5_clear_11 rfl (lv_at hl 0 rfl) ?_
  refine lv_iconst (v := 0) hx hb dX5_clear_12 (by decide) ?_
  refine va_iast hx hb hK hP hD hS 1 0 rfl rfl (p1_in (i := 2) (n := 5) (by decide)) dX5_clear_13 (fun H locs hP hD hS => ?_)
  have hP : va_P (dC, dI) vwCl [(sh, .inr (5, sfs)), (sc, .inl (cS, 5, .inl (upd g_4 (2 : Int32).toNatClampNeg 0))), (lw, .inr (3, lf)), (on, .inl (cN, 2, .inl nf)), (ot, .inl (cO, 2, .inl (fun _ => 0)))] H := hP
  have hD : va_D A [(sh, .inr (5, sfs)), (sc, .inl (cS, 5, .inl (upd g_4 (2 : Int32).toNatClampNeg 0))), (lw, .inr (3, lf)), (on, .inl (cN, 2, .inl nf)), (ot, .inl (cO, 2, .inl (fun _ => 0)))] := hD
  generalize eg_6 : (upd g_4 (2 : Int32).toNatClampNeg 0) = g_6 at hP hD
  have hg_6_0 : g_6 0 = 0 := by rw [← eg_6]; exact p1_un (by decide) hg_4_0
  have hg_6_3 : g_6 3 = 0 := by rw [← eg_6]; exact p1_un (by decide) hg_4_3
  refine lv_iinc (v := 3) (lv' := [(1, .int 3), (0, .ref sh)]) hx hb dX5_clear_14 hl (k := 0) rfl (by decide) (by decide) rfl (fun ls hl => ?_)
  refine lv_goto (tgt := 2) hx hb dX5_clear_17 (by decide) ?_
  refine lv_iload_n hx hb dX5_clear_2 rfl (lv_at hl 0 rfl) ?_
  refine lv_iconst (v := 5) hx hb dX5_clear_3 (by decide) ?_
  refine lv_icmp_ge (tgt := 20) hx hb dX5_clear_4 (by decide) (fun c9 => absurd c9 (by decide)) (fun _ => ?_)
  refine lv_aload_n hx hb dX5_clear_7 rfl (lv_at hl 1 rfl) ?_
  refine va_get (D := (dC, dI)) (ci := 5) (v := .ref sc) (C := RX5) (T := TX5) (N := 15) hx hb hts i_X5 hown hK hP 0 rfl rfl 0 (by decide) k_0 (fun _ h9 => h9) f_sfs_0 dX5_clear_8 ?_
  refine lv_iload_n hx hb dX5_clear_11 rfl (lv_at hl 0 rfl) ?_
  refine lv_iconst (v := 0) hx hb dX5_clear_12 (by decide) ?_
  refine va_iast hx hb hK hP hD hS 1 0 rfl rfl (p1_in (i := 3) (n := 5) (by decide)) dX5_clear_13 (fun H locs hP hD hS => ?_)
  have hP : va_P (dC, dI) vwCl [(sh, .inr (5, sfs)), (sc, .inl (cS, 5, .inl (upd g_6 (3 : Int32).toNatClampNeg 0))), (lw, .inr (3, lf)), (on, .inl (cN, 2, .inl nf)), (ot, .inl (cO, 2, .inl (fun _ => 0)))] H := hP
  have hD : va_D A [(sh, .inr (5, sfs)), (sc, .inl (cS, 5, .inl (upd g_6 (3 : Int32).toNatClampNeg 0))), (lw, .inr (3, lf)), (on, .inl (cN, 2, .inl nf)), (ot, .inl (cO, 2, .inl (fun _ => 0)))] := hD
  generalize eg_8 : (upd g_6 (3 : Int32).toNatClampNeg 0) = g_8 at hP hD
  have hg_8_0 : g_8 0 = 0 := by rw [← eg_8]; exact p1_un (by decide) hg_6_0
  have hg_8_3 : g_8 3 = 0 := by rw [← eg_8]; exact p1_us
  refine lv_iinc (v := 4) (lv' := [(1, .int 4), (0, .ref sh)]) hx hb dX5_clear_14 hl (k := 0) rfl (by decide) (by decide) rfl (fun ls hl => ?_)
  refine lv_goto (tgt := 2) hx hb dX5_clear_17 (by decide) ?_
  refine lv_iload_n hx hb dX5_clear_2 rfl (lv_at hl 0 rfl) ?_
  refine lv_iconst (v := 5) hx hb dX5_clear_3 (by decide) ?_
  refine lv_icmp_ge (tgt := 20) hx hb dX5_clear_4 (by decide) (fun c9 => absurd c9 (by decide)) (fun _ => ?_)
  refine lv_aload_n hx hb dX5_clear_7 rfl (lv_at hl 1 rfl) ?_
  refine va_get (D := (dC, dI)) (ci := 5) (v := .ref sc) (C := RX5) (T := TX5) (N := 15) hx hb hts i_X5 hown hK hP 0 rfl rfl 0 (by decide) k_0 (fun _ h9 => h9) f_sfs_0 dX5_clear_8 ?_
  refine lv_iload_n hx hb dX5_clear_11 rfl (lv_at hl 0 rfl) ?_
  refine lv_iconst (v := 0) hx hb dX5_clear_12 (by decide) ?_
  refine va_iast hx hb hK hP hD hS 1 0 rfl rfl (p1_in (i := 4) (n := 5) (by decide)) dX5_clear_13 (fun H locs hP hD hS => ?_)
  have hP : va_P (dC, dI) vwCl [(sh, .inr (5, sfs)), (sc, .inl (cS, 5, .inl (upd g_8 (4 : Int32).toNatClampNeg 0))), (lw, .inr (3, lf)), (on, .inl (cN, 2, .inl nf)), (ot, .inl (cO, 2, .inl (fun _ => 0)))] H := hP
  have hD : va_D A [(sh, .inr (5, sfs)), (sc, .inl (cS, 5, .inl (upd g_8 (4 : Int32).toNatClampNeg 0))), (lw, .inr (3, lf)), (on, .inl (cN, 2, .inl nf)), (ot, .inl (cO, 2, .inl (fun _ => 0)))] := hD
  generalize eg_10 : (upd g_8 (4 : Int32).toNatClampNeg 0) = g_10 at hP hD
  have hg_10_0 : g_10 0 = 0 := by rw [← eg_10]; exact p1_un (by decide) hg_8_0
  have hg_10_3 : g_10 3 = 0 := by rw [← eg_10]; exact p1_un (by decide) hg_8_3
  refine lv_iinc (v := 5) (lv' := [(1, .int 5), (0, .ref sh)]) hx hb dX5_clear_14 hl (k := 0) rfl (by decide) (by decide) rfl (fun ls hl => ?_)
  refine lv_goto (tgt := 2) hx hb dX5_clear_17 (by decide) ?_
  refine lv_iload_n hx hb dX5_clear_2 rfl (lv_at hl 0 rfl) ?_
  refine lv_iconst (v := 5) hx hb dX5_clear_3 (by decide) ?_
  refine lv_icmp_ge (tgt := 20) hx hb dX5_clear_4 (by decide) (fun _ => ?_) (fun c9 => absurd c9 (by decide))
  refine lv_aload_n hx hb dX5_clear_20 rfl (lv_at hl 1 rfl) ?_
  refine va_get (D := (dC, dI)) (ci := 5) (v := .ref lw) (C := RX5) (T := TX5) (N := 15) hx hb hts i_X5 hown hK hP 0 rfl rfl 12 (by decide) k_1 (fun _ h9 => h9) f_sfs_12 dX5_clear_21 ?_
  have hPc := hP.sub (ws' := [(lw, .inr (3, lf))]) [2] rfl
  have hDc := hD.sub (ws' := [(lw, .inr (3, lf))]) [2] (by decide) rfl
  have hKc := hK.sub (tys' := []) [] rfl
  have hFc := va_free (wc := [(lw, .inr (3, lf))]) hD hS hA [2] rfl
  refine va_callv (va_runV (As := []) (rest := []) ⟨hx, hb, hml, hown, hts⟩ (c_lclear l dC dI H.size lw lf lc lb f_lf_0 f_lf_1 l_lf) (cwV 0 hts (p1_gV m_2 m_3 m_4 m_5 g_c_lclear gz_c_lclear) rfl rfl rfl (by decide +kernel) ⟨by decide, by decide⟩) ⟨fun a U g mk q => by obtain ⟨q0, q1, qP, qK, qD⟩ := q; exact ⟨q0, q1, qP, va_K.moved (u := U) (U := U.calling g mk a) (Vm.Alike.refl U.vm) qK, qD⟩, va_recv hKc hPc (ci := 3) (q0 := 0) rfl rfl, fun U hU hW => ⟨rfl, by rw [hU], by rw [hU]; exact hPc, va_K.moved hW.alike hKc, hDc.weaken (fun _ _ _ _ => trivial)⟩⟩ rfl rfl hl.1 rfl (lv_room (Nat.le_of_ble_eq_true rfl)) dX5_clear_24 ⟨by decide, by decide⟩) hS (fun q _ h => hFc q h) hFc (fun u t H1 locs ht hvm hw hB hz1 hk1 hS => ?_)
  obtain ⟨lo_13, z_14, z_15, z_16, z_17, z_18, z_19, hP1, hK1, hD1⟩ := hB
  rw [ht] at hP1
  obtain ⟨hP, hD⟩ := va_join (wr := [(sh, .inr (5, sfs)), (sc, .inl (cS, 5, .inl g_10)), (on, .inl (cN, 2, .inl nf)), (ot, .inl (cO, 2, .inl (fun _ => 0)))]) (w1 := [(lw, .inr (3, lo_13))]) hP hD [2] [0, 1, 3, 4] rfl rfl (by decide) (by decide) hk1 hFc hP1 hD1
  generalize H1 = H at hP hS ⊢
  have hP : va_P (dC, dI) vwCl [(sh, .inr (5, sfs)), (sc, .inl (cS, 5, .inl g_10)), (on, .inl (cN, 2, .inl nf)), (ot, .inl (cO, 2, .inl (fun _ => 0))), (lw, .inr (3, lo_13))] H := hP
  have hD : va_D A [(sh, .inr (5, sfs)), (sc, .inl (cS, 5, .inl g_10)), (on, .inl (cN, 2, .inl nf)), (ot, .inl (cO, 2, .inl (fun _ => 0))), (lw, .inr (3, lo_13))] := hD
  try dsimp only at hw
  refine lv_aload_n hx hb dX5_clear_27 rfl (lv_at hl 1 rfl) ?_
  refine va_get (D := (dC, dI)) (ci := 5) (v := .ref on) (C := RX5) (T := TX5) (N := 15) hx hb hts i_X5 hown hK hP 0 rfl rfl 13 (by decide) k_6 (fun _ h9 => h9) f_sfs_13 dX5_clear_28 ?_
  refine lv_iconst (v := 0) hx hb dX5_clear_31 (by decide) ?_
  refine lv_bipush (v := 100) hx hb dX5_clear_32 (by decide) ?_
  refine va_iast hx hb hK hP hD hS 2 1 rfl rfl (p1_in (i := 0) (n := 2) (by decide)) dX5_clear_34 (fun H locs hP hD hS => ?_)
  have hP : va_P (dC, dI) vwCl [(sh, .inr (5, sfs)), (sc, .inl (cS, 5, .inl g_10)), (on, .inl (cN, 2, .inl (upd nf (0 : Int32).toNatClampNeg 100))), (ot, .inl (cO, 2, .inl (fun _ => 0))), (lw, .inr (3, lo_13))] H := hP
  have hD : va_D A [(sh, .inr (5, sfs)), (sc, .inl (cS, 5, .inl g_10)), (on, .inl (cN, 2, .inl (upd nf (0 : Int32).toNatClampNeg 100))), (ot, .inl (cO, 2, .inl (fun _ => 0))), (lw, .inr (3, lo_13))] := hD
  generalize eg_20 : (upd nf (0 : Int32).toNatClampNeg 100) = g_20 at hP hD
  refine lv_aload_n hx hb dX5_clear_35 rfl (lv_at hl 1 rfl) ?_
  refine va_get (D := (dC, dI)) (ci := 5) (v := .ref on) (C := RX5) (T := TX5) (N := 15) hx hb hts i_X5 hown hK hP 0 rfl rfl 13 (by decide) k_6 (fun _ h9 => h9) f_sfs_13 dX5_clear_36 ?_
  refine lv_iconst (v := 1) hx hb dX5_clear_39 (by decide) ?_
  refine lv_iconst (v := 0) hx hb dX5_clear_40 (by decide) ?_
  refine va_iast hx hb hK hP hD hS 2 1 rfl rfl (p1_in (i := 1) (n := 2) (by decide)) dX5_clear_41 (fun H locs hP hD hS => ?_)
  have hP : va_P (dC, dI) vwCl [(sh, .inr (5, sfs)), (sc, .inl (cS, 5, .inl g_10)), (on, .inl (cN, 2, .inl (upd g_20 (1 : Int32).toNatClampNeg 0))), (ot, .inl (cO, 2, .inl (fun _ => 0))), (lw, .inr (3, lo_13))] H := hP
  have hD : va_D A [(sh, .inr (5, sfs)), (sc, .inl (cS, 5, .inl g_10)), (on, .inl (cN, 2, .inl (upd g_20 (1 : Int32).toNatClampNeg 0))), (ot, .inl (cO, 2, .inl (fun _ => 0))), (lw, .inr (3, lo_13))] := hD
  generalize eg_21 : (upd g_20 (1 : Int32).toNatClampNeg 0) = g_21 at hP hD
  refine lv_aload_n hx hb dX5_clear_42 rfl (lv_at hl 1 rfl) ?_
  refine va_get (D := (dC, dI)) (ci := 5) (v := .ref ot) (C := RX5) (T := TX5) (N := 15) hx hb hts i_X5 hown hK hP 0 rfl rfl 14 (by decide) k_7 (fun _ h9 => h9) f_sfs_14 dX5_clear_43 ?_
  refine lv_iconst (v := 0) hx hb dX5_clear_46 (by decide) ?_
  refine lv_iconst (v := 0) hx hb dX5_clear_47 (by decide) ?_
  refine va_zast hx hb hK hP hD hS 3 2 rfl rfl (p1_in (i := 0) (n := 2) (by decide)) dX5_clear_48 (fun H locs hP hD hS => ?_)
  have hP : va_P (dC, dI) vwCl [(sh, .inr (5, sfs)), (sc, .inl (cS, 5, .inl g_10)), (on, .inl (cN, 2, .inl g_21)), (ot, .inl (cO, 2, .inl (upd (fun _ => 0) (0 : Int32).toNatClampNeg (vp_nar .boolean 0)))), (lw, .inr (3, lo_13))] H := hP
  have hD : va_D A [(sh, .inr (5, sfs)), (sc, .inl (cS, 5, .inl g_10)), (on, .inl (cN, 2, .inl g_21)), (ot, .inl (cO, 2, .inl (upd (fun _ => 0) (0 : Int32).toNatClampNeg (vp_nar .boolean 0)))), (lw, .inr (3, lo_13))] := hD
  generalize eg_22 : (upd (fun _ => 0) (0 : Int32).toNatClampNeg (vp_nar .boolean 0)) = g_22 at hP hD
  refine lv_aload_n hx hb dX5_clear_49 rfl (lv_at hl 1 rfl) ?_
  refine va_get (D := (dC, dI)) (ci := 5) (v := .ref ot) (C := RX5) (T := TX5) (N := 15) hx hb hts i_X5 hown hK hP 0 rfl rfl 14 (by decide) k_7 (fun _ h9 => h9) f_sfs_14 dX5_clear_50 ?_
  refine lv_iconst (v := 1) hx hb dX5_clear_53 (by decide) ?_
  refine lv_iconst (v := 0) hx hb dX5_clear_54 (by decide) ?_
  refine va_zast hx hb hK hP hD hS 3 2 rfl rfl (p1_in (i := 1) (n := 2) (by decide)) dX5_clear_55 (fun H locs hP hD hS => ?_)
  have hP : va_P (dC, dI) vwCl [(sh, .inr (5, sfs)), (sc, .inl (cS, 5, .inl g_10)), (on, .inl (cN, 2, .inl g_21)), (ot, .inl (cO, 2, .inl (upd g_22 (1 : Int32).toNatClampNeg (vp_nar .boolean 0)))), (lw, .inr (3, lo_13))] H := hP
  have hD : va_D A [(sh, .inr (5, sfs)), (sc, .inl (cS, 5, .inl g_10)), (on, .inl (cN, 2, .inl g_21)), (ot, .inl (cO, 2, .inl (upd g_22 (1 : Int32).toNatClampNeg (vp_nar .boolean 0)))), (lw, .inr (3, lo_13))] := hD
  generalize eg_23 : (upd g_22 (1 : Int32).toNatClampNeg (vp_nar .boolean 0)) = g_23 at hP hD
  have hP9 := hP.sub (ws' := [(sh, .inr (5, sfs)), (sc, .inl (cS, 5, .inl g_10)), (lw, .inr (3, lo_13))]) [0, 1, 4] rfl
  have hD9 := hD.sub (ws' := [(sh, .inr (5, sfs)), (sc, .inl (cS, 5, .inl g_10)), (lw, .inr (3, lo_13))]) [0, 1, 4] (by decide) rfl
  have hK9 := hK.sub (tys' := []) [] rfl
  exact W.vret hx hb hr (fun t ht hW => ⟨⟨(), rfl, trivial, sfs, g_10, lo_13, f_sfs_0, f_sfs_12, hg_10_0, hg_10_3, z_14, z_15, z_16, z_17, z_18, z_19, by rw [ht]; exact hP9, va_K.moved hW.alike hK9, hD9⟩, hS.F ht⟩) hS.2.2 dX5_clear_56
def zo_c_step0 : List Cond := [.code yX4_step cX4_step 1 none, .fieldLink RX4 25 "BowWalk$Reader" "at" "I", .fieldLink RX4 21 "BowWalk$Reader" "length" "I", .fieldLink RX4 31 "BowWalk$Reader" "place" "I", .fieldLink RX4 28 "BowWalk$Reader" "token" "I"]
def zw_c_step0 : List Cond := zo_c_step0 ++ (wsX40 ++ [])
theorem gz_c_step0 : zw_c_step0.all goodWord = true := p1_ga (by decide +kernel) (p1_ga gk_X4 p1_g0)
theorem iz_c_step0 : ∀ w ∈ zw_c_step0, w ∈ lw_tbl := p1_ia (p1_all [576, 310, 309, 312, 311] (by decide +kernel)) (p1_ia ik_X4 p1_i0)
set_option maxHeartbeats 4000000 in
set_option maxRecDepth 100000 in
theorem c_step0 (l : Launch) (dC : Nat → ClassId) (dI : Nat → Nat → Nat) (sz : Nat) (rd : Nat) (rfs : List Value) (dsh : Nat) (f_rfs_3 : rfs[3]? = some (.int 0)) (f_rfs_2 : rfs[2]? = some (.int 0)) (f_rfs_8 : rfs[8]? = some (.ref dsh)) (l_rfs : rfs.length = 11) : Met l yX4_step zw_c_step0 ({ frames := 0, cells := 0, slots := 0, locals := 0 }) (va_Pc [.ref rd] (fun U => U.heap.size = sz ∧ va_P (dC, dI) vwCl [(rd, .inr (4, rfs))] U.heap ∧ va_K (dC, dI) vwCl [] U ∧ va_D (fun _ => True) [(rd, .inr (4, rfs))])) (va_Qv (fun (_ : Unit) => True) (fun _ t => ∃ (ro : List Value), ro.length = 11 ∧ ro[2]? = some (.int 0) ∧ ro[4]? = some (.int 0) ∧ ro[8]? = some (.ref dsh) ∧ va_P (dC, dI) vwCl [(rd, .inr (4, ro))] t.heap ∧ va_K (dC, dI) vwCl [] t ∧ va_D (va_A [(rd, .inr (4, rfs))] sz) [(rd, .inr (4, ro))]) (va_A [(rd, .inr (4, rfs))] sz)) 0 0 (va_A [(rd, .inr (4, rfs))] sz) := by
  refine Met.ofW (cc := cX4_step) (maxL := 1) (ret := none) (by decide) rfl ?_
  intro p e s m args below meth c s₁ B hml hv
  obtain ⟨rfl, hsz, hP, hK, hD0⟩ := hv
  have hx := B.exec
  have hb := B.bytes
  have hr := B.returns
  have hts := atoms_spec (ws := zw_c_step0) B.pre
  have hown : s.vm.findClass RX4 = some m.cls := findClass_of_methodNamed B.named
  have hlocks := B.notSynchronized
  subst hsz
  have hD := hD0.self (sz := s.heap.size)
  generalize hAe : va_A [(rd, .inr (4, rfs))] s.heap.size = A at hD ⊢
  have hA : ∀ q : Nat, s.heap.size ≤ q → A q := fun q h => by rw [← hAe]; exact Or.inr h
  have hS : va_S A s.heap s.heap [] := va_S.rf
  have hP : va_P (dC, dI) vwCl [(rd, .inr (4, rfs))] s.heap := hP
  have m_0 : (.fieldLink RX4 25 "BowWalk$Reader" "at" "I" : Cond) ∈ zw_c_step0 := List.mem_append_left _ (List.mem_of_getElem? (i := 1) rfl)
  have k_0 := hts _ m_0
  have m_1 : (.fieldLink RX4 21 "BowWalk$Reader" "length" "I" : Cond) ∈ zw_c_step0 := List.mem_append_left _ (List.mem_of_getElem? (i := 2) rfl)
  have k_1 := hts _ m_1
  have m_2 : (.fieldLink RX4 31 "BowWalk$Reader" "place" "I" : Cond) ∈ zw_c_step0 := List.mem_append_left _ (List.mem_of_getElem? (i := 3) rfl)
  have k_2 := hts _ m_2
  have m_3 : (.fieldLink RX4 28 "BowWalk$Reader" "token" "I" : Cond) ∈ zw_c_step0 := List.mem_append_left _ (List.mem_of_getElem? (i := 4) rfl)
  have k_3 := hts _ m_3
  have i_X4 : ∀ w ∈ u_ws RX4 TX4 11, w ∈ zw_c_step0 := fun w h => List.mem_append_right _ (List.mem_append_left _ h)
  have hl := lv_entry ([.ref rd]) (n := 1) (Nat.le_of_ble_eq_true rfl)
  rw [lg_entry_eq]
  generalize (lg_sl ([.ref rd]) ++ List.replicate (1 - (lg_sl ([.ref rd])).length) Slot.unset).toArray = ls at hl ⊢
  have hl : lv_has ls 1 [(0, .ref rd)] := hl
  refine lv_aload_n hx hb dX4_step_0 rfl (lv_at hl 0 rfl) ?_
  refine va_get (D := (dC, dI)) (ci := 4) (v := .int 0) (C := RX4) (T := TX4) (N := 11) hx hb hts i_X4 hown hK hP 0 rfl rfl 3 (by decide) k_0 (fun _ h9 => h9) f_rfs_3 dX4_step_1 ?_
  refine lv_aload_n hx hb dX4_step_4 rfl (lv_at hl 0 rfl) ?_
  refine va_get (D := (dC, dI)) (ci := 4) (v := .int 0) (C := RX4) (T := TX4) (N := 11) hx hb hts i_X4 hown hK hP 0 rfl rfl 2 (by decide) k_1 (fun _ h9 => h9) f_rfs_2 dX4_step_5 ?_
  refine lv_icmp_ge (tgt := 39) hx hb dX4_step_8 (by decide) (fun _ => ?_) (fun c9 => absurd c9 (by decide))
  refine lv_aload_n hx hb dX4_step_39 rfl (lv_at hl 0 rfl) ?_
  refine lv_aload_n hx hb dX4_step_40 rfl (lv_at hl 0 rfl) ?_
  refine va_get (D := (dC, dI)) (ci := 4) (v := .int 0) (C := RX4) (T := TX4) (N := 11) hx hb hts i_X4 hown hK hP 0 rfl rfl 3 (by decide) k_0 (fun _ h9 => h9) f_rfs_3 dX4_step_41 ?_
  refine va_put (D := (dC, dI)) (ci := 4) (v := .int 0) (ty := .int) (C := RX4) (T := TX4) (N := 11) hx hb hts i_X4 tyX4 tyX4_ok nmX4 hown hK hP hD hS 0 rfl rfl 5 (by decide) k_2 (fun _ h9 => h9) rfl (by decide +kernel) rfl rfl (by rw [l_rfs]; decide) dX4_step_44 (fun H locs hP hD hS => ?_)
  have hP : va_P (dC, dI) vwCl [(rd, .inr (4, (rfs.set 5 (.int 0))))] H := hP
  have hD : va_D A [(rd, .inr (4, (rfs.set 5 (.int 0))))] := hD
  generalize efs_1 : (rfs.set 5 (.int 0)) = fs_1 at hP hD
  have lfs_1 : fs_1.length = 11 := by rw [← efs_1, List.length_set]; exact l_rfs
  have ffs_1_3 : fs_1[3]? = some (.int 0) := by rw [← efs_1]; exact p1_sn (by decide) f_rfs_3
  have ffs_1_2 : fs_1[2]? = some (.int 0) := by rw [← efs_1]; exact p1_sn (by decide) f_rfs_2
  have ffs_1_8 : fs_1[8]? = some (.ref dsh) := by rw [← efs_1]; exact p1_sn (by decide) f_rfs_8
  have ffs_1_5 : fs_1[5]? = some (.int 0) := by rw [← efs_1]; exact p1_sa l_rfs (by decide)
  refine lv_aload_n hx hb dX4_step_47 rfl (lv_at hl 0 rfl) ?_
  refine va_get (D := (dC, dI)) (ci := 4) (v := .int 0) (C := RX4) (T := TX4) (N := 11) hx hb hts i_X4 hown hK hP 0 rfl rfl 3 (by decide) k_0 (fun _ h9 => h9) ffs_1_3 dX4_step_48 ?_
  refine lv_aload_n hx hb dX4_step_51 rfl (lv_at hl 0 rfl) ?_
  refine va_get (D := (dC, dI)) (ci := 4) (v := .int 0) (C := RX4) (T := TX4) (N := 11) hx hb hts i_X4 hown hK hP 0 rfl rfl 2 (by decide) k_1 (fun _ h9 => h9) ffs_1_2 dX4_step_52 ?_
  refine lv_icmp_lt (tgt := 66) hx hb dX4_step_55 (by decide) (fun c9 => absurd c9 (by decide)) (fun _ => ?_)
  refine lv_aload_n hx hb dX4_step_58 rfl (lv_at hl 0 rfl) ?_
  refine lv_iconst (v := 0) hx hb dX4_step_59 (by decide) ?_
  refine va_put (D := (dC, dI)) (ci := 4) (v := .int 0) (ty := .int) (C := RX4) (T := TX4) (N := 11) hx hb hts i_X4 tyX4 tyX4_ok nmX4 hown hK hP hD hS 0 rfl rfl 4 (by decide) k_3 (fun _ h9 => h9) rfl (by decide +kernel) rfl rfl (by rw [lfs_1]; decide) dX4_step_60 (fun H locs hP hD hS => ?_)
  have hP : va_P (dC, dI) vwCl [(rd, .inr (4, (fs_1.set 4 (.int 0))))] H := hP
  have hD : va_D A [(rd, .inr (4, (fs_1.set 4 (.int 0))))] := hD
  generalize efs_2 : (fs_1.set 4 (.int 0)) = fs_2 at hP hD
  have lfs_2 : fs_2.length = 11 := by rw [← efs_2, List.length_set]; exact lfs_1
  have ffs_2_3 : fs_2[3]? = some (.int 0) := by rw [← efs_2]; exact p1_sn (by decide) ffs_1_3
  have ffs_2_2 : fs_2[2]? = some (.int 0) := by rw [← efs_2]; exact p1_sn (by decide) ffs_1_2
  have ffs_2_8 : fs_2[8]? = some (.ref dsh) := by rw [← efs_2]; exact p1_sn (by decide) ffs_1_8
  have ffs_2_5 : fs_2[5]? = some (.int 0) := by rw [← efs_2]; exact p1_sn (by decide) ffs_1_5
  have ffs_2_4 : fs_2[4]? = some (.int 0) := by rw [← efs_2]; exact p1_sa lfs_1 (by decide)
  refine lv_goto (tgt := 156) hx hb dX4_step_63 (by decide) ?_
  have hP9 := hP.sub (ws' := [(rd, .inr (4, fs_2))]) [0] rfl
  have hD9 := hD.sub (ws' := [(rd, .inr (4, fs_2))]) [0] (by decide) rfl
  have hK9 := hK.sub (tys' := []) [] rfl
  exact W.vret hx hb hr (fun t ht hW => ⟨⟨(), rfl, trivial, fs_2, lfs_2, ffs_2_2, ffs_2_4, ffs_2_8, by rw [ht]; exact hP9, va_K.moved hW.alike hK9, hD9⟩, hS.F ht⟩) hS.2.2 dX4_step_156
def zo_c_put0 : List Cond := [.code yX3_put cX3_put 2 (some .boolean), .fieldLink RX3 21 "BowWalk$Laws" "used" "I", .fieldLink RX3 9 "BowWalk$Laws" "code" "[I"]
def zw_c_put0 : List Cond := zo_c_put0 ++ (wsX30 ++ [])
theorem gz_c_put0 : zw_c_put0.all goodWord = true := p1_ga (by decide +kernel) (p1_ga gk_X3 p1_g0)
theorem iz_c_put0 : ∀ w ∈ zw_c_put0, w ∈ lw_tbl := p1_ia (p1_all [683, 153, 150] (by decide +kernel)) (p1_ia ik_X3 p1_i0)
set_option maxHeartbeats 4000000 in
set_option maxRecDepth 100000 in
theorem c_put0 (l : Launch) (dC : Nat → ClassId) (dI : Nat → Nat → Nat) (sz : Nat) (lw : Nat) (lf : List Value) (lc : Nat) (lb : Nat) (cc1 : ClassId) (cf : Nat → Int32) (a1 : Int32) (f_lf_0 : lf[0]? = some (.ref lc)) (f_lf_1 : lf[1]? = some (.ref lb)) (f_lf_3 : lf[3]? = some (.int 0)) (f_lf_4 : lf[4]? = some (.int 0)) (l_lf : lf.length = 6) : Met l yX3_put zw_c_put0 ({ frames := 0, cells := 0, slots := 0, locals := 0 }) (va_Pc [.ref lw, .int a1] (fun U => U.heap.size = sz ∧ va_P (dC, dI) vwCl [(lw, .inr (3, lf)), (lc, .inl (cc1, 600, .inl cf))] U.heap ∧ va_K (dC, dI) vwCl [(cc1, .int)] U ∧ va_D (fun _ => True) [(lw, .inr (3, lf)), (lc, .inl (cc1, 600, .inl cf))])) (va_Qi (fun (r : Int32) (_ : Unit) => r = 1) (fun _ t => ∃ (lo : List Value) (cg : Nat → Int32), lo.length = 6 ∧ lo[0]? = some (.ref lc) ∧ lo[1]? = some (.ref lb) ∧ lo[3]? = some (.int 1) ∧ lo[4]? = some (.int 0) ∧ va_P (dC, dI) vwCl [(lw, .inr (3, lo)), (lc, .inl (cc1, 600, .inl cg))] t.heap ∧ va_K (dC, dI) vwCl [] t ∧ va_D (va_A [(lw, .inr (3, lf)), (lc, .inl (cc1, 600, .inl cf))] sz) [(lw, .inr (3, lo)), (lc, .inl (cc1, 600, .inl cg))]) (va_A [(lw, .inr (3, lf)), (lc, .inl (cc1, 600, .inl cf))] sz)) 0 0 (va_A [(lw, .inr (3, lf)), (lc, .inl (cc1, 600, .inl cf))] sz) := by
  refine Met.ofW (cc := cX3_put) (maxL := 2) (ret := (some .boolean)) (by decide) rfl ?_
  intro p e s m args below meth c s₁ B hml hv
  obtain ⟨rfl, hsz, hP, hK, hD0⟩ := hv
  have hx := B.exec
  have hb := B.bytes
  have hr := B.returns
  have hts := atoms_spec (ws := zw_c_put0) B.pre
  have hown : s.vm.findClass RX3 = some m.cls := findClass_of_methodNamed B.named
  have hlocks := B.notSynchronized
  subst hsz
  have hD := hD0.self (sz := s.heap.size)
  generalize hAe : va_A [(lw, .inr (3, lf)), (lc, .inl (cc1, 600, .inl cf))] s.heap.size = A at hD ⊢
  have hA : ∀ q : Nat, s.heap.size ≤ q → A q := fun q h => by rw [← hAe]; exact Or.inr h
  have hS : va_S A s.heap s.heap [] := va_S.rf
  have hP : va_P (dC, dI) vwCl [(lw, .inr (3, lf)), (lc, .inl (cc1, 600, .inl cf))] s.heap := hP
  have m_0 : (.fieldLink RX3 21 "BowWalk$Laws" "used" "I" : Cond) ∈ zw_c_put0 := List.mem_append_left _ (List.mem_of_getElem? (i := 1) rfl)
  have k_0 := hts _ m_0
  have m_1 : (.fieldLink RX3 9 "BowWalk$Laws" "code" "[I" : Cond) ∈ zw_c_put0 := List.mem_append_left _ (List.mem_of_getElem? (i := 2) rfl)
  have k_1 := hts _ m_1
  have i_X3 : ∀ w ∈ u_ws RX3 TX3 6, w ∈ zw_c_put0 := fun w h => List.mem_append_right _ (List.mem_append_left _ h)
  have hl := lv_entry ([.ref lw, .int a1]) (n := 2) (Nat.le_of_ble_eq_true rfl)
  rw [lg_entry_eq]
  generalize (lg_sl ([.ref lw, .int a1]) ++ List.replicate (2 - (lg_sl ([.ref lw, .int a1])).length) Slot.unset).toArray = ls at hl ⊢
  have hl : lv_has ls 2 [(0, .ref lw), (1, .int a1)] := hl
  refine lv_aload_n hx hb dX3_put_0 rfl (lv_at hl 0 rfl) ?_
  refine va_get (D := (dC, dI)) (ci := 3) (v := .int 0) (C := RX3) (T := TX3) (N := 6) hx hb hts i_X3 hown hK hP 0 rfl rfl 3 (by decide) k_0 (fun _ h9 => h9) f_lf_3 dX3_put_1 ?_
  refine lv_sipush (v := 600) hx hb dX3_put_4 (by decide) ?_
  refine lv_icmp_lt (tgt := 12) hx hb dX3_put_7 (by decide) (fun _ => ?_) (fun c9 => absurd c9 (by decide))
  refine lv_aload_n hx hb dX3_put_12 rfl (lv_at hl 0 rfl) ?_
  refine va_get (D := (dC, dI)) (ci := 3) (v := .ref lc) (C := RX3) (T := TX3) (N := 6) hx hb hts i_X3 hown hK hP 0 rfl rfl 0 (by decide) k_1 (fun _ h9 => h9) f_lf_0 dX3_put_13 ?_
  refine lv_aload_n hx hb dX3_put_16 rfl (lv_at hl 0 rfl) ?_
  refine va_get (D := (dC, dI)) (ci := 3) (v := .int 0) (C := RX3) (T := TX3) (N := 6) hx hb hts i_X3 hown hK hP 0 rfl rfl 3 (by decide) k_0 (fun _ h9 => h9) f_lf_3 dX3_put_17 ?_
  refine lv_iload_n hx hb dX3_put_20 rfl (lv_at hl 1 rfl) ?_
  refine va_iast hx hb hK hP hD hS 1 0 rfl rfl (p1_in (i := 0) (n := 600) (by decide)) dX3_put_21 (fun H locs hP hD hS => ?_)
  have hP : va_P (dC, dI) vwCl [(lw, .inr (3, lf)), (lc, .inl (cc1, 600, .inl (upd cf (0 : Int32).toNatClampNeg a1)))] H := hP
  have hD : va_D A [(lw, .inr (3, lf)), (lc, .inl (cc1, 600, .inl (upd cf (0 : Int32).toNatClampNeg a1)))] := hD
  generalize eg_1 : (upd cf (0 : Int32).toNatClampNeg a1) = g_1 at hP hD
  refine lv_aload_n hx hb dX3_put_22 rfl (lv_at hl 0 rfl) ?_
  refine lv_dup hx hb dX3_put_23 rfl ?_
  refine va_get (D := (dC, dI)) (ci := 3) (v := .int 0) (C := RX3) (T := TX3) (N := 6) hx hb hts i_X3 hown hK hP 0 rfl rfl 3 (by decide) k_0 (fun _ h9 => h9) f_lf_3 dX3_put_24 ?_
  refine lv_iconst (v := 1) hx hb dX3_put_27 (by decide) ?_
  refine lv_iadd hx hb dX3_put_28 ?_
  refine lv_topi (fun v_2 ev_2 => ?_)
  obtain rfl : v_2 = 1 := ev_2.trans (by decide)
  refine va_put (D := (dC, dI)) (ci := 3) (v := .int 1) (ty := .int) (C := RX3) (T := TX3) (N := 6) hx hb hts i_X3 tyX3 tyX3_ok nmX3 hown hK hP hD hS 0 rfl rfl 3 (by decide) k_0 (fun _ h9 => h9) rfl (by decide +kernel) rfl rfl (by rw [l_lf]; decide) dX3_put_29 (fun H locs hP hD hS => ?_)
  have hP : va_P (dC, dI) vwCl [(lw, .inr (3, (lf.set 3 (.int 1)))), (lc, .inl (cc1, 600, .inl g_1))] H := hP
  have hD : va_D A [(lw, .inr (3, (lf.set 3 (.int 1)))), (lc, .inl (cc1, 600, .inl g_1))] := hD
  generalize efs_3 : (lf.set 3 (.int 1)) = fs_3 at hP hD
  have lfs_3 : fs_3.length = 6 := by rw [← efs_3, List.length_set]; exact l_lf
  have ffs_3_0 : fs_3[0]? = some (.ref lc) := by rw [← efs_3]; exact p1_sn (by decide) f_lf_0
  have ffs_3_1 : fs_3[1]? = some (.ref lb) := by rw [← efs_3]; exact p1_sn (by decide) f_lf_1
  have ffs_3_4 : fs_3[4]? = some (.int 0) := by rw [← efs_3]; exact p1_sn (by decide) f_lf_4
  have ffs_3_3 : fs_3[3]? = some (.int 1) := by rw [← efs_3]; exact p1_sa l_lf (by decide)
  refine lv_iconst (v := 1) hx hb dX3_put_32 (by decide) ?_
  have hP9 := hP.sub (ws' := [(lw, .inr (3, fs_3)), (lc, .inl (cc1, 600, .inl g_1))]) [0, 1] rfl
  have hD9 := hD.sub (ws' := [(lw, .inr (3, fs_3)), (lc, .inl (cc1, 600, .inl g_1))]) [0, 1] (by decide) rfl
  have hK9 := hK.sub (tys' := []) [] rfl
  exact W.zret (v := 1) hx hb hr (by decide) (fun t ht hW => ⟨⟨1, (), rfl, rfl, fs_3, g_1, lfs_3, ffs_3_0, ffs_3_1, ffs_3_3, ffs_3_4, by rw [ht]; exact hP9, va_K.moved hW.alike hK9, hD9⟩, hS.F ht⟩) hS.2.2 dX3_put_33
def zo_c_put1 : List Cond := [.code yX3_put cX3_put 2 (some .boolean), .fieldLink RX3 21 "BowWalk$Laws" "used" "I", .fieldLink RX3 9 "BowWalk$Laws" "code" "[I"]
def zw_c_put1 : List Cond := zo_c_put1 ++ (wsX30 ++ [])
theorem gz_c_put1 : zw_c_put1.all goodWord = true := p1_ga (by decide +kernel) (p1_ga gk_X3 p1_g0)
theorem iz_c_put1 : ∀ w ∈ zw_c_put1, w ∈ lw_tbl := p1_ia (p1_all [683, 153, 150] (by decide +kernel)) (p1_ia ik_X3 p1_i0)
set_option maxHeartbeats 4000000 in
set_option maxRecDepth 100000 in
theorem c_put1 (l : Launch) (dC : Nat → ClassId) (dI : Nat → Nat → Nat) (sz : Nat) (lw : Nat) (lf : List Value) (lc : Nat) (lb : Nat) (cc1 : ClassId) (cf : Nat → Int32) (a1 : Int32) (f_lf_0 : lf[0]? = some (.ref lc)) (f_lf_1 : lf[1]? = some (.ref lb)) (f_lf_3 : lf[3]? = some (.int 1)) (f_lf_4 : lf[4]? = some (.int 0)) (l_lf : lf.length = 6) : Met l yX3_put zw_c_put1 ({ frames := 0, cells := 0, slots := 0, locals := 0 }) (va_Pc [.ref lw, .int a1] (fun U => U.heap.size = sz ∧ va_P (dC, dI) vwCl [(lw, .inr (3, lf)), (lc, .inl (cc1, 600, .inl cf))] U.heap ∧ va_K (dC, dI) vwCl [(cc1, .int)] U ∧ va_D (fun _ => True) [(lw, .inr (3, lf)), (lc, .inl (cc1, 600, .inl cf))])) (va_Qi (fun (r : Int32) (_ : Unit) => r = 1) (fun _ t => ∃ (lo : List Value) (cg : Nat → Int32), lo.length = 6 ∧ lo[0]? = some (.ref lc) ∧ lo[1]? = some (.ref lb) ∧ lo[3]? = some (.int 2) ∧ lo[4]? = some (.int 0) ∧ va_P (dC, dI) vwCl [(lw, .inr (3, lo)), (lc, .inl (cc1, 600, .inl cg))] t.heap ∧ va_K (dC, dI) vwCl [] t ∧ va_D (va_A [(lw, .inr (3, lf)), (lc, .inl (cc1, 600, .inl cf))] sz) [(lw, .inr (3, lo)), (lc, .inl (cc1, 600, .inl cg))]) (va_A [(lw, .inr (3, lf)), (lc, .inl (cc1, 600, .inl cf))] sz)) 0 0 (va_A [(lw, .inr (3, lf)), (lc, .inl (cc1, 600, .inl cf))] sz) := by
  refine Met.ofW (cc := cX3_put) (maxL := 2) (ret := (some .boolean)) (by decide) rfl ?_
  intro p e s m args below meth c s₁ B hml hv
  obtain ⟨rfl, hsz, hP, hK, hD0⟩ := hv
  have hx := B.exec
  have hb := B.bytes
  have hr := B.returns
  have hts := atoms_spec (ws := zw_c_put1) B.pre
  have hown : s.vm.findClass RX3 = some m.cls := findClass_of_methodNamed B.named
  have hlocks := B.notSynchronized
  subst hsz
  have hD := hD0.self (sz := s.heap.size)
  generalize hAe : va_A [(lw, .inr (3, lf)), (lc, .inl (cc1, 600, .inl cf))] s.heap.size = A at hD ⊢
  have hA : ∀ q : Nat, s.heap.size ≤ q → A q := fun q h => by rw [← hAe]; exact Or.inr h
  have hS : va_S A s.heap s.heap [] := va_S.rf
  have hP : va_P (dC, dI) vwCl [(lw, .inr (3, lf)), (lc, .inl (cc1, 600, .inl cf))] s.heap := hP
  have m_0 : (.fieldLink RX3 21 "BowWalk$Laws" "used" "I" : Cond) ∈ zw_c_put1 := List.mem_append_left _ (List.mem_of_getElem? (i := 1) rfl)
  have k_0 := hts _ m_0
  have m_1 : (.fieldLink RX3 9 "BowWalk$Laws" "code" "[I" : Cond) ∈ zw_c_put1 := List.mem_append_left _ (List.mem_of_getElem? (i := 2) rfl)
  have k_1 := hts _ m_1
  have i_X3 : ∀ w ∈ u_ws RX3 TX3 6, w ∈ zw_c_put1 := fun w h => List.mem_append_right _ (List.mem_append_left _ h)
  have hl := lv_entry ([.ref lw, .int a1]) (n := 2) (Nat.le_of_ble_eq_true rfl)
  rw [lg_entry_eq]
  generalize (lg_sl ([.ref lw, .int a1]) ++ List.replicate (2 - (lg_sl ([.ref lw, .int a1])).length) Slot.unset).toArray = ls at hl ⊢
  have hl : lv_has ls 2 [(0, .ref lw), (1, .int a1)] := hl
  refine lv_aload_n hx hb dX3_put_0 rfl (lv_at hl 0 rfl) ?_
  refine va_get (D := (dC, dI)) (ci := 3) (v := .int 1) (C := RX3) (T := TX3) (N := 6) hx hb hts i_X3 hown hK hP 0 rfl rfl 3 (by decide) k_0 (fun _ h9 => h9) f_lf_3 dX3_put_1 ?_
  refine lv_sipush (v := 600) hx hb dX3_put_4 (by decide) ?_
  refine lv_icmp_lt (tgt := 12) hx hb dX3_put_7 (by decide) (fun _ => ?_) (fun c9 => absurd c9 (by decide))
  refine lv_aload_n hx hb dX3_put_12 rfl (lv_at hl 0 rfl) ?_
  refine va_get (D := (dC, dI)) (ci := 3) (v := .ref lc) (C := RX3) (T := TX3) (N := 6) hx hb hts i_X3 hown hK hP 0 rfl rfl 0 (by decide) k_1 (fun _ h9 => h9) f_lf_0 dX3_put_13 ?_
  refine lv_aload_n hx hb dX3_put_16 rfl (lv_at hl 0 rfl) ?_
  refine va_get (D := (dC, dI)) (ci := 3) (v := .int 1) (C := RX3) (T := TX3) (N := 6) hx hb hts i_X3 hown hK hP 0 rfl rfl 3 (by decide) k_0 (fun _ h9 => h9) f_lf_3 dX3_put_17 ?_
  refine lv_iload_n hx hb dX3_put_20 rfl (lv_at hl 1 rfl) ?_
  refine va_iast hx hb hK hP hD hS 1 0 rfl rfl (p1_in (i := 1) (n := 600) (by decide)) dX3_put_21 (fun H locs hP hD hS => ?_)
  have hP : va_P (dC, dI) vwCl [(lw, .inr (3, lf)), (lc, .inl (cc1, 600, .inl (upd cf (1 : Int32).toNatClampNeg a1)))] H := hP
  have hD : va_D A [(lw, .inr (3, lf)), (lc, .inl (cc1, 600, .inl (upd cf (1 : Int32).toNatClampNeg a1)))] := hD
  generalize eg_1 : (upd cf (1 : Int32).toNatClampNeg a1) = g_1 at hP hD
  refine lv_aload_n hx hb dX3_put_22 rfl (lv_at hl 0 rfl) ?_
  refine lv_dup hx hb dX3_put_23 rfl ?_
  refine va_get (D := (dC, dI)) (ci := 3) (v := .int 1) (C := RX3) (T := TX3) (N := 6) hx hb hts i_X3 hown hK hP 0 rfl rfl 3 (by decide) k_0 (fun _ h9 => h9) f_lf_3 dX3_put_24 ?_
  refine lv_iconst (v := 1) hx hb dX3_put_27 (by decide) ?_
  refine lv_iadd hx hb dX3_put_28 ?_
  refine lv_topi (fun v_2 ev_2 => ?_)
  obtain rfl : v_2 = 2 := ev_2.trans (by decide)
  refine va_put (D := (dC, dI)) (ci := 3) (v := .int 2) (ty := .int) (C := RX3) (T := TX3) (N := 6) hx hb hts i_X3 tyX3 tyX3_ok nmX3 hown hK hP hD hS 0 rfl rfl 3 (by decide) k_0 (fun _ h9 => h9) rfl (by decide +kernel) rfl rfl (by rw [l_lf]; decide) dX3_put_29 (fun H locs hP hD hS => ?_)
  have hP : va_P (dC, dI) vwCl [(lw, .inr (3, (lf.set 3 (.int 2)))), (lc, .inl (cc1, 600, .inl g_1))] H := hP
  have hD : va_D A [(lw, .inr (3, (lf.set 3 (.int 2)))), (lc, .inl (cc1, 600, .inl g_1))] := hD
  generalize efs_3 : (lf.set 3 (.int 2)) = fs_3 at hP hD
  have lfs_3 : fs_3.length = 6 := by rw [← efs_3, List.length_set]; exact l_lf
  have ffs_3_0 : fs_3[0]? = some (.ref lc) := by rw [← efs_3]; exact p1_sn (by decide) f_lf_0
  have ffs_3_1 : fs_3[1]? = some (.ref lb) := by rw [← efs_3]; exact p1_sn (by decide) f_lf_1
  have ffs_3_4 : fs_3[4]? = some (.int 0) := by rw [← efs_3]; exact p1_sn (by decide) f_lf_4
  have ffs_3_3 : fs_3[3]? = some (.int 2) := by rw [← efs_3]; exact p1_sa l_lf (by decide)
  refine lv_iconst (v := 1) hx hb dX3_put_32 (by decide) ?_
  have hP9 := hP.sub (ws' := [(lw, .inr (3, fs_3)), (lc, .inl (cc1, 600, .inl g_1))]) [0, 1] rfl
  have hD9 := hD.sub (ws' := [(lw, .inr (3, fs_3)), (lc, .inl (cc1, 600, .inl g_1))]) [0, 1] (by decide) rfl
  have hK9 := hK.sub (tys' := []) [] rfl
  exact W.zret (v := 1) hx hb hr (by decide) (fun t ht hW => ⟨⟨1, (), rfl, rfl, fs_3, g_1, lfs_3, ffs_3_0, ffs_3_1, ffs_3_3, ffs_3_4, by rw [ht]; exact hP9, va_K.moved hW.alike hK9, hD9⟩, hS.F ht⟩) hS.2.2 dX3_put_33
def zo_c_put2 : List Cond := [.code yX3_put cX3_put 2 (some .boolean), .fieldLink RX3 21 "BowWalk$Laws" "used" "I", .fieldLink RX3 9 "BowWalk$Laws" "code" "[I"]
def zw_c_put2 : List Cond := zo_c_put2 ++ (wsX30 ++ [])
theorem gz_c_put2 : zw_c_put2.all goodWord = true := p1_ga (by decide +kernel) (p1_ga gk_X3 p1_g0)
theorem iz_c_put2 : ∀ w ∈ zw_c_put2, w ∈ lw_tbl := p1_ia (p1_all [683, 153, 150] (by decide +kernel)) (p1_ia ik_X3 p1_i0)
set_option maxHeartbeats 4000000 in
set_option maxRecDepth 100000 in
theorem c_put2 (l : Launch) (dC : Nat → ClassId) (dI : Nat → Nat → Nat) (sz : Nat) (lw : Nat) (lf : List Value) (lc : Nat) (lb : Nat) (cc1 : ClassId) (cf : Nat → Int32) (a1 : Int32) (f_lf_0 : lf[0]? = some (.ref lc)) (f_lf_1 : lf[1]? = some (.ref lb)) (f_lf_3 : lf[3]? = some (.int 2)) (f_lf_4 : lf[4]? = some (.int 0)) (l_lf : lf.length = 6) : Met l yX3_put zw_c_put2 ({ frames := 0, cells := 0, slots := 0, locals := 0 }) (va_Pc [.ref lw, .int a1] (fun U => U.heap.size = sz ∧ va_P (dC, dI) vwCl [(lw, .inr (3, lf)), (lc, .inl (cc1, 600, .inl cf))] U.heap ∧ va_K (dC, dI) vwCl [(cc1, .int)] U ∧ va_D (fun _ => True) [(lw, .inr (3, lf)), (lc, .inl (cc1, 600, .inl cf))])) (va_Qi (fun (r : Int32) (_ : Unit) => r = 1) (fun _ t => ∃ (lo : List Value) (cg : Nat → Int32), lo.length = 6 ∧ lo[0]? = some (.ref lc) ∧ lo[1]? = some (.ref lb) ∧ lo[3]? = some (.int 3) ∧ lo[4]? = some (.int 0) ∧ va_P (dC, dI) vwCl [(lw, .inr (3, lo)), (lc, .inl (cc1, 600, .inl cg))] t.heap ∧ va_K (dC, dI) vwCl [] t ∧ va_D (va_A [(lw, .inr (3, lf)), (lc, .inl (cc1, 600, .inl cf))] sz) [(lw, .inr (3, lo)), (lc, .inl (cc1, 600, .inl cg))]) (va_A [(lw, .inr (3, lf)), (lc, .inl (cc1, 600, .inl cf))] sz)) 0 0 (va_A [(lw, .inr (3, lf)), (lc, .inl (cc1, 600, .inl cf))] sz) := by
  refine Met.ofW (cc := cX3_put) (maxL := 2) (ret := (some .boolean)) (by decide) rfl ?_
  intro p e s m args below meth c s₁ B hml hv
  obtain ⟨rfl, hsz, hP, hK, hD0⟩ := hv
  have hx := B.exec
  have hb := B.bytes
  have hr := B.returns
  have hts := atoms_spec (ws := zw_c_put2) B.pre
  have hown : s.vm.findClass RX3 = some m.cls := findClass_of_methodNamed B.named
  have hlocks := B.notSynchronized
  subst hsz
  have hD := hD0.self (sz := s.heap.size)
  generalize hAe : va_A [(lw, .inr (3, lf)), (lc, .inl (cc1, 600, .inl cf))] s.heap.size = A at hD ⊢
  have hA : ∀ q : Nat, s.heap.size ≤ q → A q := fun q h => by rw [← hAe]; exact Or.inr h
  have hS : va_S A s.heap s.heap [] := va_S.rf
  have hP : va_P (dC, dI) vwCl [(lw, .inr (3, lf)), (lc, .inl (cc1, 600, .inl cf))] s.heap := hP
  have m_0 : (.fieldLink RX3 21 "BowWalk$Laws" "used" "I" : Cond) ∈ zw_c_put2 := List.mem_append_left _ (List.mem_of_getElem? (i := 1) rfl)
  have k_0 := hts _ m_0
  have m_1 : (.fieldLink RX3 9 "BowWalk$Laws" "code" "[I" : Cond) ∈ zw_c_put2 := List.mem_append_left _ (List.mem_of_getElem? (i := 2) rfl)
  have k_1 := hts _ m_1
  have i_X3 : ∀ w ∈ u_ws RX3 TX3 6, w ∈ zw_c_put2 := fun w h => List.mem_append_right _ (List.mem_append_left _ h)
  have hl := lv_entry ([.ref lw, .int a1]) (n := 2) (Nat.le_of_ble_eq_true rfl)
  rw [lg_entry_eq]
  generalize (lg_sl ([.ref lw, .int a1]) ++ List.replicate (2 - (lg_sl ([.ref lw, .int a1])).length) Slot.unset).toArray = ls at hl ⊢
  have hl : lv_has ls 2 [(0, .ref lw), (1, .int a1)] := hl
  refine lv_aload_n hx hb dX3_put_0 rfl (lv_at hl 0 rfl) ?_
  refine va_get (D := (dC, dI)) (ci := 3) (v := .int 2) (C := RX3) (T := TX3) (N := 6) hx hb hts i_X3 hown hK hP 0 rfl rfl 3 (by decide) k_0 (fun _ h9 => h9) f_lf_3 dX3_put_1 ?_
  refine lv_sipush (v := 600) hx hb dX3_put_4 (by decide) ?_
  refine lv_icmp_lt (tgt := 12) hx hb dX3_put_7 (by decide) (fun _ => ?_) (fun c9 => absurd c9 (by decide))
  refine lv_aload_n hx hb dX3_put_12 rfl (lv_at hl 0 rfl) ?_
  refine va_get (D := (dC, dI)) (ci := 3) (v := .ref lc) (C := RX3) (T := TX3) (N := 6) hx hb hts i_X3 hown hK hP 0 rfl rfl 0 (by decide) k_1 (fun _ h9 => h9) f_lf_0 dX3_put_13 ?_
  refine lv_aload_n hx hb dX3_put_16 rfl (lv_at hl 0 rfl) ?_
  refine va_get (D := (dC, dI)) (ci := 3) (v := .int 2) (C := RX3) (T := TX3) (N := 6) hx hb hts i_X3 hown hK hP 0 rfl rfl 3 (by decide) k_0 (fun _ h9 => h9) f_lf_3 dX3_put_17 ?_
  refine lv_iload_n hx hb dX3_put_20 rfl (lv_at hl 1 rfl) ?_
  refine va_iast hx hb hK hP hD hS 1 0 rfl rfl (p1_in (i := 2) (n := 600) (by decide)) dX3_put_21 (fun H locs hP hD hS => ?_)
  have hP : va_P (dC, dI) vwCl [(lw, .inr (3, lf)), (lc, .inl (cc1, 600, .inl (upd cf (2 : Int32).toNatClampNeg a1)))] H := hP
  have hD : va_D A [(lw, .inr (3, lf)), (lc, .inl (cc1, 600, .inl (upd cf (2 : Int32).toNatClampNeg a1)))] := hD
  generalize eg_1 : (upd cf (2 : Int32).toNatClampNeg a1) = g_1 at hP hD
  refine lv_aload_n hx hb dX3_put_22 rfl (lv_at hl 0 rfl) ?_
  refine lv_dup hx hb dX3_put_23 rfl ?_
  refine va_get (D := (dC, dI)) (ci := 3) (v := .int 2) (C := RX3) (T := TX3) (N := 6) hx hb hts i_X3 hown hK hP 0 rfl rfl 3 (by decide) k_0 (fun _ h9 => h9) f_lf_3 dX3_put_24 ?_
  refine lv_iconst (v := 1) hx hb dX3_put_27 (by decide) ?_
  refine lv_iadd hx hb dX3_put_28 ?_
  refine lv_topi (fun v_2 ev_2 => ?_)
  obtain rfl : v_2 = 3 := ev_2.trans (by decide)
  refine va_put (D := (dC, dI)) (ci := 3) (v := .int 3) (ty := .int) (C := RX3) (T := TX3) (N := 6) hx hb hts i_X3 tyX3 tyX3_ok nmX3 hown hK hP hD hS 0 rfl rfl 3 (by decide) k_0 (fun _ h9 => h9) rfl (by decide +kernel) rfl rfl (by rw [l_lf]; decide) dX3_put_29 (fun H locs hP hD hS => ?_)
  have hP : va_P (dC, dI) vwCl [(lw, .inr (3, (lf.set 3 (.int 3)))), (lc, .inl (cc1, 600, .inl g_1))] H := hP
  have hD : va_D A [(lw, .inr (3, (lf.set 3 (.int 3)))), (lc, .inl (cc1, 600, .inl g_1))] := hD
  generalize efs_3 : (lf.set 3 (.int 3)) = fs_3 at hP hD
  have lfs_3 : fs_3.length = 6 := by rw [← efs_3, List.length_set]; exact l_lf
  have ffs_3_0 : fs_3[0]? = some (.ref lc) := by rw [← efs_3]; exact p1_sn (by decide) f_lf_0
  have ffs_3_1 : fs_3[1]? = some (.ref lb) := by rw [← efs_3]; exact p1_sn (by decide) f_lf_1
  have ffs_3_4 : fs_3[4]? = some (.int 0) := by rw [← efs_3]; exact p1_sn (by decide) f_lf_4
  have ffs_3_3 : fs_3[3]? = some (.int 3) := by rw [← efs_3]; exact p1_sa l_lf (by decide)
  refine lv_iconst (v := 1) hx hb dX3_put_32 (by decide) ?_
  have hP9 := hP.sub (ws' := [(lw, .inr (3, fs_3)), (lc, .inl (cc1, 600, .inl g_1))]) [0, 1] rfl
  have hD9 := hD.sub (ws' := [(lw, .inr (3, fs_3)), (lc, .inl (cc1, 600, .inl g_1))]) [0, 1] (by decide) rfl
  have hK9 := hK.sub (tys' := []) [] rfl
  exact W.zret (v := 1) hx hb hr (by decide) (fun t ht hW => ⟨⟨1, (), rfl, rfl, fs_3, g_1, lfs_3, ffs_3_0, ffs_3_1, ffs_3_3, ffs_3_4, by rw [ht]; exact hP9, va_K.moved hW.alike hK9, hD9⟩, hS.F ht⟩) hS.2.2 dX3_put_33
def zo_c_put3 : List Cond := [.code yX3_put cX3_put 2 (some .boolean), .fieldLink RX3 21 "BowWalk$Laws" "used" "I", .fieldLink RX3 9 "BowWalk$Laws" "code" "[I"]
def zw_c_put3 : List Cond := zo_c_put3 ++ (wsX30 ++ [])
theorem gz_c_put3 : zw_c_put3.all goodWord = true := p1_ga (by decide +kernel) (p1_ga gk_X3 p1_g0)
theorem iz_c_put3 : ∀ w ∈ zw_c_put3, w ∈ lw_tbl := p1_ia (p1_all [683, 153, 150] (by decide +kernel)) (p1_ia ik_X3 p1_i0)
set_option maxHeartbeats 4000000 in
set_option maxRecDepth 100000 in
theorem c_put3 (l : Launch) (dC : Nat → ClassId) (dI : Nat → Nat → Nat) (sz : Nat) (lw : Nat) (lf : List Value) (lc : Nat) (lb : Nat) (cc1 : ClassId) (cf : Nat → Int32) (a1 : Int32) (f_lf_0 : lf[0]? = some (.ref lc)) (f_lf_1 : lf[1]? = some (.ref lb)) (f_lf_3 : lf[3]? = some (.int 3)) (f_lf_4 : lf[4]? = some (.int 0)) (l_lf : lf.length = 6) : Met l yX3_put zw_c_put3 ({ frames := 0, cells := 0, slots := 0, locals := 0 }) (va_Pc [.ref lw, .int a1] (fun U => U.heap.size = sz ∧ va_P (dC, dI) vwCl [(lw, .inr (3, lf)), (lc, .inl (cc1, 600, .inl cf))] U.heap ∧ va_K (dC, dI) vwCl [(cc1, .int)] U ∧ va_D (fun _ => True) [(lw, .inr (3, lf)), (lc, .inl (cc1, 600, .inl cf))])) (va_Qi (fun (r : Int32) (_ : Unit) => r = 1) (fun _ t => ∃ (lo : List Value) (cg : Nat → Int32), lo.length = 6 ∧ lo[0]? = some (.ref lc) ∧ lo[1]? = some (.ref lb) ∧ lo[3]? = some (.int 4) ∧ lo[4]? = some (.int 0) ∧ va_P (dC, dI) vwCl [(lw, .inr (3, lo)), (lc, .inl (cc1, 600, .inl cg))] t.heap ∧ va_K (dC, dI) vwCl [] t ∧ va_D (va_A [(lw, .inr (3, lf)), (lc, .inl (cc1, 600, .inl cf))] sz) [(lw, .inr (3, lo)), (lc, .inl (cc1, 600, .inl cg))]) (va_A [(lw, .inr (3, lf)), (lc, .inl (cc1, 600, .inl cf))] sz)) 0 0 (va_A [(lw, .inr (3, lf)), (lc, .inl (cc1, 600, .inl cf))] sz) := by
  refine Met.ofW (cc := cX3_put) (maxL := 2) (ret := (some .boolean)) (by decide) rfl ?_
  intro p e s m args below meth c s₁ B hml hv
  obtain ⟨rfl, hsz, hP, hK, hD0⟩ := hv
  have hx := B.exec
  have hb := B.bytes
  have hr := B.returns
  have hts := atoms_spec (ws := zw_c_put3) B.pre
  have hown : s.vm.findClass RX3 = some m.cls := findClass_of_methodNamed B.named
  have hlocks := B.notSynchronized
  subst hsz
  have hD := hD0.self (sz := s.heap.size)
  generalize hAe : va_A [(lw, .inr (3, lf)), (lc, .inl (cc1, 600, .inl cf))] s.heap.size = A at hD ⊢
  have hA : ∀ q : Nat, s.heap.size ≤ q → A q := fun q h => by rw [← hAe]; exact Or.inr h
  have hS : va_S A s.heap s.heap [] := va_S.rf
  have hP : va_P (dC, dI) vwCl [(lw, .inr (3, lf)), (lc, .inl (cc1, 600, .inl cf))] s.heap := hP
  have m_0 : (.fieldLink RX3 21 "BowWalk$Laws" "used" "I" : Cond) ∈ zw_c_put3 := List.mem_append_left _ (List.mem_of_getElem? (i := 1) rfl)
  have k_0 := hts _ m_0
  have m_1 : (.fieldLink RX3 9 "BowWalk$Laws" "code" "[I" : Cond) ∈ zw_c_put3 := List.mem_append_left _ (List.mem_of_getElem? (i := 2) rfl)
  have k_1 := hts _ m_1
  have i_X3 : ∀ w ∈ u_ws RX3 TX3 6, w ∈ zw_c_put3 := fun w h => List.mem_append_right _ (List.mem_append_left _ h)
  have hl := lv_entry ([.ref lw, .int a1]) (n := 2) (Nat.le_of_ble_eq_true rfl)
  rw [lg_entry_eq]
  generalize (lg_sl ([.ref lw, .int a1]) ++ List.replicate (2 - (lg_sl ([.ref lw, .int a1])).length) Slot.unset).toArray = ls at hl ⊢
  have hl : lv_has ls 2 [(0, .ref lw), (1, .int a1)] := hl
  refine lv_aload_n hx hb dX3_put_0 rfl (lv_at hl 0 rfl) ?_
  refine va_get (D := (dC, dI)) (ci := 3) (v := .int 3) (C := RX3) (T := TX3) (N := 6) hx hb hts i_X3 hown hK hP 0 rfl rfl 3 (by decide) k_0 (fun _ h9 => h9) f_lf_3 dX3_put_1 ?_
  refine lv_sipush (v := 600) hx hb dX3_put_4 (by decide) ?_
  refine lv_icmp_lt (tgt := 12) hx hb dX3_put_7 (by decide) (fun _ => ?_) (fun c9 => absurd c9 (by decide))
  refine lv_aload_n hx hb dX3_put_12 rfl (lv_at hl 0 rfl) ?_
  refine va_get (D := (dC, dI)) (ci := 3) (v := .ref lc) (C := RX3) (T := TX3) (N := 6) hx hb hts i_X3 hown hK hP 0 rfl rfl 0 (by decide) k_1 (fun _ h9 => h9) f_lf_0 dX3_put_13 ?_
  refine lv_aload_n hx hb dX3_put_16 rfl (lv_at hl 0 rfl) ?_
  refine va_get (D := (dC, dI)) (ci := 3) (v := .int 3) (C := RX3) (T := TX3) (N := 6) hx hb hts i_X3 hown hK hP 0 rfl rfl 3 (by decide) k_0 (fun _ h9 => h9) f_lf_3 dX3_put_17 ?_
  refine lv_iload_n hx hb dX3_put_20 rfl (lv_at hl 1 rfl) ?_
  refine va_iast hx hb hK hP hD hS 1 0 rfl rfl (p1_in (i := 3) (n := 600) (by decide)) dX3_put_21 (fun H locs hP hD hS => ?_)
  have hP : va_P (dC, dI) vwCl [(lw, .inr (3, lf)), (lc, .inl (cc1, 600, .inl (upd cf (3 : Int32).toNatClampNeg a1)))] H := hP
  have hD : va_D A [(lw, .inr (3, lf)), (lc, .inl (cc1, 600, .inl (upd cf (3 : Int32).toNatClampNeg a1)))] := hD
  generalize eg_1 : (upd cf (3 : Int32).toNatClampNeg a1) = g_1 at hP hD
  refine lv_aload_n hx hb dX3_put_22 rfl (lv_at hl 0 rfl) ?_
  refine lv_dup hx hb dX3_put_23 rfl ?_
  refine va_get (D := (dC, dI)) (ci := 3) (v := .int 3) (C := RX3) (T := TX3) (N := 6) hx hb hts i_X3 hown hK hP 0 rfl rfl 3 (by decide) k_0 (fun _ h9 => h9) f_lf_3 dX3_put_24 ?_
  refine lv_iconst (v := 1) hx hb dX3_put_27 (by decide) ?_
  refine lv_iadd hx hb dX3_put_28 ?_
  refine lv_topi (fun v_2 ev_2 => ?_)
  obtain rfl : v_2 = 4 := ev_2.trans (by decide)
  refine va_put (D := (dC, dI)) (ci := 3) (v := .int 4) (ty := .int) (C := RX3) (T := TX3) (N := 6) hx hb hts i_X3 tyX3 tyX3_ok nmX3 hown hK hP hD hS 0 rfl rfl 3 (by decide) k_0 (fun _ h9 => h9) rfl (by decide +kernel) rfl rfl (by rw [l_lf]; decide) dX3_put_29 (fun H locs hP hD hS => ?_)
  have hP : va_P (dC, dI) vwCl [(lw, .inr (3, (lf.set 3 (.int 4)))), (lc, .inl (cc1, 600, .inl g_1))] H := hP
  have hD : va_D A [(lw, .inr (3, (lf.set 3 (.int 4)))), (lc, .inl (cc1, 600, .inl g_1))] := hD
  generalize efs_3 : (lf.set 3 (.int 4)) = fs_3 at hP hD
  have lfs_3 : fs_3.length = 6 := by rw [← efs_3, List.length_set]; exact l_lf
  have ffs_3_0 : fs_3[0]? = some (.ref lc) := by rw [← efs_3]; exact p1_sn (by decide) f_lf_0
  have ffs_3_1 : fs_3[1]? = some (.ref lb) := by rw [← efs_3]; exact p1_sn (by decide) f_lf_1
  have ffs_3_4 : fs_3[4]? = some (.int 0) := by rw [← efs_3]; exact p1_sn (by decide) f_lf_4
  have ffs_3_3 : fs_3[3]? = some (.int 4) := by rw [← efs_3]; exact p1_sa l_lf (by decide)
  refine lv_iconst (v := 1) hx hb dX3_put_32 (by decide) ?_
  have hP9 := hP.sub (ws' := [(lw, .inr (3, fs_3)), (lc, .inl (cc1, 600, .inl g_1))]) [0, 1] rfl
  have hD9 := hD.sub (ws' := [(lw, .inr (3, fs_3)), (lc, .inl (cc1, 600, .inl g_1))]) [0, 1] (by decide) rfl
  have hK9 := hK.sub (tys' := []) [] rfl
  exact W.zret (v := 1) hx hb hr (by decide) (fun t ht hW => ⟨⟨1, (), rfl, rfl, fs_3, g_1, lfs_3, ffs_3_0, ffs_3_1, ffs_3_3, ffs_3_4, by rw [ht]; exact hP9, va_K.moved hW.alike hK9, hD9⟩, hS.F ht⟩) hS.2.2 dX3_put_33
def zo_c_put4 : List Cond := [.code yX3_put cX3_put 2 (some .boolean), .fieldLink RX3 21 "BowWalk$Laws" "used" "I", .fieldLink RX3 9 "BowWalk$Laws" "code" "[I"]
def zw_c_put4 : List Cond := zo_c_put4 ++ (wsX30 ++ [])
theorem gz_c_put4 : zw_c_put4.all goodWord = true := p1_ga (by decide +kernel) (p1_ga gk_X3 p1_g0)
theorem iz_c_put4 : ∀ w ∈ zw_c_put4, w ∈ lw_tbl := p1_ia (p1_all [683, 153, 150] (by decide +kernel)) (p1_ia ik_X3 p1_i0)
set_option maxHeartbeats 4000000 in
set_option maxRecDepth 100000 in
theorem c_put4 (l : Launch) (dC : Nat → ClassId) (dI : Nat → Nat → Nat) (sz : Nat) (lw : Nat) (lf : List Value) (lc : Nat) (lb : Nat) (cc1 : ClassId) (cf : Nat → Int32) (a1 : Int32) (f_lf_0 : lf[0]? = some (.ref lc)) (f_lf_1 : lf[1]? = some (.ref lb)) (f_lf_3 : lf[3]? = some (.int 4)) (f_lf_4 : lf[4]? = some (.int 0)) (l_lf : lf.length = 6) : Met l yX3_put zw_c_put4 ({ frames := 0, cells := 0, slots := 0, locals := 0 }) (va_Pc [.ref lw, .int a1] (fun U => U.heap.size = sz ∧ va_P (dC, dI) vwCl [(lw, .inr (3, lf)), (lc, .inl (cc1, 600, .inl cf))] U.heap ∧ va_K (dC, dI) vwCl [(cc1, .int)] U ∧ va_D (fun _ => True) [(lw, .inr (3, lf)), (lc, .inl (cc1, 600, .inl cf))])) (va_Qi (fun (r : Int32) (_ : Unit) => r = 1) (fun _ t => ∃ (lo : List Value) (cg : Nat → Int32), lo.length = 6 ∧ lo[0]? = some (.ref lc) ∧ lo[1]? = some (.ref lb) ∧ lo[3]? = some (.int 5) ∧ lo[4]? = some (.int 0) ∧ va_P (dC, dI) vwCl [(lw, .inr (3, lo)), (lc, .inl (cc1, 600, .inl cg))] t.heap ∧ va_K (dC, dI) vwCl [] t ∧ va_D (va_A [(lw, .inr (3, lf)), (lc, .inl (cc1, 600, .inl cf))] sz) [(lw, .inr (3, lo)), (lc, .inl (cc1, 600, .inl cg))]) (va_A [(lw, .inr (3, lf)), (lc, .inl (cc1, 600, .inl cf))] sz)) 0 0 (va_A [(lw, .inr (3, lf)), (lc, .inl (cc1, 600, .inl cf))] sz) := by
  refine Met.ofW (cc := cX3_put) (maxL := 2) (ret := (some .boolean)) (by decide) rfl ?_
  intro p e s m args below meth c s₁ B hml hv
  obtain ⟨rfl, hsz, hP, hK, hD0⟩ := hv
  have hx := B.exec
  have hb := B.bytes
  have hr := B.returns
  have hts := atoms_spec (ws := zw_c_put4) B.pre
  have hown : s.vm.findClass RX3 = some m.cls := findClass_of_methodNamed B.named
  have hlocks := B.notSynchronized
  subst hsz
  have hD := hD0.self (sz := s.heap.size)
  generalize hAe : va_A [(lw, .inr (3, lf)), (lc, .inl (cc1, 600, .inl cf))] s.heap.size = A at hD ⊢
  have hA : ∀ q : Nat, s.heap.size ≤ q → A q := fun q h => by rw [← hAe]; exact Or.inr h
  have hS : va_S A s.heap s.heap [] := va_S.rf
  have hP : va_P (dC, dI) vwCl [(lw, .inr (3, lf)), (lc, .inl (cc1, 600, .inl cf))] s.heap := hP
  have m_0 : (.fieldLink RX3 21 "BowWalk$Laws" "used" "I" : Cond) ∈ zw_c_put4 := List.mem_append_left _ (List.mem_of_getElem? (i := 1) rfl)
  have k_0 := hts _ m_0
  have m_1 : (.fieldLink RX3 9 "BowWalk$Laws" "code" "[I" : Cond) ∈ zw_c_put4 := List.mem_append_left _ (List.mem_of_getElem? (i := 2) rfl)
  have k_1 := hts _ m_1
  have i_X3 : ∀ w ∈ u_ws RX3 TX3 6, w ∈ zw_c_put4 := fun w h => List.mem_append_right _ (List.mem_append_left _ h)
  have hl := lv_entry ([.ref lw, .int a1]) (n := 2) (Nat.le_of_ble_eq_true rfl)
  rw [lg_entry_eq]
  generalize (lg_sl ([.ref lw, .int a1]) ++ List.replicate (2 - (lg_sl ([.ref lw, .int a1])).length) Slot.unset).toArray = ls at hl ⊢
  have hl : lv_has ls 2 [(0, .ref lw), (1, .int a1)] := hl
  refine lv_aload_n hx hb dX3_put_0 rfl (lv_at hl 0 rfl) ?_
  refine va_get (D := (dC, dI)) (ci := 3) (v := .int 4) (C := RX3) (T := TX3) (N := 6) hx hb hts i_X3 hown hK hP 0 rfl rfl 3 (by decide) k_0 (fun _ h9 => h9) f_lf_3 dX3_put_1 ?_
  refine lv_sipush (v := 600) hx hb dX3_put_4 (by decide) ?_
  refine lv_icmp_lt (tgt := 12) hx hb dX3_put_7 (by decide) (fun _ => ?_) (fun c9 => absurd c9 (by decide))
  refine lv_aload_n hx hb dX3_put_12 rfl (lv_at hl 0 rfl) ?_
  refine va_get (D := (dC, dI)) (ci := 3) (v := .ref lc) (C := RX3) (T := TX3) (N := 6) hx hb hts i_X3 hown hK hP 0 rfl rfl 0 (by decide) k_1 (fun _ h9 => h9) f_lf_0 dX3_put_13 ?_
  refine lv_aload_n hx hb dX3_put_16 rfl (lv_at hl 0 rfl) ?_
  refine va_get (D := (dC, dI)) (ci := 3) (v := .int 4) (C := RX3) (T := TX3) (N := 6) hx hb hts i_X3 hown hK hP 0 rfl rfl 3 (by decide) k_0 (fun _ h9 => h9) f_lf_3 dX3_put_17 ?_
  refine lv_iload_n hx hb dX3_put_20 rfl (lv_at hl 1 rfl) ?_
  refine va_iast hx hb hK hP hD hS 1 0 rfl rfl (p1_in (i := 4) (n := 600) (by decide)) dX3_put_21 (fun H locs hP hD hS => ?_)
  have hP : va_P (dC, dI) vwCl [(lw, .inr (3, lf)), (lc, .inl (cc1, 600, .inl (upd cf (4 : Int32).toNatClampNeg a1)))] H := hP
  have hD : va_D A [(lw, .inr (3, lf)), (lc, .inl (cc1, 600, .inl (upd cf (4 : Int32).toNatClampNeg a1)))] := hD
  generalize eg_1 : (upd cf (4 : Int32).toNatClampNeg a1) = g_1 at hP hD
  refine lv_aload_n hx hb dX3_put_22 rfl (lv_at hl 0 rfl) ?_
  refine lv_dup hx hb dX3_put_23 rfl ?_
  refine va_get (D := (dC, dI)) (ci := 3) (v := .int 4) (C := RX3) (T := TX3) (N := 6) hx hb hts i_X3 hown hK hP 0 rfl rfl 3 (by decide) k_0 (fun _ h9 => h9) f_lf_3 dX3_put_24 ?_
  refine lv_iconst (v := 1) hx hb dX3_put_27 (by decide) ?_
  refine lv_iadd hx hb dX3_put_28 ?_
  refine lv_topi (fun v_2 ev_2 => ?_)
  obtain rfl : v_2 = 5 := ev_2.trans (by decide)
  refine va_put (D := (dC, dI)) (ci := 3) (v := .int 5) (ty := .int) (C := RX3) (T := TX3) (N := 6) hx hb hts i_X3 tyX3 tyX3_ok nmX3 hown hK hP hD hS 0 rfl rfl 3 (by decide) k_0 (fun _ h9 => h9) rfl (by decide +kernel) rfl rfl (by rw [l_lf]; decide) dX3_put_29 (fun H locs hP hD hS => ?_)
  have hP : va_P (dC, dI) vwCl [(lw, .inr (3, (lf.set 3 (.int 5)))), (lc, .inl (cc1, 600, .inl g_1))] H := hP
  have hD : va_D A [(lw, .inr (3, (lf.set 3 (.int 5)))), (lc, .inl (cc1, 600, .inl g_1))] := hD
  generalize efs_3 : (lf.set 3 (.int 5)) = fs_3 at hP hD
  have lfs_3 : fs_3.length = 6 := by rw [← efs_3, List.length_set]; exact l_lf
  have ffs_3_0 : fs_3[0]? = some (.ref lc) := by rw [← efs_3]; exact p1_sn (by decide) f_lf_0
  have ffs_3_1 : fs_3[1]? = some (.ref lb) := by rw [← efs_3]; exact p1_sn (by decide) f_lf_1
  have ffs_3_4 : fs_3[4]? = some (.int 0) := by rw [← efs_3]; exact p1_sn (by decide) f_lf_4
  have ffs_3_3 : fs_3[3]? = some (.int 5) := by rw [← efs_3]; exact p1_sa l_lf (by decide)
  refine lv_iconst (v := 1) hx hb dX3_put_32 (by decide) ?_
  have hP9 := hP.sub (ws' := [(lw, .inr (3, fs_3)), (lc, .inl (cc1, 600, .inl g_1))]) [0, 1] rfl
  have hD9 := hD.sub (ws' := [(lw, .inr (3, fs_3)), (lc, .inl (cc1, 600, .inl g_1))]) [0, 1] (by decide) rfl
  have hK9 := hK.sub (tys' := []) [] rfl
  exact W.zret (v := 1) hx hb hr (by decide) (fun t ht hW => ⟨⟨1, (), rfl, rfl, fs_3, g_1, lfs_3, ffs_3_0, ffs_3_1, ffs_3_3, ffs_3_4, by rw [ht]; exact hP9, va_K.moved hW.alike hK9, hD9⟩, hS.F ht⟩) hS.2.2 dX3_put_33
def zo_c_put5 : List Cond := [.code yX3_put cX3_put 2 (some .boolean), .fieldLink RX3 21 "BowWalk$Laws" "used" "I", .fieldLink RX3 9 "BowWalk$Laws" "code" "[I"]
def zw_c_put5 : List Cond := zo_c_put5 ++ (wsX30 ++ [])
theorem gz_c_put5 : zw_c_put5.all goodWord = true := p1_ga (by decide +kernel) (p1_ga gk_X3 p1_g0)
theorem iz_c_put5 : ∀ w ∈ zw_c_put5, w ∈ lw_tbl := p1_ia (p1_all [683, 153, 150] (by decide +kernel)) (p1_ia ik_X3 p1_i0)
set_option maxHeartbeats 4000000 in
set_option maxRecDepth 100000 in
theorem c_put5 (l : Launch) (dC : Nat → ClassId) (dI : Nat → Nat → Nat) (sz : Nat) (lw : Nat) (lf : List Value) (lc : Nat) (lb : Nat) (cc1 : ClassId) (cf : Nat → Int32) (a1 : Int32) (f_lf_0 : lf[0]? = some (.ref lc)) (f_lf_1 : lf[1]? = some (.ref lb)) (f_lf_3 : lf[3]? = some (.int 5)) (f_lf_4 : lf[4]? = some (.int 1)) (l_lf : lf.length = 6) : Met l yX3_put zw_c_put5 ({ frames := 0, cells := 0, slots := 0, locals := 0 }) (va_Pc [.ref lw, .int a1] (fun U => U.heap.size = sz ∧ va_P (dC, dI) vwCl [(lw, .inr (3, lf)), (lc, .inl (cc1, 600, .inl cf))] U.heap ∧ va_K (dC, dI) vwCl [(cc1, .int)] U ∧ va_D (fun _ => True) [(lw, .inr (3, lf)), (lc, .inl (cc1, 600, .inl cf))])) (va_Qi (fun (r : Int32) (_ : Unit) => r = 1) (fun _ t => ∃ (lo : List Value) (cg : Nat → Int32), lo.length = 6 ∧ lo[0]? = some (.ref lc) ∧ lo[1]? = some (.ref lb) ∧ lo[3]? = some (.int 6) ∧ lo[4]? = some (.int 1) ∧ va_P (dC, dI) vwCl [(lw, .inr (3, lo)), (lc, .inl (cc1, 600, .inl cg))] t.heap ∧ va_K (dC, dI) vwCl [] t ∧ va_D (va_A [(lw, .inr (3, lf)), (lc, .inl (cc1, 600, .inl cf))] sz) [(lw, .inr (3, lo)), (lc, .inl (cc1, 600, .inl cg))]) (va_A [(lw, .inr (3, lf)), (lc, .inl (cc1, 600, .inl cf))] sz)) 0 0 (va_A [(lw, .inr (3, lf)), (lc, .inl (cc1, 600, .inl cf))] sz) := by
  refine Met.ofW (cc := cX3_put) (maxL := 2) (ret := (some .boolean)) (by decide) rfl ?_
  intro p e s m args below meth c s₁ B hml hv
  obtain ⟨rfl, hsz, hP, hK, hD0⟩ := hv
  have hx := B.exec
  have hb := B.bytes
  have hr := B.returns
  have hts := atoms_spec (ws := zw_c_put5) B.pre
  have hown : s.vm.findClass RX3 = some m.cls := findClass_of_methodNamed B.named
  have hlocks := B.notSynchronized
  subst hsz
  have hD := hD0.self (sz := s.heap.size)
  generalize hAe : va_A [(lw, .inr (3, lf)), (lc, .inl (cc1, 600, .inl cf))] s.heap.size = A at hD ⊢
  have hA : ∀ q : Nat, s.heap.size ≤ q → A q := fun q h => by rw [← hAe]; exact Or.inr h
  have hS : va_S A s.heap s.heap [] := va_S.rf
  have hP : va_P (dC, dI) vwCl [(lw, .inr (3, lf)), (lc, .inl (cc1, 600, .inl cf))] s.heap := hP
  have m_0 : (.fieldLink RX3 21 "BowWalk$Laws" "used" "I" : Cond) ∈ zw_c_put5 := List.mem_append_left _ (List.mem_of_getElem? (i := 1) rfl)
  have k_0 := hts _ m_0
  have m_1 : (.fieldLink RX3 9 "BowWalk$Laws" "code" "[I" : Cond) ∈ zw_c_put5 := List.mem_append_left _ (List.mem_of_getElem? (i := 2) rfl)
  have k_1 := hts _ m_1
  have i_X3 : ∀ w ∈ u_ws RX3 TX3 6, w ∈ zw_c_put5 := fun w h => List.mem_append_right _ (List.mem_append_left _ h)
  have hl := lv_entry ([.ref lw, .int a1]) (n := 2) (Nat.le_of_ble_eq_true rfl)
  rw [lg_entry_eq]
  generalize (lg_sl ([.ref lw, .int a1]) ++ List.replicate (2 - (lg_sl ([.ref lw, .int a1])).length) Slot.unset).toArray = ls at hl ⊢
  have hl : lv_has ls 2 [(0, .ref lw), (1, .int a1)] := hl
  refine lv_aload_n hx hb dX3_put_0 rfl (lv_at hl 0 rfl) ?_
  refine va_get (D := (dC, dI)) (ci := 3) (v := .int 5) (C := RX3) (T := TX3) (N := 6) hx hb hts i_X3 hown hK hP 0 rfl rfl 3 (by decide) k_0 (fun _ h9 => h9) f_lf_3 dX3_put_1 ?_
  refine lv_sipush (v := 600) hx hb dX3_put_4 (by decide) ?_
  refine lv_icmp_lt (tgt := 12) hx hb dX3_put_7 (by decide) (fun _ => ?_) (fun c9 => absurd c9 (by decide))
  refine lv_aload_n hx hb dX3_put_12 rfl (lv_at hl 0 rfl) ?_
  refine va_get (D := (dC, dI)) (ci := 3) (v := .ref lc) (C := RX3) (T := TX3) (N := 6) hx hb hts i_X3 hown hK hP 0 rfl rfl 0 (by decide) k_1 (fun _ h9 => h9) f_lf_0 dX3_put_13 ?_
  refine lv_aload_n hx hb dX3_put_16 rfl (lv_at hl 0 rfl) ?_
  refine va_get (D := (dC, dI)) (ci := 3) (v := .int 5) (C := RX3) (T := TX3) (N := 6) hx hb hts i_X3 hown hK hP 0 rfl rfl 3 (by decide) k_0 (fun _ h9 => h9) f_lf_3 dX3_put_17 ?_
  refine lv_iload_n hx hb dX3_put_20 rfl (lv_at hl 1 rfl) ?_
  refine va_iast hx hb hK hP hD hS 1 0 rfl rfl (p1_in (i := 5) (n := 600) (by decide)) dX3_put_21 (fun H locs hP hD hS => ?_)
  have hP : va_P (dC, dI) vwCl [(lw, .inr (3, lf)), (lc, .inl (cc1, 600, .inl (upd cf (5 : Int32).toNatClampNeg a1)))] H := hP
  have hD : va_D A [(lw, .inr (3, lf)), (lc, .inl (cc1, 600, .inl (upd cf (5 : Int32).toNatClampNeg a1)))] := hD
  generalize eg_1 : (upd cf (5 : Int32).toNatClampNeg a1) = g_1 at hP hD
  refine lv_aload_n hx hb dX3_put_22 rfl (lv_at hl 0 rfl) ?_
  refine lv_dup hx hb dX3_put_23 rfl ?_
  refine va_get (D := (dC, dI)) (ci := 3) (v := .int 5) (C := RX3) (T := TX3) (N := 6) hx hb hts i_X3 hown hK hP 0 rfl rfl 3 (by decide) k_0 (fun _ h9 => h9) f_lf_3 dX3_put_24 ?_
  refine lv_iconst (v := 1) hx hb dX3_put_27 (by decide) ?_
  refine lv_iadd hx hb dX3_put_28 ?_
  refine lv_topi (fun v_2 ev_2 => ?_)
  obtain rfl : v_2 = 6 := ev_2.trans (by decide)
  refine va_put (D := (dC, dI)) (ci := 3) (v := .int 6) (ty := .int) (C := RX3) (T := TX3) (N := 6) hx hb hts i_X3 tyX3 tyX3_ok nmX3 hown hK hP hD hS 0 rfl rfl 3 (by decide) k_0 (fun _ h9 => h9) rfl (by decide +kernel) rfl rfl (by rw [l_lf]; decide) dX3_put_29 (fun H locs hP hD hS => ?_)
  have hP : va_P (dC, dI) vwCl [(lw, .inr (3, (lf.set 3 (.int 6)))), (lc, .inl (cc1, 600, .inl g_1))] H := hP
  have hD : va_D A [(lw, .inr (3, (lf.set 3 (.int 6)))), (lc, .inl (cc1, 600, .inl g_1))] := hD
  generalize efs_3 : (lf.set 3 (.int 6)) = fs_3 at hP hD
  have lfs_3 : fs_3.length = 6 := by rw [← efs_3, List.length_set]; exact l_lf
  have ffs_3_0 : fs_3[0]? = some (.ref lc) := by rw [← efs_3]; exact p1_sn (by decide) f_lf_0
  have ffs_3_1 : fs_3[1]? = some (.ref lb) := by rw [← efs_3]; exact p1_sn (by decide) f_lf_1
  have ffs_3_4 : fs_3[4]? = some (.int 1) := by rw [← efs_3]; exact p1_sn (by decide) f_lf_4
  have ffs_3_3 : fs_3[3]? = some (.int 6) := by rw [← efs_3]; exact p1_sa l_lf (by decide)
  refine lv_iconst (v := 1) hx hb dX3_put_32 (by decide) ?_
  have hP9 := hP.sub (ws' := [(lw, .inr (3, fs_3)), (lc, .inl (cc1, 600, .inl g_1))]) [0, 1] rfl
  have hD9 := hD.sub (ws' := [(lw, .inr (3, fs_3)), (lc, .inl (cc1, 600, .inl g_1))]) [0, 1] (by decide) rfl
  have hK9 := hK.sub (tys' := []) [] rfl
  exact W.zret (v := 1) hx hb hr (by decide) (fun t ht hW => ⟨⟨1, (), rfl, rfl, fs_3, g_1, lfs_3, ffs_3_0, ffs_3_1, ffs_3_3, ffs_3_4, by rw [ht]; exact hP9, va_K.moved hW.alike hK9, hD9⟩, hS.F ht⟩) hS.2.2 dX3_put_33
def zo_c_put6 : List Cond := [.code yX3_put cX3_put 2 (some .boolean), .fieldLink RX3 21 "BowWalk$Laws" "used" "I", .fieldLink RX3 9 "BowWalk$Laws" "code" "[I"]
def zw_c_put6 : List Cond := zo_c_put6 ++ (wsX30 ++ [])
theorem gz_c_put6 : zw_c_put6.all goodWord = true := p1_ga (by decide +kernel) (p1_ga gk_X3 p1_g0)
theorem iz_c_put6 : ∀ w ∈ zw_c_put6, w ∈ lw_tbl := p1_ia (p1_all [683, 153, 150] (by decide +kernel)) (p1_ia ik_X3 p1_i0)
set_option maxHeartbeats 4000000 in
set_option maxRecDepth 100000 in
theorem c_put6 (l : Launch) (dC : Nat → ClassId) (dI : Nat → Nat → Nat) (sz : Nat) (lw : Nat) (lf : List Value) (lc : Nat) (lb : Nat) (cc1 : ClassId) (cf : Nat → Int32) (a1 : Int32) (f_lf_0 : lf[0]? = some (.ref lc)) (f_lf_1 : lf[1]? = some (.ref lb)) (f_lf_3 : lf[3]? = some (.int 6)) (f_lf_4 : lf[4]? = some (.int 1)) (l_lf : lf.length = 6) : Met l yX3_put zw_c_put6 ({ frames := 0, cells := 0, slots := 0, locals := 0 }) (va_Pc [.ref lw, .int a1] (fun U => U.heap.size = sz ∧ va_P (dC, dI) vwCl [(lw, .inr (3, lf)), (lc, .inl (cc1, 600, .inl cf))] U.heap ∧ va_K (dC, dI) vwCl [(cc1, .int)] U ∧ va_D (fun _ => True) [(lw, .inr (3, lf)), (lc, .inl (cc1, 600, .inl cf))])) (va_Qi (fun (r : Int32) (_ : Unit) => r = 1) (fun _ t => ∃ (lo : List Value) (cg : Nat → Int32), lo.length = 6 ∧ lo[0]? = some (.ref lc) ∧ lo[1]? = some (.ref lb) ∧ lo[3]? = some (.int 7) ∧ lo[4]? = some (.int 1) ∧ va_P (dC, dI) vwCl [(lw, .inr (3, lo)), (lc, .inl (cc1, 600, .inl cg))] t.heap ∧ va_K (dC, dI) vwCl [] t ∧ va_D (va_A [(lw, .inr (3, lf)), (lc, .inl (cc1, 600, .inl cf))] sz) [(lw, .inr (3, lo)), (lc, .inl (cc1, 600, .inl cg))]) (va_A [(lw, .inr (3, lf)), (lc, .inl (cc1, 600, .inl cf))] sz)) 0 0 (va_A [(lw, .inr (3, lf)), (lc, .inl (cc1, 600, .inl cf))] sz) := by
  refine Met.ofW (cc := cX3_put) (maxL := 2) (ret := (some .boolean)) (by decide) rfl ?_
  intro p e s m args below meth c s₁ B hml hv
  obtain ⟨rfl, hsz, hP, hK, hD0⟩ := hv
  have hx := B.exec
  have hb := B.bytes
  have hr := B.returns
  have hts := atoms_spec (ws := zw_c_put6) B.pre
  have hown : s.vm.findClass RX3 = some m.cls := findClass_of_methodNamed B.named
  have hlocks := B.notSynchronized
  subst hsz
  have hD := hD0.self (sz := s.heap.size)
  generalize hAe : va_A [(lw, .inr (3, lf)), (lc, .inl (cc1, 600, .inl cf))] s.heap.size = A at hD ⊢
  have hA : ∀ q : Nat, s.heap.size ≤ q → A q := fun q h => by rw [← hAe]; exact Or.inr h
  have hS : va_S A s.heap s.heap [] := va_S.rf
  have hP : va_P (dC, dI) vwCl [(lw, .inr (3, lf)), (lc, .inl (cc1, 600, .inl cf))] s.heap := hP
  have m_0 : (.fieldLink RX3 21 "BowWalk$Laws" "used" "I" : Cond) ∈ zw_c_put6 := List.mem_append_left _ (List.mem_of_getElem? (i := 1) rfl)
  have k_0 := hts _ m_0
  have m_1 : (.fieldLink RX3 9 "BowWalk$Laws" "code" "[I" : Cond) ∈ zw_c_put6 := List.mem_append_left _ (List.mem_of_getElem? (i := 2) rfl)
  have k_1 := hts _ m_1
  have i_X3 : ∀ w ∈ u_ws RX3 TX3 6, w ∈ zw_c_put6 := fun w h => List.mem_append_right _ (List.mem_append_left _ h)
  have hl := lv_entry ([.ref lw, .int a1]) (n := 2) (Nat.le_of_ble_eq_true rfl)
  rw [lg_entry_eq]
  generalize (lg_sl ([.ref lw, .int a1]) ++ List.replicate (2 - (lg_sl ([.ref lw, .int a1])).length) Slot.unset).toArray = ls at hl ⊢
  have hl : lv_has ls 2 [(0, .ref lw), (1, .int a1)] := hl
  refine lv_aload_n hx hb dX3_put_0 rfl (lv_at hl 0 rfl) ?_
  refine va_get (D := (dC, dI)) (ci := 3) (v := .int 6) (C := RX3) (T := TX3) (N := 6) hx hb hts i_X3 hown hK hP 0 rfl rfl 3 (by decide) k_0 (fun _ h9 => h9) f_lf_3 dX3_put_1 ?_
  refine lv_sipush (v := 600) hx hb dX3_put_4 (by decide) ?_
  refine lv_icmp_lt (tgt := 12) hx hb dX3_put_7 (by decide) (fun _ => ?_) (fun c9 => absurd c9 (by decide))
  refine lv_aload_n hx hb dX3_put_12 rfl (lv_at hl 0 rfl) ?_
  refine va_get (D := (dC, dI)) (ci := 3) (v := .ref lc) (C := RX3) (T := TX3) (N := 6) hx hb hts i_X3 hown hK hP 0 rfl rfl 0 (by decide) k_1 (fun _ h9 => h9) f_lf_0 dX3_put_13 ?_
  refine lv_aload_n hx hb dX3_put_16 rfl (lv_at hl 0 rfl) ?_
  refine va_get (D := (dC, dI)) (ci := 3) (v := .int 6) (C := RX3) (T := TX3) (N := 6) hx hb hts i_X3 hown hK hP 0 rfl rfl 3 (by decide) k_0 (fun _ h9 => h9) f_lf_3 dX3_put_17 ?_
  refine lv_iload_n hx hb dX3_put_20 rfl (lv_at hl 1 rfl) ?_
  refine va_iast hx hb hK hP hD hS 1 0 rfl rfl (p1_in (i := 6) (n := 600) (by decide)) dX3_put_21 (fun H locs hP hD hS => ?_)
  have hP : va_P (dC, dI) vwCl [(lw, .inr (3, lf)), (lc, .inl (cc1, 600, .inl (upd cf (6 : Int32).toNatClampNeg a1)))] H := hP
  have hD : va_D A [(lw, .inr (3, lf)), (lc, .inl (cc1, 600, .inl (upd cf (6 : Int32).toNatClampNeg a1)))] := hD
  generalize eg_1 : (upd cf (6 : Int32).toNatClampNeg a1) = g_1 at hP hD
  refine lv_aload_n hx hb dX3_put_22 rfl (lv_at hl 0 rfl) ?_
  refine lv_dup hx hb dX3_put_23 rfl ?_
  refine va_get (D := (dC, dI)) (ci := 3) (v := .int 6) (C := RX3) (T := TX3) (N := 6) hx hb hts i_X3 hown hK hP 0 rfl rfl 3 (by decide) k_0 (fun _ h9 => h9) f_lf_3 dX3_put_24 ?_
  refine lv_iconst (v := 1) hx hb dX3_put_27 (by decide) ?_
  refine lv_iadd hx hb dX3_put_28 ?_
  refine lv_topi (fun v_2 ev_2 => ?_)
  obtain rfl : v_2 = 7 := ev_2.trans (by decide)
  refine va_put (D := (dC, dI)) (ci := 3) (v := .int 7) (ty := .int) (C := RX3) (T := TX3) (N := 6) hx hb hts i_X3 tyX3 tyX3_ok nmX3 hown hK hP hD hS 0 rfl rfl 3 (by decide) k_0 (fun _ h9 => h9) rfl (by decide +kernel) rfl rfl (by rw [l_lf]; decide) dX3_put_29 (fun H locs hP hD hS => ?_)
  have hP : va_P (dC, dI) vwCl [(lw, .inr (3, (lf.set 3 (.int 7)))), (lc, .inl (cc1, 600, .inl g_1))] H := hP
  have hD : va_D A [(lw, .inr (3, (lf.set 3 (.int 7)))), (lc, .inl (cc1, 600, .inl g_1))] := hD
  generalize efs_3 : (lf.set 3 (.int 7)) = fs_3 at hP hD
  have lfs_3 : fs_3.length = 6 := by rw [← efs_3, List.length_set]; exact l_lf
  have ffs_3_0 : fs_3[0]? = some (.ref lc) := by rw [← efs_3]; exact p1_sn (by decide) f_lf_0
  have ffs_3_1 : fs_3[1]? = some (.ref lb) := by rw [← efs_3]; exact p1_sn (by decide) f_lf_1
  have ffs_3_4 : fs_3[4]? = some (.int 1) := by rw [← efs_3]; exact p1_sn (by decide) f_lf_4
  have ffs_3_3 : fs_3[3]? = some (.int 7) := by rw [← efs_3]; exact p1_sa l_lf (by decide)
  refine lv_iconst (v := 1) hx hb dX3_put_32 (by decide) ?_
  have hP9 := hP.sub (ws' := [(lw, .inr (3, fs_3)), (lc, .inl (cc1, 600, .inl g_1))]) [0, 1] rfl
  have hD9 := hD.sub (ws' := [(lw, .inr (3, fs_3)), (lc, .inl (cc1, 600, .inl g_1))]) [0, 1] (by decide) rfl
  have hK9 := hK.sub (tys' := []) [] rfl
  exact W.zret (v := 1) hx hb hr (by decide) (fun t ht hW => ⟨⟨1, (), rfl, rfl, fs_3, g_1, lfs_3, ffs_3_0, ffs_3_1, ffs_3_3, ffs_3_4, by rw [ht]; exact hP9, va_K.moved hW.alike hK9, hD9⟩, hS.F ht⟩) hS.2.2 dX3_put_33
def zo_c_put7 : List Cond := [.code yX3_put cX3_put 2 (some .boolean), .fieldLink RX3 21 "BowWalk$Laws" "used" "I", .fieldLink RX3 9 "BowWalk$Laws" "code" "[I"]
def zw_c_put7 : List Cond := zo_c_put7 ++ (wsX30 ++ [])
theorem gz_c_put7 : zw_c_put7.all goodWord = true := p1_ga (by decide +kernel) (p1_ga gk_X3 p1_g0)
theorem iz_c_put7 : ∀ w ∈ zw_c_put7, w ∈ lw_tbl := p1_ia (p1_all [683, 153, 150] (by decide +kernel)) (p1_ia ik_X3 p1_i0)
set_option maxHeartbeats 4000000 in
set_option maxRecDepth 100000 in
theorem c_put7 (l : Launch) (dC : Nat → ClassId) (dI : Nat → Nat → Nat) (sz : Nat) (lw : Nat) (lf : List Value) (lc : Nat) (lb : Nat) (cc1 : ClassId) (cf : Nat → Int32) (a1 : Int32) (f_lf_0 : lf[0]? = some (.ref lc)) (f_lf_1 : lf[1]? = some (.ref lb)) (f_lf_3 : lf[3]? = some (.int 7)) (f_lf_4 : lf[4]? = some (.int 1)) (l_lf : lf.length = 6) : Met l yX3_put zw_c_put7 ({ frames := 0, cells := 0, slots := 0, locals := 0 }) (va_Pc [.ref lw, .int a1] (fun U => U.heap.size = sz ∧ va_P (dC, dI) vwCl [(lw, .inr (3, lf)), (lc, .inl (cc1, 600, .inl cf))] U.heap ∧ va_K (dC, dI) vwCl [(cc1, .int)] U ∧ va_D (fun _ => True) [(lw, .inr (3, lf)), (lc, .inl (cc1, 600, .inl cf))])) (va_Qi (fun (r : Int32) (_ : Unit) => r = 1) (fun _ t => ∃ (lo : List Value) (cg : Nat → Int32), lo.length = 6 ∧ lo[0]? = some (.ref lc) ∧ lo[1]? = some (.ref lb) ∧ lo[3]? = some (.int 8) ∧ lo[4]? = some (.int 1) ∧ va_P (dC, dI) vwCl [(lw, .inr (3, lo)), (lc, .inl (cc1, 600, .inl cg))] t.heap ∧ va_K (dC, dI) vwCl [] t ∧ va_D (va_A [(lw, .inr (3, lf)), (lc, .inl (cc1, 600, .inl cf))] sz) [(lw, .inr (3, lo)), (lc, .inl (cc1, 600, .inl cg))]) (va_A [(lw, .inr (3, lf)), (lc, .inl (cc1, 600, .inl cf))] sz)) 0 0 (va_A [(lw, .inr (3, lf)), (lc, .inl (cc1, 600, .inl cf))] sz) := by
  refine Met.ofW (cc := cX3_put) (maxL := 2) (ret := (some .boolean)) (by decide) rfl ?_
  intro p e s m args below meth c s₁ B hml hv
  obtain ⟨rfl, hsz, hP, hK, hD0⟩ := hv
  have hx := B.exec
  have hb := B.bytes
  have hr := B.returns
  have hts := atoms_spec (ws := zw_c_put7) B.pre
  have hown : s.vm.findClass RX3 = some m.cls := findClass_of_methodNamed B.named
  have hlocks := B.notSynchronized
  subst hsz
  have hD := hD0.self (sz := s.heap.size)
  generalize hAe : va_A [(lw, .inr (3, lf)), (lc, .inl (cc1, 600, .inl cf))] s.heap.size = A at hD ⊢
  have hA : ∀ q : Nat, s.heap.size ≤ q → A q := fun q h => by rw [← hAe]; exact Or.inr h
  have hS : va_S A s.heap s.heap [] := va_S.rf
  have hP : va_P (dC, dI) vwCl [(lw, .inr (3, lf)), (lc, .inl (cc1, 600, .inl cf))] s.heap := hP
  have m_0 : (.fieldLink RX3 21 "BowWalk$Laws" "used" "I" : Cond) ∈ zw_c_put7 := List.mem_append_left _ (List.mem_of_getElem? (i := 1) rfl)
  have k_0 := hts _ m_0
  have m_1 : (.fieldLink RX3 9 "BowWalk$Laws" "code" "[I" : Cond) ∈ zw_c_put7 := List.mem_append_left _ (List.mem_of_getElem? (i := 2) rfl)
  have k_1 := hts _ m_1
  have i_X3 : ∀ w ∈ u_ws RX3 TX3 6, w ∈ zw_c_put7 := fun w h => List.mem_append_right _ (List.mem_append_left _ h)
  have hl := lv_entry ([.ref lw, .int a1]) (n := 2) (Nat.le_of_ble_eq_true rfl)
  rw [lg_entry_eq]
  generalize (lg_sl ([.ref lw, .int a1]) ++ List.replicate (2 - (lg_sl ([.ref lw, .int a1])).length) Slot.unset).toArray = ls at hl ⊢
  have hl : lv_has ls 2 [(0, .ref lw), (1, .int a1)] := hl
  refine lv_aload_n hx hb dX3_put_0 rfl (lv_at hl 0 rfl) ?_
  refine va_get (D := (dC, dI)) (ci := 3) (v := .int 7) (C := RX3) (T := TX3) (N := 6) hx hb hts i_X3 hown hK hP 0 rfl rfl 3 (by decide) k_0 (fun _ h9 => h9) f_lf_3 dX3_put_1 ?_
  refine lv_sipush (v := 600) hx hb dX3_put_4 (by decide) ?_
  refine lv_icmp_lt (tgt := 12) hx hb dX3_put_7 (by decide) (fun _ => ?_) (fun c9 => absurd c9 (by decide))
  refine lv_aload_n hx hb dX3_put_12 rfl (lv_at hl 0 rfl) ?_
  refine va_get (D := (dC, dI)) (ci := 3) (v := .ref lc) (C := RX3) (T := TX3) (N := 6) hx hb hts i_X3 hown hK hP 0 rfl rfl 0 (by decide) k_1 (fun _ h9 => h9) f_lf_0 dX3_put_13 ?_
  refine lv_aload_n hx hb dX3_put_16 rfl (lv_at hl 0 rfl) ?_
  refine va_get (D := (dC, dI)) (ci := 3) (v := .int 7) (C := RX3) (T := TX3) (N := 6) hx hb hts i_X3 hown hK hP 0 rfl rfl 3 (by decide) k_0 (fun _ h9 => h9) f_lf_3 dX3_put_17 ?_
  refine lv_iload_n hx hb dX3_put_20 rfl (lv_at hl 1 rfl) ?_
  refine va_iast hx hb hK hP hD hS 1 0 rfl rfl (p1_in (i := 7) (n := 600) (by decide)) dX3_put_21 (fun H locs hP hD hS => ?_)
  have hP : va_P (dC, dI) vwCl [(lw, .inr (3, lf)), (lc, .inl (cc1, 600, .inl (upd cf (7 : Int32).toNatClampNeg a1)))] H := hP
  have hD : va_D A [(lw, .inr (3, lf)), (lc, .inl (cc1, 600, .inl (upd cf (7 : Int32).toNatClampNeg a1)))] := hD
  generalize eg_1 : (upd cf (7 : Int32).toNatClampNeg a1) = g_1 at hP hD
  refine lv_aload_n hx hb dX3_put_22 rfl (lv_at hl 0 rfl) ?_
  refine lv_dup hx hb dX3_put_23 rfl ?_
  refine va_get (D := (dC, dI)) (ci := 3) (v := .int 7) (C := RX3) (T := TX3) (N := 6) hx hb hts i_X3 hown hK hP 0 rfl rfl 3 (by decide) k_0 (fun _ h9 => h9) f_lf_3 dX3_put_24 ?_
  refine lv_iconst (v := 1) hx hb dX3_put_27 (by decide) ?_
  refine lv_iadd hx hb dX3_put_28 ?_
  refine lv_topi (fun v_2 ev_2 => ?_)
  obtain rfl : v_2 = 8 := ev_2.trans (by decide)
  refine va_put (D := (dC, dI)) (ci := 3) (v := .int 8) (ty := .int) (C := RX3) (T := TX3) (N := 6) hx hb hts i_X3 tyX3 tyX3_ok nmX3 hown hK hP hD hS 0 rfl rfl 3 (by decide) k_0 (fun _ h9 => h9) rfl (by decide +kernel) rfl rfl (by rw [l_lf]; decide) dX3_put_29 (fun H locs hP hD hS => ?_)
  have hP : va_P (dC, dI) vwCl [(lw, .inr (3, (lf.set 3 (.int 8)))), (lc, .inl (cc1, 600, .inl g_1))] H := hP
  have hD : va_D A [(lw, .inr (3, (lf.set 3 (.int 8)))), (lc, .inl (cc1, 600, .inl g_1))] := hD
  generalize efs_3 : (lf.set 3 (.int 8)) = fs_3 at hP hD
  have lfs_3 : fs_3.length = 6 := by rw [← efs_3, List.length_set]; exact l_lf
  have ffs_3_0 : fs_3[0]? = some (.ref lc) := by rw [← efs_3]; exact p1_sn (by decide) f_lf_0
  have ffs_3_1 : fs_3[1]? = some (.ref lb) := by rw [← efs_3]; exact p1_sn (by decide) f_lf_1
  have ffs_3_4 : fs_3[4]? = some (.int 1) := by rw [← efs_3]; exact p1_sn (by decide) f_lf_4
  have ffs_3_3 : fs_3[3]? = some (.int 8) := by rw [← efs_3]; exact p1_sa l_lf (by decide)
  refine lv_iconst (v := 1) hx hb dX3_put_32 (by decide) ?_
  have hP9 := hP.sub (ws' := [(lw, .inr (3, fs_3)), (lc, .inl (cc1, 600, .inl g_1))]) [0, 1] rfl
  have hD9 := hD.sub (ws' := [(lw, .inr (3, fs_3)), (lc, .inl (cc1, 600, .inl g_1))]) [0, 1] (by decide) rfl
  have hK9 := hK.sub (tys' := []) [] rfl
  exact W.zret (v := 1) hx hb hr (by decide) (fun t ht hW => ⟨⟨1, (), rfl, rfl, fs_3, g_1, lfs_3, ffs_3_0, ffs_3_1, ffs_3_3, ffs_3_4, by rw [ht]; exact hP9, va_K.moved hW.alike hK9, hD9⟩, hS.F ht⟩) hS.2.2 dX3_put_33
def zo_c_put8 : List Cond := [.code yX3_put cX3_put 2 (some .boolean), .fieldLink RX3 21 "BowWalk$Laws" "used" "I", .fieldLink RX3 9 "BowWalk$Laws" "code" "[I"]
def zw_c_put8 : List Cond := zo_c_put8 ++ (wsX30 ++ [])
theorem gz_c_put8 : zw_c_put8.all goodWord = true := p1_ga (by decide +kernel) (p1_ga gk_X3 p1_g0)
theorem iz_c_put8 : ∀ w ∈ zw_c_put8, w ∈ lw_tbl := p1_ia (p1_all [683, 153, 150] (by decide +kernel)) (p1_ia ik_X3 p1_i0)
set_option maxHeartbeats 4000000 in
set_option maxRecDepth 100000 in
theorem c_put8 (l : Launch) (dC : Nat → ClassId) (dI : Nat → Nat → Nat) (sz : Nat) (lw : Nat) (lf : List Value) (lc : Nat) (lb : Nat) (cc1 : ClassId) (cf : Nat → Int32) (a1 : Int32) (f_lf_0 : lf[0]? = some (.ref lc)) (f_lf_1 : lf[1]? = some (.ref lb)) (f_lf_3 : lf[3]? = some (.int 8)) (f_lf_4 : lf[4]? = some (.int 1)) (l_lf : lf.length = 6) : Met l yX3_put zw_c_put8 ({ frames := 0, cells := 0, slots := 0, locals := 0 }) (va_Pc [.ref lw, .int a1] (fun U => U.heap.size = sz ∧ va_P (dC, dI) vwCl [(lw, .inr (3, lf)), (lc, .inl (cc1, 600, .inl cf))] U.heap ∧ va_K (dC, dI) vwCl [(cc1, .int)] U ∧ va_D (fun _ => True) [(lw, .inr (3, lf)), (lc, .inl (cc1, 600, .inl cf))])) (va_Qi (fun (r : Int32) (_ : Unit) => r = 1) (fun _ t => ∃ (lo : List Value) (cg : Nat → Int32), lo.length = 6 ∧ lo[0]? = some (.ref lc) ∧ lo[1]? = some (.ref lb) ∧ lo[3]? = some (.int 9) ∧ lo[4]? = some (.int 1) ∧ va_P (dC, dI) vwCl [(lw, .inr (3, lo)), (lc, .inl (cc1, 600, .inl cg))] t.heap ∧ va_K (dC, dI) vwCl [] t ∧ va_D (va_A [(lw, .inr (3, lf)), (lc, .inl (cc1, 600, .inl cf))] sz) [(lw, .inr (3, lo)), (lc, .inl (cc1, 600, .inl cg))]) (va_A [(lw, .inr (3, lf)), (lc, .inl (cc1, 600, .inl cf))] sz)) 0 0 (va_A [(lw, .inr (3, lf)), (lc, .inl (cc1, 600, .inl cf))] sz) := by
  refine Met.ofW (cc := cX3_put) (maxL := 2) (ret := (some .boolean)) (by decide) rfl ?_
  intro p e s m args below meth c s₁ B hml hv
  obtain ⟨rfl, hsz, hP, hK, hD0⟩ := hv
  have hx := B.exec
  have hb := B.bytes
  have hr := B.returns
  have hts := atoms_spec (ws := zw_c_put8) B.pre
  have hown : s.vm.findClass RX3 = some m.cls := findClass_of_methodNamed B.named
  have hlocks := B.notSynchronized
  subst hsz
  have hD := hD0.self (sz := s.heap.size)
  generalize hAe : va_A [(lw, .inr (3, lf)), (lc, .inl (cc1, 600, .inl cf))] s.heap.size = A at hD ⊢
  have hA : ∀ q : Nat, s.heap.size ≤ q → A q := fun q h => by rw [← hAe]; exact Or.inr h
  have hS : va_S A s.heap s.heap [] := va_S.rf
  have hP : va_P (dC, dI) vwCl [(lw, .inr (3, lf)), (lc, .inl (cc1, 600, .inl cf))] s.heap := hP
  have m_0 : (.fieldLink RX3 21 "BowWalk$Laws" "used" "I" : Cond) ∈ zw_c_put8 := List.mem_append_left _ (List.mem_of_getElem? (i := 1) rfl)
  have k_0 := hts _ m_0
  have m_1 : (.fieldLink RX3 9 "BowWalk$Laws" "code" "[I" : Cond) ∈ zw_c_put8 := List.mem_append_left _ (List.mem_of_getElem? (i := 2) rfl)
  have k_1 := hts _ m_1
  have i_X3 : ∀ w ∈ u_ws RX3 TX3 6, w ∈ zw_c_put8 := fun w h => List.mem_append_right _ (List.mem_append_left _ h)
  have hl := lv_entry ([.ref lw, .int a1]) (n := 2) (Nat.le_of_ble_eq_true rfl)
  rw [lg_entry_eq]
  generalize (lg_sl ([.ref lw, .int a1]) ++ List.replicate (2 - (lg_sl ([.ref lw, .int a1])).length) Slot.unset).toArray = ls at hl ⊢
  have hl : lv_has ls 2 [(0, .ref lw), (1, .int a1)] := hl
  refine lv_aload_n hx hb dX3_put_0 rfl (lv_at hl 0 rfl) ?_
  refine va_get (D := (dC, dI)) (ci := 3) (v := .int 8) (C := RX3) (T := TX3) (N := 6) hx hb hts i_X3 hown hK hP 0 rfl rfl 3 (by decide) k_0 (fun _ h9 => h9) f_lf_3 dX3_put_1 ?_
  refine lv_sipush (v := 600) hx hb dX3_put_4 (by decide) ?_
  refine lv_icmp_lt (tgt := 12) hx hb dX3_put_7 (by decide) (fun _ => ?_) (fun c9 => absurd c9 (by decide))
  refine lv_aload_n hx hb dX3_put_12 rfl (lv_at hl 0 rfl) ?_
  refine va_get (D := (dC, dI)) (ci := 3) (v := .ref lc) (C := RX3) (T := TX3) (N := 6) hx hb hts i_X3 hown hK hP 0 rfl rfl 0 (by decide) k_1 (fun _ h9 => h9) f_lf_0 dX3_put_13 ?_
  refine lv_aload_n hx hb dX3_put_16 rfl (lv_at hl 0 rfl) ?_
  refine va_get (D := (dC, dI)) (ci := 3) (v := .int 8) (C := RX3) (T := TX3) (N := 6) hx hb hts i_X3 hown hK hP 0 rfl rfl 3 (by decide) k_0 (fun _ h9 => h9) f_lf_3 dX3_put_17 ?_
  refine lv_iload_n hx hb dX3_put_20 rfl (lv_at hl 1 rfl) ?_
  refine va_iast hx hb hK hP hD hS 1 0 rfl rfl (p1_in (i := 8) (n := 600) (by decide)) dX3_put_21 (fun H locs hP hD hS => ?_)
  have hP : va_P (dC, dI) vwCl [(lw, .inr (3, lf)), (lc, .inl (cc1, 600, .inl (upd cf (8 : Int32).toNatClampNeg a1)))] H := hP
  have hD : va_D A [(lw, .inr (3, lf)), (lc, .inl (cc1, 600, .inl (upd cf (8 : Int32).toNatClampNeg a1)))] := hD
  generalize eg_1 : (upd cf (8 : Int32).toNatClampNeg a1) = g_1 at hP hD
  refine lv_aload_n hx hb dX3_put_22 rfl (lv_at hl 0 rfl) ?_
  refine lv_dup hx hb dX3_put_23 rfl ?_
  refine va_get (D := (dC, dI)) (ci := 3) (v := .int 8) (C := RX3) (T := TX3) (N := 6) hx hb hts i_X3 hown hK hP 0 rfl rfl 3 (by decide) k_0 (fun _ h9 => h9) f_lf_3 dX3_put_24 ?_
  refine lv_iconst (v := 1) hx hb dX3_put_27 (by decide) ?_
  refine lv_iadd hx hb dX3_put_28 ?_
  refine lv_topi (fun v_2 ev_2 => ?_)
  obtain rfl : v_2 = 9 := ev_2.trans (by decide)
  refine va_put (D := (dC, dI)) (ci := 3) (v := .int 9) (ty := .int) (C := RX3) (T := TX3) (N := 6) hx hb hts i_X3 tyX3 tyX3_ok nmX3 hown hK hP hD hS 0 rfl rfl 3 (by decide) k_0 (fun _ h9 => h9) rfl (by decide +kernel) rfl rfl (by rw [l_lf]; decide) dX3_put_29 (fun H locs hP hD hS => ?_)
  have hP : va_P (dC, dI) vwCl [(lw, .inr (3, (lf.set 3 (.int 9)))), (lc, .inl (cc1, 600, .inl g_1))] H := hP
  have hD : va_D A [(lw, .inr (3, (lf.set 3 (.int 9)))), (lc, .inl (cc1, 600, .inl g_1))] := hD
  generalize efs_3 : (lf.set 3 (.int 9)) = fs_3 at hP hD
  have lfs_3 : fs_3.length = 6 := by rw [← efs_3, List.length_set]; exact l_lf
  have ffs_3_0 : fs_3[0]? = some (.ref lc) := by rw [← efs_3]; exact p1_sn (by decide) f_lf_0
  have ffs_3_1 : fs_3[1]? = some (.ref lb) := by rw [← efs_3]; exact p1_sn (by decide) f_lf_1
  have ffs_3_4 : fs_3[4]? = some (.int 1) := by rw [← efs_3]; exact p1_sn (by decide) f_lf_4
  have ffs_3_3 : fs_3[3]? = some (.int 9) := by rw [← efs_3]; exact p1_sa l_lf (by decide)
  refine lv_iconst (v := 1) hx hb dX3_put_32 (by decide) ?_
  have hP9 := hP.sub (ws' := [(lw, .inr (3, fs_3)), (lc, .inl (cc1, 600, .inl g_1))]) [0, 1] rfl
  have hD9 := hD.sub (ws' := [(lw, .inr (3, fs_3)), (lc, .inl (cc1, 600, .inl g_1))]) [0, 1] (by decide) rfl
  have hK9 := hK.sub (tys' := []) [] rfl
  exact W.zret (v := 1) hx hb hr (by decide) (fun t ht hW => ⟨⟨1, (), rfl, rfl, fs_3, g_1, lfs_3, ffs_3_0, ffs_3_1, ffs_3_3, ffs_3_4, by rw [ht]; exact hP9, va_K.moved hW.alike hK9, hD9⟩, hS.F ht⟩) hS.2.2 dX3_put_33
def zo_c_put9 : List Cond := [.code yX3_put cX3_put 2 (some .boolean), .fieldLink RX3 21 "BowWalk$Laws" "used" "I", .fieldLink RX3 9 "BowWalk$Laws" "code" "[I"]
def zw_c_put9 : List Cond := zo_c_put9 ++ (wsX30 ++ [])
theorem gz_c_put9 : zw_c_put9.all goodWord = true := p1_ga (by decide +kernel) (p1_ga gk_X3 p1_g0)
theorem iz_c_put9 : ∀ w ∈ zw_c_put9, w ∈ lw_tbl := p1_ia (p1_all [683, 153, 150] (by decide +kernel)) (p1_ia ik_X3 p1_i0)
set_option maxHeartbeats 4000000 in
set_option maxRecDepth 100000 in
theorem c_put9 (l : Launch) (dC : Nat → ClassId) (dI : Nat → Nat → Nat) (sz : Nat) (lw : Nat) (lf : List Value) (lc : Nat) (lb : Nat) (cc1 : ClassId) (cf : Nat → Int32) (a1 : Int32) (f_lf_0 : lf[0]? = some (.ref lc)) (f_lf_1 : lf[1]? = some (.ref lb)) (f_lf_3 : lf[3]? = some (.int 9)) (f_lf_4 : lf[4]? = some (.int 1)) (l_lf : lf.length = 6) : Met l yX3_put zw_c_put9 ({ frames := 0, cells := 0, slots := 0, locals := 0 }) (va_Pc [.ref lw, .int a1] (fun U => U.heap.size = sz ∧ va_P (dC, dI) vwCl [(lw, .inr (3, lf)), (lc, .inl (cc1, 600, .inl cf))] U.heap ∧ va_K (dC, dI) vwCl [(cc1, .int)] U ∧ va_D (fun _ => True) [(lw, .inr (3, lf)), (lc, .inl (cc1, 600, .inl cf))])) (va_Qi (fun (r : Int32) (_ : Unit) => r = 1) (fun _ t => ∃ (lo : List Value) (cg : Nat → Int32), lo.length = 6 ∧ lo[0]? = some (.ref lc) ∧ lo[1]? = some (.ref lb) ∧ lo[3]? = some (.int 10) ∧ lo[4]? = some (.int 1) ∧ va_P (dC, dI) vwCl [(lw, .inr (3, lo)), (lc, .inl (cc1, 600, .inl cg))] t.heap ∧ va_K (dC, dI) vwCl [] t ∧ va_D (va_A [(lw, .inr (3, lf)), (lc, .inl (cc1, 600, .inl cf))] sz) [(lw, .inr (3, lo)), (lc, .inl (cc1, 600, .inl cg))]) (va_A [(lw, .inr (3, lf)), (lc, .inl (cc1, 600, .inl cf))] sz)) 0 0 (va_A [(lw, .inr (3, lf)), (lc, .inl (cc1, 600, .inl cf))] sz) := by
  refine Met.ofW (cc := cX3_put) (maxL := 2) (ret := (some .boolean)) (by decide) rfl ?_
  intro p e s m args below meth c s₁ B hml hv
  obtain ⟨rfl, hsz, hP, hK, hD0⟩ := hv
  have hx := B.exec
  have hb := B.bytes
  have hr := B.returns
  have hts := atoms_spec (ws := zw_c_put9) B.pre
  have hown : s.vm.findClass RX3 = some m.cls := findClass_of_methodNamed B.named
  have hlocks := B.notSynchronized
  subst hsz
  have hD := hD0.self (sz := s.heap.size)
  generalize hAe : va_A [(lw, .inr (3, lf)), (lc, .inl (cc1, 600, .inl cf))] s.heap.size = A at hD ⊢
  have hA : ∀ q : Nat, s.heap.size ≤ q → A q := fun q h => by rw [← hAe]; exact Or.inr h
  have hS : va_S A s.heap s.heap [] := va_S.rf
  have hP : va_P (dC, dI) vwCl [(lw, .inr (3, lf)), (lc, .inl (cc1, 600, .inl cf))] s.heap := hP
  have m_0 : (.fieldLink RX3 21 "BowWalk$Laws" "used" "I" : Cond) ∈ zw_c_put9 := List.mem_append_left _ (List.mem_of_getElem? (i := 1) rfl)
  have k_0 := hts _ m_0
  have m_1 : (.fieldLink RX3 9 "BowWalk$Laws" "code" "[I" : Cond) ∈ zw_c_put9 := List.mem_append_left _ (List.mem_of_getElem? (i := 2) rfl)
  have k_1 := hts _ m_1
  have i_X3 : ∀ w ∈ u_ws RX3 TX3 6, w ∈ zw_c_put9 := fun w h => List.mem_append_right _ (List.mem_append_left _ h)
  have hl := lv_entry ([.ref lw, .int a1]) (n := 2) (Nat.le_of_ble_eq_true rfl)
  rw [lg_entry_eq]
  generalize (lg_sl ([.ref lw, .int a1]) ++ List.replicate (2 - (lg_sl ([.ref lw, .int a1])).length) Slot.unset).toArray = ls at hl ⊢
  have hl : lv_has ls 2 [(0, .ref lw), (1, .int a1)] := hl
  refine lv_aload_n hx hb dX3_put_0 rfl (lv_at hl 0 rfl) ?_
  refine va_get (D := (dC, dI)) (ci := 3) (v := .int 9) (C := RX3) (T := TX3) (N := 6) hx hb hts i_X3 hown hK hP 0 rfl rfl 3 (by decide) k_0 (fun _ h9 => h9) f_lf_3 dX3_put_1 ?_
  refine lv_sipush (v := 600) hx hb dX3_put_4 (by decide) ?_
  refine lv_icmp_lt (tgt := 12) hx hb dX3_put_7 (by decide) (fun _ => ?_) (fun c9 => absurd c9 (by decide))
  refine lv_aload_n hx hb dX3_put_12 rfl (lv_at hl 0 rfl) ?_
  refine va_get (D := (dC, dI)) (ci := 3) (v := .ref lc) (C := RX3) (T := TX3) (N := 6) hx hb hts i_X3 hown hK hP 0 rfl rfl 0 (by decide) k_1 (fun _ h9 => h9) f_lf_0 dX3_put_13 ?_
  refine lv_aload_n hx hb dX3_put_16 rfl (lv_at hl 0 rfl) ?_
  refine va_get (D := (dC, dI)) (ci := 3) (v := .int 9) (C := RX3) (T := TX3) (N := 6) hx hb hts i_X3 hown hK hP 0 rfl rfl 3 (by decide) k_0 (fun _ h9 => h9) f_lf_3 dX3_put_17 ?_
  refine lv_iload_n hx hb dX3_put_20 rfl (lv_at hl 1 rfl) ?_
  refine va_iast hx hb hK hP hD hS 1 0 rfl rfl (p1_in (i := 9) (n := 600) (by decide)) dX3_put_21 (fun H locs hP hD hS => ?_)
  have hP : va_P (dC, dI) vwCl [(lw, .inr (3, lf)), (lc, .inl (cc1, 600, .inl (upd cf (9 : Int32).toNatClampNeg a1)))] H := hP
  have hD : va_D A [(lw, .inr (3, lf)), (lc, .inl (cc1, 600, .inl (upd cf (9 : Int32).toNatClampNeg a1)))] := hD
  generalize eg_1 : (upd cf (9 : Int32).toNatClampNeg a1) = g_1 at hP hD
  refine lv_aload_n hx hb dX3_put_22 rfl (lv_at hl 0 rfl) ?_
  refine lv_dup hx hb dX3_put_23 rfl ?_
  refine va_get (D := (dC, dI)) (ci := 3) (v := .int 9) (C := RX3) (T := TX3) (N := 6) hx hb hts i_X3 hown hK hP 0 rfl rfl 3 (by decide) k_0 (fun _ h9 => h9) f_lf_3 dX3_put_24 ?_
  refine lv_iconst (v := 1) hx hb dX3_put_27 (by decide) ?_
  refine lv_iadd hx hb dX3_put_28 ?_
  refine lv_topi (fun v_2 ev_2 => ?_)
  obtain rfl : v_2 = 10 := ev_2.trans (by decide)
  refine va_put (D := (dC, dI)) (ci := 3) (v := .int 10) (ty := .int) (C := RX3) (T := TX3) (N := 6) hx hb hts i_X3 tyX3 tyX3_ok nmX3 hown hK hP hD hS 0 rfl rfl 3 (by decide) k_0 (fun _ h9 => h9) rfl (by decide +kernel) rfl rfl (by rw [l_lf]; decide) dX3_put_29 (fun H locs hP hD hS => ?_)
  have hP : va_P (dC, dI) vwCl [(lw, .inr (3, (lf.set 3 (.int 10)))), (lc, .inl (cc1, 600, .inl g_1))] H := hP
  have hD : va_D A [(lw, .inr (3, (lf.set 3 (.int 10)))), (lc, .inl (cc1, 600, .inl g_1))] := hD
  generalize efs_3 : (lf.set 3 (.int 10)) = fs_3 at hP hD
  have lfs_3 : fs_3.length = 6 := by rw [← efs_3, List.length_set]; exact l_lf
  have ffs_3_0 : fs_3[0]? = some (.ref lc) := by rw [← efs_3]; exact p1_sn (by decide) f_lf_0
  have ffs_3_1 : fs_3[1]? = some (.ref lb) := by rw [← efs_3]; exact p1_sn (by decide) f_lf_1
  have ffs_3_4 : fs_3[4]? = some (.int 1) := by rw [← efs_3]; exact p1_sn (by decide) f_lf_4
  have ffs_3_3 : fs_3[3]? = some (.int 10) := by rw [← efs_3]; exact p1_sa l_lf (by decide)
  refine lv_iconst (v := 1) hx hb dX3_put_32 (by decide) ?_
  have hP9 := hP.sub (ws' := [(lw, .inr (3, fs_3)), (lc, .inl (cc1, 600, .inl g_1))]) [0, 1] rfl
  have hD9 := hD.sub (ws' := [(lw, .inr (3, fs_3)), (lc, .inl (cc1, 600, .inl g_1))]) [0, 1] (by decide) rfl
  have hK9 := hK.sub (tys' := []) [] rfl
  exact W.zret (v := 1) hx hb hr (by decide) (fun t ht hW => ⟨⟨1, (), rfl, rfl, fs_3, g_1, lfs_3, ffs_3_0, ffs_3_1, ffs_3_3, ffs_3_4, by rw [ht]; exact hP9, va_K.moved hW.alike hK9, hD9⟩, hS.F ht⟩) hS.2.2 dX3_put_33
def zo_c_put10 : List Cond := [.code yX3_put cX3_put 2 (some .boolean), .fieldLink RX3 21 "BowWalk$Laws" "used" "I", .fieldLink RX3 9 "BowWalk$Laws" "code" "[I"]
def zw_c_put10 : List Cond := zo_c_put10 ++ (wsX30 ++ [])
theorem gz_c_put10 : zw_c_put10.all goodWord = true := p1_ga (by decide +kernel) (p1_ga gk_X3 p1_g0)
theorem iz_c_put10 : ∀ w ∈ zw_c_put10, w ∈ lw_tbl := p1_ia (p1_all [683, 153, 150] (by decide +kernel)) (p1_ia ik_X3 p1_i0)
set_option maxHeartbeats 4000000 in
set_option maxRecDepth 100000 in
theorem c_put10 (l : Launch) (dC : Nat → ClassId) (dI : Nat → Nat → Nat) (sz : Nat) (lw : Nat) (lf : List Value) (lc : Nat) (lb : Nat) (cc1 : ClassId) (cf : Nat → Int32) (a1 : Int32) (f_lf_0 : lf[0]? = some (.ref lc)) (f_lf_1 : lf[1]? = some (.ref lb)) (f_lf_3 : lf[3]? = some (.int 10)) (f_lf_4 : lf[4]? = some (.int 1)) (l_lf : lf.length = 6) : Met l yX3_put zw_c_put10 ({ frames := 0, cells := 0, slots := 0, locals := 0 }) (va_Pc [.ref lw, .int a1] (fun U => U.heap.size = sz ∧ va_P (dC, dI) vwCl [(lw, .inr (3, lf)), (lc, .inl (cc1, 600, .inl cf))] U.heap ∧ va_K (dC, dI) vwCl [(cc1, .int)] U ∧ va_D (fun _ => True) [(lw, .inr (3, lf)), (lc, .inl (cc1, 600, .inl cf))])) (va_Qi (fun (r : Int32) (_ : Unit) => r = 1) (fun _ t => ∃ (lo : List Value) (cg : Nat → Int32), lo.length = 6 ∧ lo[0]? = some (.ref lc) ∧ lo[1]? = some (.ref lb) ∧ lo[3]? = some (.int 11) ∧ lo[4]? = some (.int 1) ∧ va_P (dC, dI) vwCl [(lw, .inr (3, lo)), (lc, .inl (cc1, 600, .inl cg))] t.heap ∧ va_K (dC, dI) vwCl [] t ∧ va_D (va_A [(lw, .inr (3, lf)), (lc, .inl (cc1, 600, .inl cf))] sz) [(lw, .inr (3, lo)), (lc, .inl (cc1, 600, .inl cg))]) (va_A [(lw, .inr (3, lf)), (lc, .inl (cc1, 600, .inl cf))] sz)) 0 0 (va_A [(lw, .inr (3, lf)), (lc, .inl (cc1, 600, .inl cf))] sz) := by
  refine Met.ofW (cc := cX3_put) (maxL := 2) (ret := (some .boolean)) (by decide) rfl ?_
  intro p e s m args below meth c s₁ B hml hv
  obtain ⟨rfl, hsz, hP, hK, hD0⟩ := hv
  have hx := B.exec
  have hb := B.bytes
  have hr := B.returns
  have hts := atoms_spec (ws := zw_c_put10) B.pre
  have hown : s.vm.findClass RX3 = some m.cls := findClass_of_methodNamed B.named
  have hlocks := B.notSynchronized
  subst hsz
  have hD := hD0.self (sz := s.heap.size)
  generalize hAe : va_A [(lw, .inr (3, lf)), (lc, .inl (cc1, 600, .inl cf))] s.heap.size = A at hD ⊢
  have hA : ∀ q : Nat, s.heap.size ≤ q → A q := fun q h => by rw [← hAe]; exact Or.inr h
  have hS : va_S A s.heap s.heap [] := va_S.rf
  have hP : va_P (dC, dI) vwCl [(lw, .inr (3, lf)), (lc, .inl (cc1, 600, .inl cf))] s.heap := hP
  have m_0 : (.fieldLink RX3 21 "BowWalk$Laws" "used" "I" : Cond) ∈ zw_c_put10 := List.mem_append_left _ (List.mem_of_getElem? (i := 1) rfl)
  have k_0 := hts _ m_0
  have m_1 : (.fieldLink RX3 9 "BowWalk$Laws" "code" "[I" : Cond) ∈ zw_c_put10 := List.mem_append_left _ (List.mem_of_getElem? (i := 2) rfl)
  have k_1 := hts _ m_1
  have i_X3 : ∀ w ∈ u_ws RX3 TX3 6, w ∈ zw_c_put10 := fun w h => List.mem_append_right _ (List.mem_append_left _ h)
  have hl := lv_entry ([.ref lw, .int a1]) (n := 2) (Nat.le_of_ble_eq_true rfl)
  rw [lg_entry_eq]
  generalize (lg_sl ([.ref lw, .int a1]) ++ List.replicate (2 - (lg_sl ([.ref lw, .int a1])).length) Slot.unset).toArray = ls at hl ⊢
  have hl : lv_has ls 2 [(0, .ref lw), (1, .int a1)] := hl
  refine lv_aload_n hx hb dX3_put_0 rfl (lv_at hl 0 rfl) ?_
  refine va_get (D := (dC, dI)) (ci := 3) (v := .int 10) (C := RX3) (T := TX3) (N := 6) hx hb hts i_X3 hown hK hP 0 rfl rfl 3 (by decide) k_0 (fun _ h9 => h9) f_lf_3 dX3_put_1 ?_
  refine lv_sipush (v := 600) hx hb dX3_put_4 (by decide) ?_
  refine lv_icmp_lt (tgt := 12) hx hb dX3_put_7 (by decide) (fun _ => ?_) (fun c9 => absurd c9 (by decide))
  refine lv_aload_n hx hb dX3_put_12 rfl (lv_at hl 0 rfl) ?_
  refine va_get (D := (dC, dI)) (ci := 3) (v := .ref lc) (C := RX3) (T := TX3) (N := 6) hx hb hts i_X3 hown hK hP 0 rfl rfl 0 (by decide) k_1 (fun _ h9 => h9) f_lf_0 dX3_put_13 ?_
  refine lv_aload_n hx hb dX3_put_16 rfl (lv_at hl 0 rfl) ?_
  refine va_get (D := (dC, dI)) (ci := 3) (v := .int 10) (C := RX3) (T := TX3) (N := 6) hx hb hts i_X3 hown hK hP 0 rfl rfl 3 (by decide) k_0 (fun _ h9 => h9) f_lf_3 dX3_put_17 ?_
  refine lv_iload_n hx hb dX3_put_20 rfl (lv_at hl 1 rfl) ?_
  refine va_iast hx hb hK hP hD hS 1 0 rfl rfl (p1_in (i := 10) (n := 600) (by decide)) dX3_put_21 (fun H locs hP hD hS => ?_)
  have hP : va_P (dC, dI) vwCl [(lw, .inr (3, lf)), (lc, .inl (cc1, 600, .inl (upd cf (10 : Int32).toNatClampNeg a1)))] H := hP
  have hD : va_D A [(lw, .inr (3, lf)), (lc, .inl (cc1, 600, .inl (upd cf (10 : Int32).toNatClampNeg a1)))] := hD
  generalize eg_1 : (upd cf (10 : Int32).toNatClampNeg a1) = g_1 at hP hD
  refine lv_aload_n hx hb dX3_put_22 rfl (lv_at hl 0 rfl) ?_
  refine lv_dup hx hb dX3_put_23 rfl ?_
  refine va_get (D := (dC, dI)) (ci := 3) (v := .int 10) (C := RX3) (T := TX3) (N := 6) hx hb hts i_X3 hown hK hP 0 rfl rfl 3 (by decide) k_0 (fun _ h9 => h9) f_lf_3 dX3_put_24 ?_
  refine lv_iconst (v := 1) hx hb dX3_put_27 (by decide) ?_
  refine lv_iadd hx hb dX3_put_28 ?_
  refine lv_topi (fun v_2 ev_2 => ?_)
  obtain rfl : v_2 = 11 := ev_2.trans (by decide)
  refine va_put (D := (dC, dI)) (ci := 3) (v := .int 11) (ty := .int) (C := RX3) (T := TX3) (N := 6) hx hb hts i_X3 tyX3 tyX3_ok nmX3 hown hK hP hD hS 0 rfl rfl 3 (by decide) k_0 (fun _ h9 => h9) rfl (by decide +kernel) rfl rfl (by rw [l_lf]; decide) dX3_put_29 (fun H locs hP hD hS => ?_)
  have hP : va_P (dC, dI) vwCl [(lw, .inr (3, (lf.set 3 (.int 11)))), (lc, .inl (cc1, 600, .inl g_1))] H := hP
  have hD : va_D A [(lw, .inr (3, (lf.set 3 (.int 11)))), (lc, .inl (cc1, 600, .inl g_1))] := hD
  generalize efs_3 : (lf.set 3 (.int 11)) = fs_3 at hP hD
  have lfs_3 : fs_3.length = 6 := by rw [← efs_3, List.length_set]; exact l_lf
  have ffs_3_0 : fs_3[0]? = some (.ref lc) := by rw [← efs_3]; exact p1_sn (by decide) f_lf_0
  have ffs_3_1 : fs_3[1]? = some (.ref lb) := by rw [← efs_3]; exact p1_sn (by decide) f_lf_1
  have ffs_3_4 : fs_3[4]? = some (.int 1) := by rw [← efs_3]; exact p1_sn (by decide) f_lf_4
  have ffs_3_3 : fs_3[3]? = some (.int 11) := by rw [← efs_3]; exact p1_sa l_lf (by decide)
  refine lv_iconst (v := 1) hx hb dX3_put_32 (by decide) ?_
  have hP9 := hP.sub (ws' := [(lw, .inr (3, fs_3)), (lc, .inl (cc1, 600, .inl g_1))]) [0, 1] rfl
  have hD9 := hD.sub (ws' := [(lw, .inr (3, fs_3)), (lc, .inl (cc1, 600, .inl g_1))]) [0, 1] (by decide) rfl
  have hK9 := hK.sub (tys' := []) [] rfl
  exact W.zret (v := 1) hx hb hr (by decide) (fun t ht hW => ⟨⟨1, (), rfl, rfl, fs_3, g_1, lfs_3, ffs_3_0, ffs_3_1, ffs_3_3, ffs_3_4, by rw [ht]; exact hP9, va_K.moved hW.alike hK9, hD9⟩, hS.F ht⟩) hS.2.2 dX3_put_33
def zo_c_put11 : List Cond := [.code yX3_put cX3_put 2 (some .boolean), .fieldLink RX3 21 "BowWalk$Laws" "used" "I", .fieldLink RX3 9 "BowWalk$Laws" "code" "[I"]
def zw_c_put11 : List Cond := zo_c_put11 ++ (wsX30 ++ [])
theorem gz_c_put11 : zw_c_put11.all goodWord = true := p1_ga (by decide +kernel) (p1_ga gk_X3 p1_g0)
theorem iz_c_put11 : ∀ w ∈ zw_c_put11, w ∈ lw_tbl := p1_ia (p1_all [683, 153, 150] (by decide +kernel)) (p1_ia ik_X3 p1_i0)
set_option maxHeartbeats 4000000 in
set_option maxRecDepth 100000 in
theorem c_put11 (l : Launch) (dC : Nat → ClassId) (dI : Nat → Nat → Nat) (sz : Nat) (lw : Nat) (lf : List Value) (lc : Nat) (lb : Nat) (cc1 : ClassId) (cf : Nat → Int32) (a1 : Int32) (f_lf_0 : lf[0]? = some (.ref lc)) (f_lf_1 : lf[1]? = some (.ref lb)) (f_lf_3 : lf[3]? = some (.int 11)) (f_lf_4 : lf[4]? = some (.int 1)) (l_lf : lf.length = 6) : Met l yX3_put zw_c_put11 ({ frames := 0, cells := 0, slots := 0, locals := 0 }) (va_Pc [.ref lw, .int a1] (fun U => U.heap.size = sz ∧ va_P (dC, dI) vwCl [(lw, .inr (3, lf)), (lc, .inl (cc1, 600, .inl cf))] U.heap ∧ va_K (dC, dI) vwCl [(cc1, .int)] U ∧ va_D (fun _ => True) [(lw, .inr (3, lf)), (lc, .inl (cc1, 600, .inl cf))])) (va_Qi (fun (r : Int32) (_ : Unit) => r = 1) (fun _ t => ∃ (lo : List Value) (cg : Nat → Int32), lo.length = 6 ∧ lo[0]? = some (.ref lc) ∧ lo[1]? = some (.ref lb) ∧ lo[3]? = some (.int 12) ∧ lo[4]? = some (.int 1) ∧ va_P (dC, dI) vwCl [(lw, .inr (3, lo)), (lc, .inl (cc1, 600, .inl cg))] t.heap ∧ va_K (dC, dI) vwCl [] t ∧ va_D (va_A [(lw, .inr (3, lf)), (lc, .inl (cc1, 600, .inl cf))] sz) [(lw, .inr (3, lo)), (lc, .inl (cc1, 600, .inl cg))]) (va_A [(lw, .inr (3, lf)), (lc, .inl (cc1, 600, .inl cf))] sz)) 0 0 (va_A [(lw, .inr (3, lf)), (lc, .inl (cc1, 600, .inl cf))] sz) := by
  refine Met.ofW (cc := cX3_put) (maxL := 2) (ret := (some .boolean)) (by decide) rfl ?_
  intro p e s m args below meth c s₁ B hml hv
  obtain ⟨rfl, hsz, hP, hK, hD0⟩ := hv
  have hx := B.exec
  have hb := B.bytes
  have hr := B.returns
  have hts := atoms_spec (ws := zw_c_put11) B.pre
  have hown : s.vm.findClass RX3 = some m.cls := findClass_of_methodNamed B.named
  have hlocks := B.notSynchronized
  subst hsz
  have hD := hD0.self (sz := s.heap.size)
  generalize hAe : va_A [(lw, .inr (3, lf)), (lc, .inl (cc1, 600, .inl cf))] s.heap.size = A at hD ⊢
  have hA : ∀ q : Nat, s.heap.size ≤ q → A q := fun q h => by rw [← hAe]; exact Or.inr h
  have hS : va_S A s.heap s.heap [] := va_S.rf
  have hP : va_P (dC, dI) vwCl [(lw, .inr (3, lf)), (lc, .inl (cc1, 600, .inl cf))] s.heap := hP
  have m_0 : (.fieldLink RX3 21 "BowWalk$Laws" "used" "I" : Cond) ∈ zw_c_put11 := List.mem_append_left _ (List.mem_of_getElem? (i := 1) rfl)
  have k_0 := hts _ m_0
  have m_1 : (.fieldLink RX3 9 "BowWalk$Laws" "code" "[I" : Cond) ∈ zw_c_put11 := List.mem_append_left _ (List.mem_of_getElem? (i := 2) rfl)
  have k_1 := hts _ m_1
  have i_X3 : ∀ w ∈ u_ws RX3 TX3 6, w ∈ zw_c_put11 := fun w h => List.mem_append_right _ (List.mem_append_left _ h)
  have hl := lv_entry ([.ref lw, .int a1]) (n := 2) (Nat.le_of_ble_eq_true rfl)
  rw [lg_entry_eq]
  generalize (lg_sl ([.ref lw, .int a1]) ++ List.replicate (2 - (lg_sl ([.ref lw, .int a1])).length) Slot.unset).toArray = ls at hl ⊢
  have hl : lv_has ls 2 [(0, .ref lw), (1, .int a1)] := hl
  refine lv_aload_n hx hb dX3_put_0 rfl (lv_at hl 0 rfl) ?_
  refine va_get (D := (dC, dI)) (ci := 3) (v := .int 11) (C := RX3) (T := TX3) (N := 6) hx hb hts i_X3 hown hK hP 0 rfl rfl 3 (by decide) k_0 (fun _ h9 => h9) f_lf_3 dX3_put_1 ?_
  refine lv_sipush (v := 600) hx hb dX3_put_4 (by decide) ?_
  refine lv_icmp_lt (tgt := 12) hx hb dX3_put_7 (by decide) (fun _ => ?_) (fun c9 => absurd c9 (by decide))
  refine lv_aload_n hx hb dX3_put_12 rfl (lv_at hl 0 rfl) ?_
  refine va_get (D := (dC, dI)) (ci := 3) (v := .ref lc) (C := RX3) (T := TX3) (N := 6) hx hb hts i_X3 hown hK hP 0 rfl rfl 0 (by decide) k_1 (fun _ h9 => h9) f_lf_0 dX3_put_13 ?_
  refine lv_aload_n hx hb dX3_put_16 rfl (lv_at hl 0 rfl) ?_
  refine va_get (D := (dC, dI)) (ci := 3) (v := .int 11) (C := RX3) (T := TX3) (N := 6) hx hb hts i_X3 hown hK hP 0 rfl rfl 3 (by decide) k_0 (fun _ h9 => h9) f_lf_3 dX3_put_17 ?_
  refine lv_iload_n hx hb dX3_put_20 rfl (lv_at hl 1 rfl) ?_
  refine va_iast hx hb hK hP hD hS 1 0 rfl rfl (p1_in (i := 11) (n := 600) (by decide)) dX3_put_21 (fun H locs hP hD hS => ?_)
  have hP : va_P (dC, dI) vwCl [(lw, .inr (3, lf)), (lc, .inl (cc1, 600, .inl (upd cf (11 : Int32).toNatClampNeg a1)))] H := hP
  have hD : va_D A [(lw, .inr (3, lf)), (lc, .inl (cc1, 600, .inl (upd cf (11 : Int32).toNatClampNeg a1)))] := hD
  generalize eg_1 : (upd cf (11 : Int32).toNatClampNeg a1) = g_1 at hP hD
  refine lv_aload_n hx hb dX3_put_22 rfl (lv_at hl 0 rfl) ?_
  refine lv_dup hx hb dX3_put_23 rfl ?_
  refine va_get (D := (dC, dI)) (ci := 3) (v := .int 11) (C := RX3) (T := TX3) (N := 6) hx hb hts i_X3 hown hK hP 0 rfl rfl 3 (by decide) k_0 (fun _ h9 => h9) f_lf_3 dX3_put_24 ?_
  refine lv_iconst (v := 1) hx hb dX3_put_27 (by decide) ?_
  refine lv_iadd hx hb dX3_put_28 ?_
  refine lv_topi (fun v_2 ev_2 => ?_)
  obtain rfl : v_2 = 12 := ev_2.trans (by decide)
  refine va_put (D := (dC, dI)) (ci := 3) (v := .int 12) (ty := .int) (C := RX3) (T := TX3) (N := 6) hx hb hts i_X3 tyX3 tyX3_ok nmX3 hown hK hP hD hS 0 rfl rfl 3 (by decide) k_0 (fun _ h9 => h9) rfl (by decide +kernel) rfl rfl (by rw [l_lf]; decide) dX3_put_29 (fun H locs hP hD hS => ?_)
  have hP : va_P (dC, dI) vwCl [(lw, .inr (3, (lf.set 3 (.int 12)))), (lc, .inl (cc1, 600, .inl g_1))] H := hP
  have hD : va_D A [(lw, .inr (3, (lf.set 3 (.int 12)))), (lc, .inl (cc1, 600, .inl g_1))] := hD
  generalize efs_3 : (lf.set 3 (.int 12)) = fs_3 at hP hD
  have lfs_3 : fs_3.length = 6 := by rw [← efs_3, List.length_set]; exact l_lf
  have ffs_3_0 : fs_3[0]? = some (.ref lc) := by rw [← efs_3]; exact p1_sn (by decide) f_lf_0
  have ffs_3_1 : fs_3[1]? = some (.ref lb) := by rw [← efs_3]; exact p1_sn (by decide) f_lf_1
  have ffs_3_4 : fs_3[4]? = some (.int 1) := by rw [← efs_3]; exact p1_sn (by decide) f_lf_4
  have ffs_3_3 : fs_3[3]? = some (.int 12) := by rw [← efs_3]; exact p1_sa l_lf (by decide)
  refine lv_iconst (v := 1) hx hb dX3_put_32 (by decide) ?_
  have hP9 := hP.sub (ws' := [(lw, .inr (3, fs_3)), (lc, .inl (cc1, 600, .inl g_1))]) [0, 1] rfl
  have hD9 := hD.sub (ws' := [(lw, .inr (3, fs_3)), (lc, .inl (cc1, 600, .inl g_1))]) [0, 1] (by decide) rfl
  have hK9 := hK.sub (tys' := []) [] rfl
  exact W.zret (v := 1) hx hb hr (by decide) (fun t ht hW => ⟨⟨1, (), rfl, rfl, fs_3, g_1, lfs_3, ffs_3_0, ffs_3_1, ffs_3_3, ffs_3_4, by rw [ht]; exact hP9, va_K.moved hW.alike hK9, hD9⟩, hS.F ht⟩) hS.2.2 dX3_put_33
def zo_c_endRow0 : List Cond := [.code yX3_endRow cX3_endRow 1 (some .boolean), .fieldLink RX3 25 "BowWalk$Laws" "rows" "I", .fieldLink RX3 15 "BowWalk$Laws" "behind" "[I", .fieldLink RX3 21 "BowWalk$Laws" "used" "I"]
def zw_c_endRow0 : List Cond := zo_c_endRow0 ++ (wsX30 ++ [])
theorem gz_c_endRow0 : zw_c_endRow0.all goodWord = true := p1_ga (by decide +kernel) (p1_ga gk_X3 p1_g0)
theorem iz_c_endRow0 : ∀ w ∈ zw_c_endRow0, w ∈ lw_tbl := p1_ia (p1_all [687, 154, 151, 153] (by decide +kernel)) (p1_ia ik_X3 p1_i0)
set_option maxHeartbeats 4000000 in
set_option maxRecDepth 100000 in
theorem c_endRow0 (l : Launch) (dC : Nat → ClassId) (dI : Nat → Nat → Nat) (sz : Nat) (lw : Nat) (lf : List Value) (lc : Nat) (lb : Nat) (cb1 : ClassId) (bf : Nat → Int32) (f_lf_0 : lf[0]? = some (.ref lc)) (f_lf_1 : lf[1]? = some (.ref lb)) (f_lf_3 : lf[3]? = some (.int 5)) (f_lf_4 : lf[4]? = some (.int 0)) (l_lf : lf.length = 6) : Met l yX3_endRow zw_c_endRow0 ({ frames := 0, cells := 0, slots := 0, locals := 0 }) (va_Pc [.ref lw] (fun U => U.heap.size = sz ∧ va_P (dC, dI) vwCl [(lw, .inr (3, lf)), (lb, .inl (cb1, 6, .inl bf))] U.heap ∧ va_K (dC, dI) vwCl [(cb1, .int)] U ∧ va_D (fun _ => True) [(lw, .inr (3, lf)), (lb, .inl (cb1, 6, .inl bf))])) (va_Qi (fun (r : Int32) (_ : Unit) => r = 1) (fun _ t => ∃ (lo : List Value) (bg : Nat → Int32), lo.length = 6 ∧ lo[0]? = some (.ref lc) ∧ lo[1]? = some (.ref lb) ∧ lo[3]? = some (.int 5) ∧ lo[4]? = some (.int 1) ∧ va_P (dC, dI) vwCl [(lw, .inr (3, lo)), (lb, .inl (cb1, 6, .inl bg))] t.heap ∧ va_K (dC, dI) vwCl [] t ∧ va_D (va_A [(lw, .inr (3, lf)), (lb, .inl (cb1, 6, .inl bf))] sz) [(lw, .inr (3, lo)), (lb, .inl (cb1, 6, .inl bg))]) (va_A [(lw, .inr (3, lf)), (lb, .inl (cb1, 6, .inl bf))] sz)) 0 0 (va_A [(lw, .inr (3, lf)), (lb, .inl (cb1, 6, .inl bf))] sz) := by
  refine Met.ofW (cc := cX3_endRow) (maxL := 1) (ret := (some .boolean)) (by decide) rfl ?_
  intro p e s m args below meth c s₁ B hml hv
  obtain ⟨rfl, hsz, hP, hK, hD0⟩ := hv
  have hx := B.exec
  have hb := B.bytes
  have hr := B.returns
  have hts := atoms_spec (ws := zw_c_endRow0) B.pre
  have hown : s.vm.findClass RX3 = some m.cls := findClass_of_methodNamed B.named
  have hlocks := B.notSynchronized
  subst hsz
  have hD := hD0.self (sz := s.heap.size)
  generalize hAe : va_A [(lw, .inr (3, lf)), (lb, .inl (cb1, 6, .inl bf))] s.heap.size = A at hD ⊢
  have hA : ∀ q : Nat, s.heap.size ≤ q → A q := fun q h => by rw [← hAe]; exact Or.inr h
  have hS : va_S A s.heap s.heap [] := va_S.rf
  have hP : va_P (dC, dI) vwCl [(lw, .inr (3, lf)), (lb, .inl (cb1, 6, .inl bf))] s.heap := hP
  have m_0 : (.fieldLink RX3 25 "BowWalk$Laws" "rows" "I" : Cond) ∈ zw_c_endRow0 := List.mem_append_left _ (List.mem_of_getElem? (i := 1) rfl)
  have k_0 := hts _ m_0
  have m_1 : (.fieldLink RX3 15 "BowWalk$Laws" "behind" "[I" : Cond) ∈ zw_c_endRow0 := List.mem_append_left _ (List.mem_of_getElem? (i := 2) rfl)
  have k_1 := hts _ m_1
  have m_2 : (.fieldLink RX3 21 "BowWalk$Laws" "used" "I" : Cond) ∈ zw_c_endRow0 := List.mem_append_left _ (List.mem_of_getElem? (i := 3) rfl)
  have k_2 := hts _ m_2
  have i_X3 : ∀ w ∈ u_ws RX3 TX3 6, w ∈ zw_c_endRow0 := fun w h => List.mem_append_right _ (List.mem_append_left _ h)
  have hl := lv_entry ([.ref lw]) (n := 1) (Nat.le_of_ble_eq_true rfl)
  rw [lg_entry_eq]
  generalize (lg_sl ([.ref lw]) ++ List.replicate (1 - (lg_sl ([.ref lw])).length) Slot.unset).toArray = ls at hl ⊢
  have hl : lv_has ls 1 [(0, .ref lw)] := hl
  refine lv_aload_n hx hb dX3_endRow_0 rfl (lv_at hl 0 rfl) ?_
  refine va_get (D := (dC, dI)) (ci := 3) (v := .int 0) (C := RX3) (T := TX3) (N := 6) hx hb hts i_X3 hown hK hP 0 rfl rfl 4 (by decide) k_0 (fun _ h9 => h9) f_lf_4 dX3_endRow_1 ?_
  refine lv_aload_n hx hb dX3_endRow_4 rfl (lv_at hl 0 rfl) ?_
  refine va_get (D := (dC, dI)) (ci := 3) (v := .ref lb) (C := RX3) (T := TX3) (N := 6) hx hb hts i_X3 hown hK hP 0 rfl rfl 1 (by decide) k_1 (fun _ h9 => h9) f_lf_1 dX3_endRow_5 ?_
  refine va_alen (v := 6) hx hb hK hP 1 0 rfl rfl rfl dX3_endRow_8 ?_
  refine lv_icmp_lt (tgt := 14) hx hb dX3_endRow_9 (by decide) (fun _ => ?_) (fun c9 => absurd c9 (by decide))
  refine lv_aload_n hx hb dX3_endRow_14 rfl (lv_at hl 0 rfl) ?_
  refine va_get (D := (dC, dI)) (ci := 3) (v := .ref lb) (C := RX3) (T := TX3) (N := 6) hx hb hts i_X3 hown hK hP 0 rfl rfl 1 (by decide) k_1 (fun _ h9 => h9) f_lf_1 dX3_endRow_15 ?_
  refine lv_aload_n hx hb dX3_endRow_18 rfl (lv_at hl 0 rfl) ?_
  refine va_get (D := (dC, dI)) (ci := 3) (v := .int 0) (C := RX3) (T := TX3) (N := 6) hx hb hts i_X3 hown hK hP 0 rfl rfl 4 (by decide) k_0 (fun _ h9 => h9) f_lf_4 dX3_endRow_19 ?_
  refine lv_aload_n hx hb dX3_endRow_22 rfl (lv_at hl 0 rfl) ?_
  refine va_get (D := (dC, dI)) (ci := 3) (v := .int 5) (C := RX3) (T := TX3) (N := 6) hx hb hts i_X3 hown hK hP 0 rfl rfl 3 (by decide) k_2 (fun _ h9 => h9) f_lf_3 dX3_endRow_23 ?_
  refine va_iast hx hb hK hP hD hS 1 0 rfl rfl (p1_in (i := 0) (n := 6) (by decide)) dX3_endRow_26 (fun H locs hP hD hS => ?_)
  have hP : va_P (dC, dI) vwCl [(lw, .inr (3, lf)), (lb, .inl (cb1, 6, .inl (upd bf (0 : Int32).toNatClampNeg 5)))] H := hP
  have hD : va_D A [(lw, .inr (3, lf)), (lb, .inl (cb1, 6, .inl (upd bf (0 : Int32).toNatClampNeg 5)))] := hD
  generalize eg_1 : (upd bf (0 : Int32).toNatClampNeg 5) = g_1 at hP hD
  refine lv_aload_n hx hb dX3_endRow_27 rfl (lv_at hl 0 rfl) ?_
  refine lv_dup hx hb dX3_endRow_28 rfl ?_
  refine va_get (D := (dC, dI)) (ci := 3) (v := .int 0) (C := RX3) (T := TX3) (N := 6) hx hb hts i_X3 hown hK hP 0 rfl rfl 4 (by decide) k_0 (fun _ h9 => h9) f_lf_4 dX3_endRow_29 ?_
  refine lv_iconst (v := 1) hx hb dX3_endRow_32 (by decide) ?_
  refine lv_iadd hx hb dX3_endRow_33 ?_
  refine lv_topi (fun v_2 ev_2 => ?_)
  obtain rfl : v_2 = 1 := ev_2.trans (by decide)
  refine va_put (D := (dC, dI)) (ci := 3) (v := .int 1) (ty := .int) (C := RX3) (T := TX3) (N := 6) hx hb hts i_X3 tyX3 tyX3_ok nmX3 hown hK hP hD hS 0 rfl rfl 4 (by decide) k_0 (fun _ h9 => h9) rfl (by decide +kernel) rfl rfl (by rw [l_lf]; decide) dX3_endRow_34 (fun H locs hP hD hS => ?_)
  have hP : va_P (dC, dI) vwCl [(lw, .inr (3, (lf.set 4 (.int 1)))), (lb, .inl (cb1, 6, .inl g_1))] H := hP
  have hD : va_D A [(lw, .inr (3, (lf.set 4 (.int 1)))), (lb, .inl (cb1, 6, .inl g_1))] := hD
  generalize efs_3 : (lf.set 4 (.int 1)) = fs_3 at hP hD
  have lfs_3 : fs_3.length = 6 := by rw [← efs_3, List.length_set]; exact l_lf
  have ffs_3_0 : fs_3[0]? = some (.ref lc) := by rw [← efs_3]; exact p1_sn (by decide) f_lf_0
  have ffs_3_1 : fs_3[1]? = some (.ref lb) := by rw [← efs_3]; exact p1_sn (by decide) f_lf_1
  have ffs_3_3 : fs_3[3]? = some (.int 5) := by rw [← efs_3]; exact p1_sn (by decide) f_lf_3
  have ffs_3_4 : fs_3[4]? = some (.int 1) := by rw [← efs_3]; exact p1_sa l_lf (by decide)
  refine lv_iconst (v := 1) hx hb dX3_endRow_37 (by decide) ?_
  have hP9 := hP.sub (ws' := [(lw, .inr (3, fs_3)), (lb, .inl (cb1, 6, .inl g_1))]) [0, 1] rfl
  have hD9 := hD.sub (ws' := [(lw, .inr (3, fs_3)), (lb, .inl (cb1, 6, .inl g_1))]) [0, 1] (by decide) rfl
  have hK9 := hK.sub (tys' := []) [] rfl
  exact W.zret (v := 1) hx hb hr (by decide) (fun t ht hW => ⟨⟨1, (), rfl, rfl, fs_3, g_1, lfs_3, ffs_3_0, ffs_3_1, ffs_3_3, ffs_3_4, by rw [ht]; exact hP9, va_K.moved hW.alike hK9, hD9⟩, hS.F ht⟩) hS.2.2 dX3_endRow_38
def zo_c_endRow1 : List Cond := [.code yX3_endRow cX3_endRow 1 (some .boolean), .fieldLink RX3 25 "BowWalk$Laws" "rows" "I", .fieldLink RX3 15 "BowWalk$Laws" "behind" "[I", .fieldLink RX3 21 "BowWalk$Laws" "used" "I"]
def zw_c_endRow1 : List Cond := zo_c_endRow1 ++ (wsX30 ++ [])
theorem gz_c_endRow1 : zw_c_endRow1.all goodWord = true := p1_ga (by decide +kernel) (p1_ga gk_X3 p1_g0)
theorem iz_c_endRow1 : ∀ w ∈ zw_c_endRow1, w ∈ lw_tbl := p1_ia (p1_all [687, 154, 151, 153] (by decide +kernel)) (p1_ia ik_X3 p1_i0)
set_option maxHeartbeats 4000000 in
set_option maxRecDepth 100000 in
theorem c_endRow1 (l : Launch) (dC : Nat → ClassId) (dI : Nat → Nat → Nat) (sz : Nat) (lw : Nat) (lf : List Value) (lc : Nat) (lb : Nat) (cb1 : ClassId) (bf : Nat → Int32) (f_lf_0 : lf[0]? = some (.ref lc)) (f_lf_1 : lf[1]? = some (.ref lb)) (f_lf_3 : lf[3]? = some (.int 12)) (f_lf_4 : lf[4]? = some (.int 1)) (l_lf : lf.length = 6) : Met l yX3_endRow zw_c_endRow1 ({ frames := 0, cells := 0, slots := 0, locals := 0 }) (va_Pc [.ref lw] (fun U => U.heap.size = sz ∧ va_P (dC, dI) vwCl [(lw, .inr (3, lf)), (lb, .inl (cb1, 6, .inl bf))] U.heap ∧ va_K (dC, dI) vwCl [(cb1, .int)] U ∧ va_D (fun _ => True) [(lw, .inr (3, lf)), (lb, .inl (cb1, 6, .inl bf))])) (va_Qi (fun (r : Int32) (_ : Unit) => r = 1) (fun _ t => ∃ (lo : List Value) (bg : Nat → Int32), lo.length = 6 ∧ lo[0]? = some (.ref lc) ∧ lo[1]? = some (.ref lb) ∧ lo[3]? = some (.int 12) ∧ lo[4]? = some (.int 2) ∧ va_P (dC, dI) vwCl [(lw, .inr (3, lo)), (lb, .inl (cb1, 6, .inl bg))] t.heap ∧ va_K (dC, dI) vwCl [] t ∧ va_D (va_A [(lw, .inr (3, lf)), (lb, .inl (cb1, 6, .inl bf))] sz) [(lw, .inr (3, lo)), (lb, .inl (cb1, 6, .inl bg))]) (va_A [(lw, .inr (3, lf)), (lb, .inl (cb1, 6, .inl bf))] sz)) 0 0 (va_A [(lw, .inr (3, lf)), (lb, .inl (cb1, 6, .inl bf))] sz) := by
  refine Met.ofW (cc := cX3_endRow) (maxL := 1) (ret := (some .boolean)) (by decide) rfl ?_
  intro p e s m args below meth c s₁ B hml hv
  obtain ⟨rfl, hsz, hP, hK, hD0⟩ := hv
  have hx := B.exec
  have hb := B.bytes
  have hr := B.returns
  have hts := atoms_spec (ws := zw_c_endRow1) B.pre
  have hown : s.vm.findClass RX3 = some m.cls := findClass_of_methodNamed B.named
  have hlocks := B.notSynchronized
  subst hsz
  have hD := hD0.self (sz := s.heap.size)
  generalize hAe : va_A [(lw, .inr (3, lf)), (lb, .inl (cb1, 6, .inl bf))] s.heap.size = A at hD ⊢
  have hA : ∀ q : Nat, s.heap.size ≤ q → A q := fun q h => by rw [← hAe]; exact Or.inr h
  have hS : va_S A s.heap s.heap [] := va_S.rf
  have hP : va_P (dC, dI) vwCl [(lw, .inr (3, lf)), (lb, .inl (cb1, 6, .inl bf))] s.heap := hP
  have m_0 : (.fieldLink RX3 25 "BowWalk$Laws" "rows" "I" : Cond) ∈ zw_c_endRow1 := List.mem_append_left _ (List.mem_of_getElem? (i := 1) rfl)
  have k_0 := hts _ m_0
  have m_1 : (.fieldLink RX3 15 "BowWalk$Laws" "behind" "[I" : Cond) ∈ zw_c_endRow1 := List.mem_append_left _ (List.mem_of_getElem? (i := 2) rfl)
  have k_1 := hts _ m_1
  have m_2 : (.fieldLink RX3 21 "BowWalk$Laws" "used" "I" : Cond) ∈ zw_c_endRow1 := List.mem_append_left _ (List.mem_of_getElem? (i := 3) rfl)
  have k_2 := hts _ m_2
  have i_X3 : ∀ w ∈ u_ws RX3 TX3 6, w ∈ zw_c_endRow1 := fun w h => List.mem_append_right _ (List.mem_append_left _ h)
  have hl := lv_entry ([.ref lw]) (n := 1) (Nat.le_of_ble_eq_true rfl)
  rw [lg_entry_eq]
  generalize (lg_sl ([.ref lw]) ++ List.replicate (1 - (lg_sl ([.ref lw])).length) Slot.unset).toArray = ls at hl ⊢
  have hl : lv_has ls 1 [(0, .ref lw)] := hl
  refine lv_aload_n hx hb dX3_endRow_0 rfl (lv_at hl 0 rfl) ?_
  refine va_get (D := (dC, dI)) (ci := 3) (v := .int 1) (C := RX3) (T := TX3) (N := 6) hx hb hts i_X3 hown hK hP 0 rfl rfl 4 (by decide) k_0 (fun _ h9 => h9) f_lf_4 dX3_endRow_1 ?_
  refine lv_aload_n hx hb dX3_endRow_4 rfl (lv_at hl 0 rfl) ?_
  refine va_get (D := (dC, dI)) (ci := 3) (v := .ref lb) (C := RX3) (T := TX3) (N := 6) hx hb hts i_X3 hown hK hP 0 rfl rfl 1 (by decide) k_1 (fun _ h9 => h9) f_lf_1 dX3_endRow_5 ?_
  refine va_alen (v := 6) hx hb hK hP 1 0 rfl rfl rfl dX3_endRow_8 ?_
  refine lv_icmp_lt (tgt := 14) hx hb dX3_endRow_9 (by decide) (fun _ => ?_) (fun c9 => absurd c9 (by decide))
  refine lv_aload_n hx hb dX3_endRow_14 rfl (lv_at hl 0 rfl) ?_
  refine va_get (D := (dC, dI)) (ci := 3) (v := .ref lb) (C := RX3) (T := TX3) (N := 6) hx hb hts i_X3 hown hK hP 0 rfl rfl 1 (by decide) k_1 (fun _ h9 => h9) f_lf_1 dX3_endRow_15 ?_
  refine lv_aload_n hx hb dX3_endRow_18 rfl (lv_at hl 0 rfl) ?_
  refine va_get (D := (dC, dI)) (ci := 3) (v := .int 1) (C := RX3) (T := TX3) (N := 6) hx hb hts i_X3 hown hK hP 0 rfl rfl 4 (by decide) k_0 (fun _ h9 => h9) f_lf_4 dX3_endRow_19 ?_
  refine lv_aload_n hx hb dX3_endRow_22 rfl (lv_at hl 0 rfl) ?_
  refine va_get (D := (dC, dI)) (ci := 3) (v := .int 12) (C := RX3) (T := TX3) (N := 6) hx hb hts i_X3 hown hK hP 0 rfl rfl 3 (by decide) k_2 (fun _ h9 => h9) f_lf_3 dX3_endRow_23 ?_
  refine va_iast hx hb hK hP hD hS 1 0 rfl rfl (p1_in (i := 1) (n := 6) (by decide)) dX3_endRow_26 (fun H locs hP hD hS => ?_)
  have hP : va_P (dC, dI) vwCl [(lw, .inr (3, lf)), (lb, .inl (cb1, 6, .inl (upd bf (1 : Int32).toNatClampNeg 12)))] H := hP
  have hD : va_D A [(lw, .inr (3, lf)), (lb, .inl (cb1, 6, .inl (upd bf (1 : Int32).toNatClampNeg 12)))] := hD
  generalize eg_1 : (upd bf (1 : Int32).toNatClampNeg 12) = g_1 at hP hD
  refine lv_aload_n hx hb dX3_endRow_27 rfl (lv_at hl 0 rfl) ?_
  refine lv_dup hx hb dX3_endRow_28 rfl ?_
  refine va_get (D := (dC, dI)) (ci := 3) (v := .int 1) (C := RX3) (T := TX3) (N := 6) hx hb hts i_X3 hown hK hP 0 rfl rfl 4 (by decide) k_0 (fun _ h9 => h9) f_lf_4 dX3_endRow_29 ?_
  refine lv_iconst (v := 1) hx hb dX3_endRow_32 (by decide) ?_
  refine lv_iadd hx hb dX3_endRow_33 ?_
  refine lv_topi (fun v_2 ev_2 => ?_)
  obtain rfl : v_2 = 2 := ev_2.trans (by decide)
  refine va_put (D := (dC, dI)) (ci := 3) (v := .int 2) (ty := .int) (C := RX3) (T := TX3) (N := 6) hx hb hts i_X3 tyX3 tyX3_ok nmX3 hown hK hP hD hS 0 rfl rfl 4 (by decide) k_0 (fun _ h9 => h9) rfl (by decide +kernel) rfl rfl (by rw [l_lf]; decide) dX3_endRow_34 (fun H locs hP hD hS => ?_)
  have hP : va_P (dC, dI) vwCl [(lw, .inr (3, (lf.set 4 (.int 2)))), (lb, .inl (cb1, 6, .inl g_1))] H := hP
  have hD : va_D A [(lw, .inr (3, (lf.set 4 (.int 2)))), (lb, .inl (cb1, 6, .inl g_1))] := hD
  generalize efs_3 : (lf.set 4 (.int 2)) = fs_3 at hP hD
  have lfs_3 : fs_3.length = 6 := by rw [← efs_3, List.length_set]; exact l_lf
  have ffs_3_0 : fs_3[0]? = some (.ref lc) := by rw [← efs_3]; exact p1_sn (by decide) f_lf_0
  have ffs_3_1 : fs_3[1]? = some (.ref lb) := by rw [← efs_3]; exact p1_sn (by decide) f_lf_1
  have ffs_3_3 : fs_3[3]? = some (.int 12) := by rw [← efs_3]; exact p1_sn (by decide) f_lf_3
  have ffs_3_4 : fs_3[4]? = some (.int 2) := by rw [← efs_3]; exact p1_sa l_lf (by decide)
  refine lv_iconst (v := 1) hx hb dX3_endRow_37 (by decide) ?_
  have hP9 := hP.sub (ws' := [(lw, .inr (3, fs_3)), (lb, .inl (cb1, 6, .inl g_1))]) [0, 1] rfl
  have hD9 := hD.sub (ws' := [(lw, .inr (3, fs_3)), (lb, .inl (cb1, 6, .inl g_1))]) [0, 1] (by decide) rfl
  have hK9 := hK.sub (tys' := []) [] rfl
  exact W.zret (v := 1) hx hb hr (by decide) (fun t ht hW => ⟨⟨1, (), rfl, rfl, fs_3, g_1, lfs_3, ffs_3_0, ffs_3_1, ffs_3_3, ffs_3_4, by rw [ht]; exact hP9, va_K.moved hW.alike hK9, hD9⟩, hS.F ht⟩) hS.2.2 dX3_endRow_38
def zo_c_putUntold : List Cond := [.code yX3_putUntold cX3_putUntold 2 none, .fieldLink RX3 31 "BowWalk$Laws" "UNTOLD_RUB" "[I", .methodLink RX3 34 yX3_put, .instanceMethod yX3_put, .selects RX3 yX3_put yX3_put, .initialized RX3, .methodLink RX3 38 yX3_endRow, .instanceMethod yX3_endRow, .selects RX3 yX3_endRow yX3_endRow, .fieldLink RX3 42 "BowWalk$Laws" "UNTOLD_PULL" "[I"]
def zw_c_putUntold : List Cond := zo_c_putUntold ++ (zw_c_put0 ++ (zw_c_put1 ++ (zw_c_put2 ++ (zw_c_put3 ++ (zw_c_put4 ++ (zw_c_endRow0 ++ (zw_c_put5 ++ (zw_c_put6 ++ (zw_c_put7 ++ (zw_c_put8 ++ (zw_c_put9 ++ (zw_c_put10 ++ (zw_c_put11 ++ (zw_c_endRow1 ++ []))))))))))))))
theorem gz_c_putUntold : zw_c_putUntold.all goodWord = true := p1_ga (by decide +kernel) (p1_ga gz_c_put0 (p1_ga gz_c_put1 (p1_ga gz_c_put2 (p1_ga gz_c_put3 (p1_ga gz_c_put4 (p1_ga gz_c_endRow0 (p1_ga gz_c_put5 (p1_ga gz_c_put6 (p1_ga gz_c_put7 (p1_ga gz_c_put8 (p1_ga gz_c_put9 (p1_ga gz_c_put10 (p1_ga gz_c_put11 (p1_ga gz_c_endRow1 p1_g0))))))))))))))
theorem iz_c_putUntold : ∀ w ∈ zw_c_putUntold, w ∈ lw_tbl := p1_ia (p1_all [699, 700, 702, 681, 682, 107, 703, 685, 686, 704] (by decide +kernel)) (p1_ia iz_c_put0 (p1_ia iz_c_put1 (p1_ia iz_c_put2 (p1_ia iz_c_put3 (p1_ia iz_c_put4 (p1_ia iz_c_endRow0 (p1_ia iz_c_put5 (p1_ia iz_c_put6 (p1_ia iz_c_put7 (p1_ia iz_c_put8 (p1_ia iz_c_put9 (p1_ia iz_c_put10 (p1_ia iz_c_put11 (p1_ia iz_c_endRow1 p1_i0))))))))))))))
set_option maxHeartbeats 4000000 in
set_option maxRecDepth 100000 in
theorem c_putUntold (l : Launch) (dC : Nat → ClassId) (dI : Nat → Nat → Nat) (sz : Nat) (lw : Nat) (lf : List Value) (lc : Nat) (lb : Nat) (cc1 : ClassId) (cf : Nat → Int32) (cb1 : ClassId) (bf : Nat → Int32) (f_lf_0 : lf[0]? = some (.ref lc)) (f_lf_1 : lf[1]? = some (.ref lb)) (f_lf_3 : lf[3]? = some (.int 0)) (f_lf_4 : lf[4]? = some (.int 0)) (l_lf : lf.length = 6) : Met l yX3_putUntold zw_c_putUntold ({ frames := 1, cells := 0, slots := 0, locals := 21 }) (va_Pc [.ref lw] (fun U => U.heap.size = sz ∧ va_P (dC, dI) vwCl [(lw, .inr (3, lf)), (lc, .inl (cc1, 600, .inl cf)), (lb, .inl (cb1, 6, .inl bf))] U.heap ∧ va_K (dC, dI) vwCl [(cc1, .int), (cb1, .int)] U ∧ va_D (fun _ => True) [(lw, .inr (3, lf)), (lc, .inl (cc1, 600, .inl cf)), (lb, .inl (cb1, 6, .inl bf))] ∧ p1_ex (va_A [(lw, .inr (3, lf)), (lc, .inl (cc1, 600, .inl cf)), (lb, .inl (cb1, 6, .inl bf))] sz) U U.heap)) (va_Qv (fun (_ : Unit) => True) (fun _ t => va_P (dC, dI) vwCl [] t.heap ∧ va_K (dC, dI) vwCl [] t ∧ va_D (va_A [(lw, .inr (3, lf)), (lc, .inl (cc1, 600, .inl cf)), (lb, .inl (cb1, 6, .inl bf))] sz) []) (va_A [(lw, .inr (3, lf)), (lc, .inl (cc1, 600, .inl cf)), (lb, .inl (cb1, 6, .inl bf))] sz)) 0 0 (va_A [(lw, .inr (3, lf)), (lc, .inl (cc1, 600, .inl cf)), (lb, .inl (cb1, 6, .inl bf))] sz) := by
  refine Met.ofW (cc := cX3_putUntold) (maxL := 2) (ret := none) (by decide) rfl ?_
  intro p e s m args below meth c s₁ B hml hv
  obtain ⟨rfl, hsz, hP, hK, hD0, hE⟩ := hv
  have hx := B.exec
  have hb := B.bytes
  have hr := B.returns
  have hts := atoms_spec (ws := zw_c_putUntold) B.pre
  have hown : s.vm.findClass RX3 = some m.cls := findClass_of_methodNamed B.named
  have hlocks := B.notSynchronized
  subst hsz
  have hD := hD0.self (sz := s.heap.size)
  generalize hAe : va_A [(lw, .inr (3, lf)), (lc, .inl (cc1, 600, .inl cf)), (lb, .inl (cb1, 6, .inl bf))] s.heap.size = A at hD hE ⊢
  have hA : ∀ q : Nat, s.heap.size ≤ q → A q := fun q h => by rw [← hAe]; exact Or.inr h
  have hS : va_S A s.heap s.heap [] := va_S.rf
  have hP : va_P (dC, dI) vwCl [(lw, .inr (3, lf)), (lc, .inl (cc1, 600, .inl cf)), (lb, .inl (cb1, 6, .inl bf))] s.heap := hP
  obtain ⟨sK, sV, ru, pu, sf, rf, pf, ⟨n1, n2, n3, n4, n5, n6, n7, n8, n9⟩, ⟨o1, o2, o3⟩, r1, ⟨t1, t2, t3, t4⟩, z1, z2, ⟨y1, y2⟩, ⟨w1, w2⟩⟩ := id hE
  have m_0 : (.fieldLink RX3 31 "BowWalk$Laws" "UNTOLD_RUB" "[I" : Cond) ∈ zw_c_putUntold := List.mem_append_left _ (List.mem_of_getElem? (i := 1) rfl)
  have k_0 := hts _ m_0
  have m_1 : (.methodLink RX3 34 yX3_put : Cond) ∈ zw_c_putUntold := List.mem_append_left _ (List.mem_of_getElem? (i := 2) rfl)
  have k_1 := hts _ m_1
  have m_2 : (.instanceMethod yX3_put : Cond) ∈ zw_c_putUntold := List.mem_append_left _ (List.mem_of_getElem? (i := 3) rfl)
  have k_2 := hts _ m_2
  have m_3 : (.selects RX3 yX3_put yX3_put : Cond) ∈ zw_c_putUntold := List.mem_append_left _ (List.mem_of_getElem? (i := 4) rfl)
  have k_3 := hts _ m_3
  have m_4 : (.initialized RX3 : Cond) ∈ zw_c_putUntold := List.mem_append_left _ (List.mem_of_getElem? (i := 5) rfl)
  have k_4 := hts _ m_4
  have m_5 : (.methodLink RX3 38 yX3_endRow : Cond) ∈ zw_c_putUntold := List.mem_append_left _ (List.mem_of_getElem? (i := 6) rfl)
  have k_5 := hts _ m_5
  have m_6 : (.instanceMethod yX3_endRow : Cond) ∈ zw_c_putUntold := List.mem_append_left _ (List.mem_of_getElem? (i := 7) rfl)
  have k_6 := hts _ m_6
  have m_7 : (.selects RX3 yX3_endRow yX3_endRow : Cond) ∈ zw_c_putUntold := List.mem_append_left _ (List.mem_of_getElem? (i := 8) rfl)
  have k_7 := hts _ m_7
  have m_8 : (.fieldLink RX3 42 "BowWalk$Laws" "UNTOLD_PULL" "[I" : Cond) ∈ zw_c_putUntold := List.mem_append_left _ (List.mem_of_getElem? (i := 9) rfl)
  have k_8 := hts _ m_8
  have g_c_put0 : ∀ w ∈ zw_c_put0, w ∈ zw_c_putUntold := fun w h => List.mem_append_right _ (List.mem_append_left _ h)
  have g_c_put1 : ∀ w ∈ zw_c_put1, w ∈ zw_c_putUntold := fun w h => List.mem_append_right _ (List.mem_append_right _ (List.mem_append_left _ h))
  have g_c_put2 : ∀ w ∈ zw_c_put2, w ∈ zw_c_putUntold := fun w h => List.mem_append_right _ (List.mem_append_right _ (List.mem_append_right _ (List.mem_append_left _ h)))
  have g_c_put3 : ∀ w ∈ zw_c_put3, w ∈ zw_c_putUntold := fun w h => List.mem_append_right _ (List.mem_append_right _ (List.mem_append_right _ (List.mem_append_right _ (List.mem_append_left _ h))))
  have g_c_put4 : ∀ w ∈ zw_c_put4, w ∈ zw_c_putUntold := fun w h => List.mem_append_right _ (List.mem_append_right _ (List.mem_append_right _ (List.mem_append_right _ (List.mem_append_right _ (List.mem_append_left _ h)))))
  have g_c_endRow0 : ∀ w ∈ zw_c_endRow0, w ∈ zw_c_putUntold := fun w h => List.mem_append_right _ (List.mem_append_right _ (List.mem_append_right _ (List.mem_append_right _ (List.mem_append_right _ (List.mem_append_right _ (List.mem_append_left _ h))))))
  have g_c_put5 : ∀ w ∈ zw_c_put5, w ∈ zw_c_putUntold := fun w h => List.mem_append_right _ (List.mem_append_right _ (List.mem_append_right _ (List.mem_append_right _ (List.mem_append_right _ (List.mem_append_right _ (List.mem_append_right _ (List.mem_append_left _ h)))))))
  have g_c_put6 : ∀ w ∈ zw_c_put6, w ∈ zw_c_putUntold := fun w h => List.mem_append_right _ (List.mem_append_right _ (List.mem_append_right _ (List.mem_append_right _ (List.mem_append_right _ (List.mem_append_right _ (List.mem_append_right _ (List.mem_append_right _ (List.mem_append_left _ h))))))))
  have g_c_put7 : ∀ w ∈ zw_c_put7, w ∈ zw_c_putUntold := fun w h => List.mem_append_right _ (List.mem_append_right _ (List.mem_append_right _ (List.mem_append_right _ (List.mem_append_right _ (List.mem_append_right _ (List.mem_append_right _ (List.mem_append_right _ (List.mem_append_right _ (List.mem_append_left _ h)))))))))
  have g_c_put8 : ∀ w ∈ zw_c_put8, w ∈ zw_c_putUntold := fun w h => List.mem_append_right _ (List.mem_append_right _ (List.mem_append_right _ (List.mem_append_right _ (List.mem_append_right _ (List.mem_append_right _ (List.mem_append_right _ (List.mem_append_right _ (List.mem_append_right _ (List.mem_append_right _ (List.mem_append_left _ h))))))))))
  have g_c_put9 : ∀ w ∈ zw_c_put9, w ∈ zw_c_putUntold := fun w h => List.mem_append_right _ (List.mem_append_right _ (List.mem_append_right _ (List.mem_append_right _ (List.mem_append_right _ (List.mem_append_right _ (List.mem_append_right _ (List.mem_append_right _ (List.mem_append_right _ (List.mem_append_right _ (List.mem_append_right _ (List.mem_append_left _ h)))))))))))
  have g_c_put10 : ∀ w ∈ zw_c_put10, w ∈ zw_c_putUntold := fun w h => List.mem_append_right _ (List.mem_append_right _ (List.mem_append_right _ (List.mem_append_right _ (List.mem_append_right _ (List.mem_append_right _ (List.mem_append_right _ (List.mem_append_right _ (List.mem_append_right _ (List.mem_append_right _ (List.mem_append_right _ (List.mem_append_right _ (List.mem_append_left _ h))))))))))))
  have g_c_put11 : ∀ w ∈ zw_c_put11, w ∈ zw_c_putUntold := fun w h => List.mem_append_right _ (List.mem_append_right _ (List.mem_append_right _ (List.mem_append_right _ (List.mem_append_right _ (List.mem_append_right _ (List.mem_append_right _ (List.mem_append_right _ (List.mem_append_right _ (List.mem_append_right _ (List.mem_append_right _ (List.mem_append_right _ (List.mem_append_right _ (List.mem_append_left _ h)))))))))))))
  have g_c_endRow1 : ∀ w ∈ zw_c_endRow1, w ∈ zw_c_putUntold := fun w h => List.mem_append_right _ (List.mem_append_right _ (List.mem_append_right _ (List.mem_append_right _ (List.mem_append_right _ (List.mem_append_right _ (List.mem_append_right _ (List.mem_append_right _ (List.mem_append_right _ (List.mem_append_right _ (List.mem_append_right _ (List.mem_append_right _ (List.mem_append_right _ (List.mem_append_right _ (List.mem_append_left _ h))))))))))))))
  have hl := lv_entry ([.ref lw]) (n := 2) (Nat.le_of_ble_eq_true rfl)
  rw [lg_entry_eq]
  generalize (lg_sl ([.ref lw]) ++ List.replicate (2 - (lg_sl ([.ref lw])).length) Slot.unset).toArray = ls at hl ⊢
  have hl : lv_has ls 2 [(0, .ref lw)] := hl
  refine lv_iconst (v := 0) hx hb dX3_putUntold_0 (by decide) ?_
  refine lv_istore_n (lv' := [(1, .int 0), (0, .ref lw)]) hx hb dX3_putUntold_1 rfl hl (by decide) rfl (fun ls hl => ?_)
  refine lv_iload_n hx hb dX3_putUntold_2 rfl (lv_at hl 0 rfl) ?_
  refine va_gets (v := .ref ru) hx hb y1 hS hown k_0 (fun _ h9 => h9) dX3_putUntold_3 ?_
  refine va_tlen (v := 5) hx hb y2 hS rfl dX3_putUntold_6 ?_
  refine lv_icmp_ge (tgt := 26) hx hb dX3_putUntold_7 (by decide) (fun c9 => absurd c9 (by decide)) (fun _ => ?_)
  refine lv_aload_n hx hb dX3_putUntold_10 rfl (lv_at hl 1 rfl) ?_
  refine va_gets (v := .ref ru) hx hb y1 hS hown k_0 (fun _ h9 => h9) dX3_putUntold_11 ?_
  refine lv_iload_n hx hb dX3_putUntold_14 rfl (lv_at hl 0 rfl) ?_
  refine va_ti hx hb y2 hS (p1_in (i := 0) (n := 5) (by decide)) rfl dX3_putUntold_15 ?_
  refine lv_topi (fun v_2 ev_2 => ?_)
  have hPc := hP.sub (ws' := [(lw, .inr (3, lf)), (lc, .inl (cc1, 600, .inl cf))]) [0, 1] rfl
  have hDc := hD.sub (ws' := [(lw, .inr (3, lf)), (lc, .inl (cc1, 600, .inl cf))]) [0, 1] (by decide) rfl
  have hKc := hK.sub (tys' := [(cc1, .int)]) [0] rfl
  have hFc := va_free (wc := [(lw, .inr (3, lf)), (lc, .inl (cc1, 600, .inl cf))]) hD hS hA [0, 1] rfl
  refine va_calli (va_runV (As := [.int v_2]) (rest := []) ⟨hx, hb, hml, hown, hts⟩ (c_put0 l dC dI s.heap.size lw lf lc lb cc1 cf v_2 f_lf_0 f_lf_1 f_lf_3 f_lf_4 l_lf) (cwV 1 hts (p1_gV m_1 m_2 m_3 m_4 g_c_put0 gz_c_put0) rfl rfl rfl (by decide +kernel) ⟨by decide, by decide⟩) ⟨fun a U g mk q => by obtain ⟨q0, q1, qP, qK, qD⟩ := q; exact ⟨q0, q1, qP, va_K.moved (u := U) (U := U.calling g mk a) (Vm.Alike.refl U.vm) qK, qD⟩, va_recv hKc hPc (ci := 3) (q0 := 0) rfl rfl, fun U hU hW => ⟨rfl, by rw [hU], by rw [hU]; exact hPc, va_K.moved hW.alike hKc, hDc.weaken (fun _ _ _ _ => trivial)⟩⟩ rfl rfl hl.1 rfl (lv_room (Nat.le_of_ble_eq_true rfl)) dX3_putUntold_16 ⟨by decide, by decide⟩) hS (fun q _ h => hFc q h) hFc (fun r_3 u t H1 locs ht hvm hw hB hz1 hk1 hS => ?_)
  obtain ⟨lo_4, cg_5, z_6, z_7, z_8, z_9, z_10, hP1, hK1, hD1⟩ := hB
  rw [ht] at hP1
  obtain ⟨hP, hD⟩ := va_join (wr := [(lb, .inl (cb1, 6, .inl bf))]) (w1 := [(lw, .inr (3, lo_4)), (lc, .inl (cc1, 600, .inl cg_5))]) hP hD [0, 1] [2] rfl rfl (by decide) (by decide) hk1 hFc hP1 hD1
  generalize H1 = H at hP hS ⊢
  have hP : va_P (dC, dI) vwCl [(lb, .inl (cb1, 6, .inl bf)), (lw, .inr (3, lo_4)), (lc, .inl (cc1, 600, .inl cg_5))] H := hP
  have hD : va_D A [(lb, .inl (cb1, 6, .inl bf)), (lw, .inr (3, lo_4)), (lc, .inl (cc1, 600, .inl cg_5))] := hD
  try dsimp only at hw
  obtain rfl : r_3 = 1 := hw
  refine lv_pop hx hb dX3_putUntold_19 rfl ?_
  refine lv_iinc (v := 1) (lv' := [(1, .int 1), (0, .ref lw)]) hx hb dX3_putUntold_20 hl (k := 0) rfl (by decide) (by decide) rfl (fun ls hl => ?_)
  refine lv_goto (tgt := 2) hx hb dX3_putUntold_23 (by decide) ?_
  refine lv_iload_n hx hb dX3_putUntold_2 rfl (lv_at hl 0 rfl) ?_
  refine va_gets (v := .ref ru) hx hb y1 hS hown k_0 (fun _ h9 => h9) dX3_putUntold_3 ?_
  refine va_tlen (v := 5) hx hb y2 hS rfl dX3_putUntold_6 ?_
  refine lv_icmp_ge (tgt := 26) hx hb dX3_putUntold_7 (by decide) (fun c9 => absurd c9 (by decide)) (fun _ => ?_)
  refine lv_aload_n hx hb dX3_putUntold_10 rfl (lv_at hl 1 rfl) ?_
  refine va_gets (v := .ref ru) hx hb y1 hS hown k_0 (fun _ h9 => h9) dX3_putUntold_11 ?_
  refine lv_iload_n hx hb dX3_putUntold_14 rfl (lv_at hl 0 rfl) ?_
  refine va_ti hx hb y2 hS (p1_in (i := 1) (n := 5) (by decide)) rfl dX3_putUntold_15 ?_
  refine lv_topi (fun v_12 ev_12 => ?_)
  have hPc := hP.sub (ws' := [(lw, .inr (3, lo_4)), (lc, .inl (cc1, 600, .inl cg_5))]) [1, 2] rfl
  have hDc := hD.sub (ws' := [(lw, .inr (3, lo_4)), (lc, .inl (cc1, 600, .inl cg_5))]) [1, 2] (by decide) rfl
  have hKc := hK.sub (tys' := [(cc1, .int)]) [0] rfl
  have hFc := va_free (wc := [(lw, .inr (3, lo_4)), (lc, .inl (cc1, 600, .inl cg_5))]) hD hS hA [1, 2] rfl
  refine va_calli (va_runV (As := [.int v_12]) (rest := []) ⟨hx, hb, hml, hown, hts⟩ (c_put1 l dC dI H.size lw lo_4 lc lb cc1 cg_5 v_12 z_7 z_8 z_9 z_10 z_6) (cwV 1 hts (p1_gV m_1 m_2 m_3 m_4 g_c_put1 gz_c_put1) rfl rfl rfl (by decide +kernel) ⟨by decide, by decide⟩) ⟨fun a U g mk q => by obtain ⟨q0, q1, qP, qK, qD⟩ := q; exact ⟨q0, q1, qP, va_K.moved (u := U) (U := U.calling g mk a) (Vm.Alike.refl U.vm) qK, qD⟩, va_recv hKc hPc (ci := 3) (q0 := 0) rfl rfl, fun U hU hW => ⟨rfl, by rw [hU], by rw [hU]; exact hPc, va_K.moved hW.alike hKc, hDc.weaken (fun _ _ _ _ => trivial)⟩⟩ rfl rfl hl.1 rfl (lv_room (Nat.le_of_ble_eq_true rfl)) dX3_putUntold_16 ⟨by decide, by decide⟩) hS (fun q _ h => hFc q h) hFc (fun r_13 u t H1 locs ht hvm hw hB hz1 hk1 hS => ?_)
  obtain ⟨lo_14, cg_15, z_16, z_17, z_18, z_19, z_20, hP1, hK1, hD1⟩ := hB
  rw [ht] at hP1
  obtain ⟨hP, hD⟩ := va_join (wr := [(lb, .inl (cb1, 6, .inl bf))]) (w1 := [(lw, .inr (3, lo_14)), (lc, .inl (cc1, 600, .inl cg_15))]) hP hD [1, 2] [0] rfl rfl (by decide) (by decide) hk1 hFc hP1 hD1
  generalize H1 = H at hP hS ⊢
  have hP : va_P (dC, dI) vwCl [(lb, .inl (cb1, 6, .inl bf)), (lw, .inr (3, lo_14)), (lc, .inl (cc1, 600, .inl cg_15))] H := hP
  have hD : va_D A [(lb, .inl (cb1, 6, .inl bf)), (lw, .inr (3, lo_14)), (lc, .inl (cc1, 600, .inl cg_15))] := hD
  try dsimp only at hw
  obtain rfl : r_13 = 1 := hw
  refine lv_pop hx hb dX3_putUntold_19 rfl ?_
  refine lv_iinc (v := 2) (lv' := [(1, .int 2), (0, .ref lw)]) hx hb dX3_putUntold_20 hl (k := 0) rfl (by decide) (by decide) rfl (fun ls hl => ?_)
  refine lv_goto (tgt := 2) hx hb dX3_putUntold_23 (by decide) ?_
  refine lv_iload_n hx hb dX3_putUntold_2 rfl (lv_at hl 0 rfl) ?_
  refine va_gets (v := .ref ru) hx hb y1 hS hown k_0 (fun _ h9 => h9) dX3_putUntold_3 ?_
  refine va_tlen (v := 5) hx hb y2 hS rfl dX3_putUntold_6 ?_
  refine lv_icmp_ge (tgt := 26) hx hb dX3_putUntold_7 (by decide) (fun c9 => absurd c9 (by decide)) (fun _ => ?_)
  refine lv_aload_n hx hb dX3_putUntold_10 rfl (lv_at hl 1 rfl) ?_
  refine va_gets (v := .ref ru) hx hb y1 hS hown k_0 (fun _ h9 => h9) dX3_putUntold_11 ?_
  refine lv_iload_n hx hb dX3_putUntold_14 rfl (lv_at hl 0 rfl) ?_
  refine va_ti hx hb y2 hS (p1_in (i := 2) (n := 5) (by decide)) rfl dX3_putUntold_15 ?_
  refine lv_topi (fun v_22 ev_22 => ?_)
  have hPc := hP.sub (ws' := [(lw, .inr (3, lo_14)), (lc, .inl (cc1, 600, .inl cg_15))]) [1, 2] rfl
  have hDc := hD.sub (ws' := [(lw, .inr (3, lo_14)), (lc, .inl (cc1, 600, .inl cg_15))]) [1, 2] (by decide) rfl
  have hKc := hK.sub (tys' := [(cc1, .int)]) [0] rfl
  have hFc := va_free (wc := [(lw, .inr (3, lo_14)), (lc, .inl (cc1, 600, .inl cg_15))]) hD hS hA [1, 2] rfl
  refine va_calli (va_runV (As := [.int v_22]) (rest := []) ⟨hx, hb, hml, hown, hts⟩ (c_put2 l dC dI H.size lw lo_14 lc lb cc1 cg_15 v_22 z_17 z_18 z_19 z_20 z_16) (cwV 1 hts (p1_gV m_1 m_2 m_3 m_4 g_c_put2 gz_c_put2) rfl rfl rfl (by decide +kernel) ⟨by decide, by decide⟩) ⟨fun a U g mk q => by obtain ⟨q0, q1, qP, qK, qD⟩ := q; exact ⟨q0, q1, qP, va_K.moved (u := U) (U := U.calling g mk a) (Vm.Alike.refl U.vm) qK, qD⟩, va_recv hKc hPc (ci := 3) (q0 := 0) rfl rfl, fun U hU hW => ⟨rfl, by rw [hU], by rw [hU]; exact hPc, va_K.moved hW.alike hKc, hDc.weaken (fun _ _ _ _ => trivial)⟩⟩ rfl rfl hl.1 rfl (lv_room (Nat.le_of_ble_eq_true rfl)) dX3_putUntold_16 ⟨by decide, by decide⟩) hS (fun q _ h => hFc q h) hFc (fun r_23 u t H1 locs ht hvm hw hB hz1 hk1 hS => ?_)
  obtain ⟨lo_24, cg_25, z_26, z_27, z_28, z_29, z_30, hP1, hK1, hD1⟩ := hB
  rw [ht] at hP1
  obtain ⟨hP, hD⟩ := va_join (wr := [(lb, .inl (cb1, 6, .inl bf))]) (w1 := [(lw, .inr (3, lo_24)), (lc, .inl (cc1, 600, .inl cg_25))]) hP hD [1, 2] [0] rfl rfl (by decide) (by decide) hk1 hFc hP1 hD1
  generalize H1 = H at hP hS ⊢
  have hP : va_P (dC, dI) vwCl [(lb, .inl (cb1, 6, .inl bf)), (lw, .inr (3, lo_24)), (lc, .inl (cc1, 600, .inl cg_25))] H := hP
  have hD : va_D A [(lb, .inl (cb1, 6, .inl bf)), (lw, .inr (3, lo_24)), (lc, .inl (cc1, 600, .inl cg_25))] := hD
  try dsimp only at hw
  obtain rfl : r_23 = 1 := hw
  refine lv_pop hx hb dX3_putUntold_19 rfl ?_
  refine lv_iinc (v := 3) (lv' := [(1, .int 3), (0, .ref lw)]) hx hb dX3_putUntold_20 hl (k := 0) rfl (by decide) (by decide) rfl (fun ls hl => ?_)
  refine lv_goto (tgt := 2) hx hb dX3_putUntold_23 (by decide) ?_
  refine lv_iload_n hx hb dX3_putUntold_2 rfl (lv_at hl 0 rfl) ?_
  refine va_gets (v := .ref ru) hx hb y1 hS hown k_0 (fun _ h9 => h9) dX3_putUntold_3 ?_
  refine va_tlen (v := 5) hx hb y2 hS rfl dX3_putUntold_6 ?_
  refine lv_icmp_ge (tgt := 26) hx hb dX3_putUntold_7 (by decide) (fun c9 => absurd c9 (by decide)) (fun _ => ?_)
  refine lv_aload_n hx hb dX3_putUntold_10 rfl (lv_at hl 1 rfl) ?_
  refine va_gets (v := .ref ru) hx hb y1 hS hown k_0 (fun _ h9 => h9) dX3_putUntold_11 ?_
  refine lv_iload_n hx hb dX3_putUntold_14 rfl (lv_at hl 0 rfl) ?_
  refine va_ti hx hb y2 hS (p1_in (i := 3) (n := 5) (by decide)) rfl dX3_putUntold_15 ?_
  refine lv_topi (fun v_32 ev_32 => ?_)
  have hPc := hP.sub (ws' := [(lw, .inr (3, lo_24)), (lc, .inl (cc1, 600, .inl cg_25))]) [1, 2] rfl
  have hDc := hD.sub (ws' := [(lw, .inr (3, lo_24)), (lc, .inl (cc1, 600, .inl cg_25))]) [1, 2] (by decide) rfl
  have hKc := hK.sub (tys' := [(cc1, .int)]) [0] rfl
  have hFc := va_free (wc := [(lw, .inr (3, lo_24)), (lc, .inl (cc1, 600, .inl cg_25))]) hD hS hA [1, 2] rfl
  refine va_calli (va_runV (As := [.int v_32]) (rest := []) ⟨hx, hb, hml, hown, hts⟩ (c_put3 l dC dI H.size lw lo_24 lc lb cc1 cg_25 v_32 z_27 z_28 z_29 z_30 z_26) (cwV 1 hts (p1_gV m_1 m_2 m_3 m_4 g_c_put3 gz_c_put3) rfl rfl rfl (by decide +kernel) ⟨by decide, by decide⟩) ⟨fun a U g mk q => by obtain ⟨q0, q1, qP, qK, qD⟩ := q; exact ⟨q0, q1, qP, va_K.moved (u := U) (U := U.calling g mk a) (Vm.Alike.refl U.vm) qK, qD⟩, va_recv hKc hPc (ci := 3) (q0 := 0) rfl rfl, fun U hU hW => ⟨rfl, by rw [hU], by rw [hU]; exact hPc, va_K.moved hW.alike hKc, hDc.weaken (fun _ _ _ _ => trivial)⟩⟩ rfl rfl hl.1 rfl (lv_room (Nat.le_of_ble_eq_true rfl)) dX3_putUntold_16 ⟨by decide, by decide⟩) hS (fun q _ h => hFc q h) hFc (fun r_33 u t H1 locs ht hvm hw hB hz1 hk1 hS => ?_)
  obtain ⟨lo_34, cg_35, z_36, z_37, z_38, z_39, z_40, hP1, hK1, hD1⟩ := hB
  rw [ht] at hP1
  obtain ⟨hP, hD⟩ := va_join (wr := [(lb, .inl (cb1, 6, .inl bf))]) (w1 := [(lw, .inr (3, lo_34)), (lc, .inl (cc1, 600, .inl cg_35))]) hP hD [1, 2] [0] rfl rfl (by decide) (by decide) hk1 hFc hP1 hD1
  generalize H1 = H at hP hS ⊢
  have hP : va_P (dC, dI) vwCl [(lb, .inl (cb1, 6, .inl bf)), (lw, .inr (3, lo_34)), (lc, .inl (cc1, 600, .inl cg_35))] H := hP
  have hD : va_D A [(lb, .inl (cb1, 6, .inl bf)), (lw, .inr (3, lo_34)), (lc, .inl (cc1, 600, .inl cg_35))] := hD
  try dsimp only at hw
  obtain rfl : r_33 = 1 := hw
  refine lv_pop hx hb dX3_putUntold_19 rfl ?_
  refine lv_iinc (v := 4) (lv' := [(1, .int 4), (0, .ref lw)]) hx hb dX3_putUntold_20 hl (k := 0) rfl (by decide) (by decide) rfl (fun ls hl => ?_)
  refine lv_goto (tgt := 2) hx hb dX3_putUntold_23 (by decide) ?_
  refine lv_iload_n hx hb dX3_putUntold_2 rfl (lv_at hl 0 rfl) ?_
  refine va_gets (v := .ref ru) hx hb y1 hS hown k_0 (fun _ h9 => h9) dX3_putUntold_3 ?_
  refine va_tlen (v := 5) hx hb y2 hS rfl dX3_putUntold_6 ?_
  refine lv_icmp_ge (tgt := 26) hx hb dX3_putUntold_7 (by decide) (fun c9 => absurd c9 (by decide)) (fun _ => ?_)
  refine lv_aload_n hx hb dX3_putUntold_10 rfl (lv_at hl 1 rfl) ?_
  refine va_gets (v := .ref ru) hx hb y1 hS hown k_0 (fun _ h9 => h9) dX3_putUntold_11 ?_
  refine lv_iload_n hx hb dX3_putUntold_14 rfl (lv_at hl 0 rfl) ?_
  refine va_ti hx hb y2 hS (p1_in (i := 4) (n := 5) (by decide)) rfl dX3_putUntold_15 ?_
  refine lv_topi (fun v_42 ev_42 => ?_)
  have hPc := hP.sub (ws' := [(lw, .inr (3, lo_34)), (lc, .inl (cc1, 600, .inl cg_35))]) [1, 2] rfl
  have hDc := hD.sub (ws' := [(lw, .inr (3, lo_34)), (lc, .inl (cc1, 600, .inl cg_35))]) [1, 2] (by decide) rfl
  have hKc := hK.sub (tys' := [(cc1, .int)]) [0] rfl
  have hFc := va_free (wc := [(lw, .inr (3, lo_34)), (lc, .inl (cc1, 600, .inl cg_35))]) hD hS hA [1, 2] rfl
  refine va_calli (va_runV (As := [.int v_42]) (rest := []) ⟨hx, hb, hml, hown, hts⟩ (c_put4 l dC dI H.size lw lo_34 lc lb cc1 cg_35 v_42 z_37 z_38 z_39 z_40 z_36) (cwV 1 hts (p1_gV m_1 m_2 m_3 m_4 g_c_put4 gz_c_put4) rfl rfl rfl (by decide +kernel) ⟨by decide, by decide⟩) ⟨fun a U g mk q => by obtain ⟨q0, q1, qP, qK, qD⟩ := q; exact ⟨q0, q1, qP, va_K.moved (u := U) (U := U.calling g mk a) (Vm.Alike.refl U.vm) qK, qD⟩, va_recv hKc hPc (ci := 3) (q0 := 0) rfl rfl, fun U hU hW => ⟨rfl, by rw [hU], by rw [hU]; exact hPc, va_K.moved hW.alike hKc, hDc.weaken (fun _ _ _ _ => trivial)⟩⟩ rfl rfl hl.1 rfl (lv_room (Nat.le_of_ble_eq_true rfl)) dX3_putUntold_16 ⟨by decide, by decide⟩) hS (fun q _ h => hFc q h) hFc (fun r_43 u t H1 locs ht hvm hw hB hz1 hk1 hS => ?_)
  obtain ⟨lo_44, cg_45, z_46, z_47, z_48, z_49, z_50, hP1, hK1, hD1⟩ := hB
  rw [ht] at hP1
  obtain ⟨hP, hD⟩ := va_join (wr := [(lb, .inl (cb1, 6, .inl bf))]) (w1 := [(lw, .inr (3, lo_44)), (lc, .inl (cc1, 600, .inl cg_45))]) hP hD [1, 2] [0] rfl rfl (by decide) (by decide) hk1 hFc hP1 hD1
  generalize H1 = H at hP hS ⊢
  have hP : va_P (dC, dI) vwCl [(lb, .inl (cb1, 6, .inl bf)), (lw, .inr (3, lo_44)), (lc, .inl (cc1, 600, .inl cg_45))] H := hP
  have hD : va_D A [(lb, .inl (cb1, 6, .inl bf)), (lw, .inr (3, lo_44)), (lc, .inl (cc1, 600, .inl cg_45))] := hD
  try dsimp only at hw
  obtain rfl : r_43 = 1 := hw
  refine lv_pop hx hb dX3_putUntold_19 rfl ?_
  refine lv_iinc (v := 5) (lv' := [(1, .int 5), (0, .ref lw)]) hx hb dX3_putUntold_20 hl (k := 0) rfl (by decide) (by decide) rfl (fun ls hl => ?_)
  refine lv_goto (tgt := 2) hx hb dX3_putUntold_23 (by decide) ?_
  refine lv_iload_n hx hb dX3_putUntold_2 rfl (lv_at hl 0 rfl) ?_
  refine va_gets (v := .ref ru) hx hb y1 hS hown k_0 (fun _ h9 => h9) dX3_putUntold_3 ?_
  refine va_tlen (v := 5) hx hb y2 hS rfl dX3_putUntold_6 ?_
  refine lv_icmp_ge (tgt := 26) hx hb dX3_putUntold_7 (by decide) (fun _ => ?_) (fun c9 => absurd c9 (by decide))
  refine lv_aload_n hx hb dX3_putUntold_26 rfl (lv_at hl 1 rfl) ?_
  have hPc := hP.sub (ws' := [(lw, .inr (3, lo_44)), (lb, .inl (cb1, 6, .inl bf))]) [1, 0] rfl
  have hDc := hD.sub (ws' := [(lw, .inr (3, lo_44)), (lb, .inl (cb1, 6, .inl bf))]) [1, 0] (by decide) rfl
  have hKc := hK.sub (tys' := [(cb1, .int)]) [1] rfl
  have hFc := va_free (wc := [(lw, .inr (3, lo_44)), (lb, .inl (cb1, 6, .inl bf))]) hD hS hA [1, 0] rfl
  refine va_calli (va_runV (As := []) (rest := []) ⟨hx, hb, hml, hown, hts⟩ (c_endRow0 l dC dI H.size lw lo_44 lc lb cb1 bf z_47 z_48 z_49 z_50 z_46) (cwV 0 hts (p1_gV m_5 m_6 m_7 m_4 g_c_endRow0 gz_c_endRow0) rfl rfl rfl (by decide +kernel) ⟨by decide, by decide⟩) ⟨fun a U g mk q => by obtain ⟨q0, q1, qP, qK, qD⟩ := q; exact ⟨q0, q1, qP, va_K.moved (u := U) (U := U.calling g mk a) (Vm.Alike.refl U.vm) qK, qD⟩, va_recv hKc hPc (ci := 3) (q0 := 0) rfl rfl, fun U hU hW => ⟨rfl, by rw [hU], by rw [hU]; exact hPc, va_K.moved hW.alike hKc, hDc.weaken (fun _ _ _ _ => trivial)⟩⟩ rfl rfl hl.1 rfl (lv_room (Nat.le_of_ble_eq_true rfl)) dX3_putUntold_27 ⟨by decide, by decide⟩) hS (fun q _ h => hFc q h) hFc (fun r_52 u t H1 locs ht hvm hw hB hz1 hk1 hS => ?_)
  obtain ⟨lo_53, bg_54, z_55, z_56, z_57, z_58, z_59, hP1, hK1, hD1⟩ := hB
  rw [ht] at hP1
  obtain ⟨hP, hD⟩ := va_join (wr := [(lc, .inl (cc1, 600, .inl cg_45))]) (w1 := [(lw, .inr (3, lo_53)), (lb, .inl (cb1, 6, .inl bg_54))]) hP hD [1, 0] [2] rfl rfl (by decide) (by decide) hk1 hFc hP1 hD1
  generalize H1 = H at hP hS ⊢
  have hP : va_P (dC, dI) vwCl [(lc, .inl (cc1, 600, .inl cg_45)), (lw, .inr (3, lo_53)), (lb, .inl (cb1, 6, .inl bg_54))] H := hP
  have hD : va_D A [(lc, .inl (cc1, 600, .inl cg_45)), (lw, .inr (3, lo_53)), (lb, .inl (cb1, 6, .inl bg_54))] := hD
  try dsimp only at hw
  obtain rfl : r_52 = 1 := hw
  refine lv_pop hx hb dX3_putUntold_30 rfl ?_
  refine lv_iconst (v := 0) hx hb dX3_putUntold_31 (by decide) ?_
  refine lv_istore_n (lv' := [(1, .int 0), (0, .ref lw)]) hx hb dX3_putUntold_32 rfl hl (by decide) rfl (fun ls hl => ?_)
  refine lv_iload_n hx hb dX3_putUntold_33 rfl (lv_at hl 0 rfl) ?_
  refine va_gets (v := .ref pu) hx hb w1 hS hown k_8 (fun _ h9 => h9) dX3_putUntold_34 ?_
  refine va_tlen (v := 7) hx hb w2 hS rfl dX3_putUntold_37 ?_
  refine lv_icmp_ge (tgt := 57) hx hb dX3_putUntold_38 (by decide) (fun c9 => absurd c9 (by decide)) (fun _ => ?_)
  refine lv_aload_n hx hb dX3_putUntold_41 rfl (lv_at hl 1 rfl) ?_
  refine va_gets (v := .ref pu) hx hb w1 hS hown k_8 (fun _ h9 => h9) dX3_putUntold_42 ?_
  refine lv_iload_n hx hb dX3_putUntold_45 rfl (lv_at hl 0 rfl) ?_
  refine va_ti hx hb w2 hS (p1_in (i := 0) (n := 7) (by decide)) rfl dX3_putUntold_46 ?_
  refine lv_topi (fun v_61 ev_61 => ?_)
  have hPc := hP.sub (ws' := [(lw, .inr (3, lo_53)), (lc, .inl (cc1, 600, .inl cg_45))]) [1, 0] rfl
  have hDc := hD.sub (ws' := [(lw, .inr (3, lo_53)), (lc, .inl (cc1, 600, .inl cg_45))]) [1, 0] (by decide) rfl
  have hKc := hK.sub (tys' := [(cc1, .int)]) [0] rfl
  have hFc := va_free (wc := [(lw, .inr (3, lo_53)), (lc, .inl (cc1, 600, .inl cg_45))]) hD hS hA [1, 0] rfl
  refine va_calli (va_runV (As := [.int v_61]) (rest := []) ⟨hx, hb, hml, hown, hts⟩ (c_put5 l dC dI H.size lw lo_53 lc lb cc1 cg_45 v_61 z_56 z_57 z_58 z_59 z_55) (cwV 1 hts (p1_gV m_1 m_2 m_3 m_4 g_c_put5 gz_c_put5) rfl rfl rfl (by decide +kernel) ⟨by decide, by decide⟩) ⟨fun a U g mk q => by obtain ⟨q0, q1, qP, qK, qD⟩ := q; exact ⟨q0, q1, qP, va_K.moved (u := U) (U := U.calling g mk a) (Vm.Alike.refl U.vm) qK, qD⟩, va_recv hKc hPc (ci := 3) (q0 := 0) rfl rfl, fun U hU hW => ⟨rfl, by rw [hU], by rw [hU]; exact hPc, va_K.moved hW.alike hKc, hDc.weaken (fun _ _ _ _ => trivial)⟩⟩ rfl rfl hl.1 rfl (lv_room (Nat.le_of_ble_eq_true rfl)) dX3_putUntold_47 ⟨by decide, by decide⟩) hS (fun q _ h => hFc q h) hFc (fun r_62 u t H1 locs ht hvm hw hB hz1 hk1 hS => ?_)
  obtain ⟨lo_63, cg_64, z_65, z_66, z_67, z_68, z_69, hP1, hK1, hD1⟩ := hB
  rw [ht] at hP1
  obtain ⟨hP, hD⟩ := va_join (wr := [(lb, .inl (cb1, 6, .inl bg_54))]) (w1 := [(lw, .inr (3, lo_63)), (lc, .inl (cc1, 600, .inl cg_64))]) hP hD [1, 0] [2] rfl rfl (by decide) (by decide) hk1 hFc hP1 hD1
  generalize H1 = H at hP hS ⊢
  have hP : va_P (dC, dI) vwCl [(lb, .inl (cb1, 6, .inl bg_54)), (lw, .inr (3, lo_63)), (lc, .inl (cc1, 600, .inl cg_64))] H := hP
  have hD : va_D A [(lb, .inl (cb1, 6, .inl bg_54)), (lw, .inr (3, lo_63)), (lc, .inl (cc1, 600, .inl cg_64))] := hD
  try dsimp only at hw
  obtain rfl : r_62 = 1 := hw
  refine lv_pop hx hb dX3_putUntold_50 rfl ?_
  refine lv_iinc (v := 1) (lv' := [(1, .int 1), (0, .ref lw)]) hx hb dX3_putUntold_51 hl (k := 0) rfl (by decide) (by decide) rfl (fun ls hl => ?_)
  refine lv_goto (tgt := 33) hx hb dX3_putUntold_54 (by decide) ?_
  refine lv_iload_n hx hb dX3_putUntold_33 rfl (lv_at hl 0 rfl) ?_
  refine va_gets (v := .ref pu) hx hb w1 hS hown k_8 (fun _ h9 => h9) dX3_putUntold_34 ?_
  refine va_tlen (v := 7) hx hb w2 hS rfl dX3_putUntold_37 ?_
  refine lv_icmp_ge (tgt := 57) hx hb dX3_putUntold_38 (by decide) (fun c9 => absurd c9 (by decide)) (fun _ => ?_)
  refine lv_aload_n hx hb dX3_putUntold_41 rfl (lv_at hl 1 rfl) ?_
  refine va_gets (v := .ref pu) hx hb w1 hS hown k_8 (fun _ h9 => h9) dX3_putUntold_42 ?_
  refine lv_iload_n hx hb dX3_putUntold_45 rfl (lv_at hl 0 rfl) ?_
  refine va_ti hx hb w2 hS (p1_in (i := 1) (n := 7) (by decide)) rfl dX3_putUntold_46 ?_
  refine lv_topi (fun v_71 ev_71 => ?_)
  have hPc := hP.sub (ws' := [(lw, .inr (3, lo_63)), (lc, .inl (cc1, 600, .inl cg_64))]) [1, 2] rfl
  have hDc := hD.sub (ws' := [(lw, .inr (3, lo_63)), (lc, .inl (cc1, 600, .inl cg_64))]) [1, 2] (by decide) rfl
  have hKc := hK.sub (tys' := [(cc1, .int)]) [0] rfl
  have hFc := va_free (wc := [(lw, .inr (3, lo_63)), (lc, .inl (cc1, 600, .inl cg_64))]) hD hS hA [1, 2] rfl
  refine va_calli (va_runV (As := [.int v_71]) (rest := []) ⟨hx, hb, hml, hown, hts⟩ (c_put6 l dC dI H.size lw lo_63 lc lb cc1 cg_64 v_71 z_66 z_67 z_68 z_69 z_65) (cwV 1 hts (p1_gV m_1 m_2 m_3 m_4 g_c_put6 gz_c_put6) rfl rfl rfl (by decide +kernel) ⟨by decide, by decide⟩) ⟨fun a U g mk q => by obtain ⟨q0, q1, qP, qK, qD⟩ := q; exact ⟨q0, q1, qP, va_K.moved (u := U) (U := U.calling g mk a) (Vm.Alike.refl U.vm) qK, qD⟩, va_recv hKc hPc (ci := 3) (q0 := 0) rfl rfl, fun U hU hW => ⟨rfl, by rw [hU], by rw [hU]; exact hPc, va_K.moved hW.alike hKc, hDc.weaken (fun _ _ _ _ => trivial)⟩⟩ rfl rfl hl.1 rfl (lv_room (Nat.le_of_ble_eq_true rfl)) dX3_putUntold_47 ⟨by decide, by decide⟩) hS (fun q _ h => hFc q h) hFc (fun r_72 u t H1 locs ht hvm hw hB hz1 hk1 hS => ?_)
  obtain ⟨lo_73, cg_74, z_75, z_76, z_77, z_78, z_79, hP1, hK1, hD1⟩ := hB
  rw [ht] at hP1
  obtain ⟨hP, hD⟩ := va_join (wr := [(lb, .inl (cb1, 6, .inl bg_54))]) (w1 := [(lw, .inr (3, lo_73)), (lc, .inl (cc1, 600, .inl cg_74))]) hP hD [1, 2] [0] rfl rfl (by decide) (by decide) hk1 hFc hP1 hD1
  generalize H1 = H at hP hS ⊢
  have hP : va_P (dC, dI) vwCl [(lb, .inl (cb1, 6, .inl bg_54)), (lw, .inr (3, lo_73)), (lc, .inl (cc1, 600, .inl cg_74))] H := hP
  have hD : va_D A [(lb, .inl (cb1, 6, .inl bg_54)), (lw, .inr (3, lo_73)), (lc, .inl (cc1, 600, .inl cg_74))] := hD
  try dsimp only at hw
  obtain rfl : r_72 = 1 := hw
  refine lv_pop hx hb dX3_putUntold_50 rfl ?_
  refine lv_iinc (v := 2) (lv' := [(1, .int 2), (0, .ref lw)]) hx hb dX3_putUntold_51 hl (k := 0) rfl (by decide) (by decide) rfl (fun ls hl => ?_)
  refine lv_goto (tgt := 33) hx hb dX3_putUntold_54 (by decide) ?_
  refine lv_iload_n hx hb dX3_putUntold_33 rfl (lv_at hl 0 rfl) ?_
  refine va_gets (v := .ref pu) hx hb w1 hS hown k_8 (fun _ h9 => h9) dX3_putUntold_34 ?_
  refine va_tlen (v := 7) hx hb w2 hS rfl dX3_putUntold_37 ?_
  refine lv_icmp_ge (tgt := 57) hx hb dX3_putUntold_38 (by decide) (fun c9 => absurd c9 (by decide)) (fun _ => ?_)
  refine lv_aload_n hx hb dX3_putUntold_41 rfl (lv_at hl 1 rfl) ?_
  refine va_gets (v := .ref pu) hx hb w1 hS hown k_8 (fun _ h9 => h9) dX3_putUntold_42 ?_
  refine lv_iload_n hx hb dX3_putUntold_45 rfl (lv_at hl 0 rfl) ?_
  refine va_ti hx hb w2 hS (p1_in (i := 2) (n := 7) (by decide)) rfl dX3_putUntold_46 ?_
  refine lv_topi (fun v_81 ev_81 => ?_)
  have hPc := hP.sub (ws' := [(lw, .inr (3, lo_73)), (lc, .inl (cc1, 600, .inl cg_74))]) [1, 2] rfl
  have hDc := hD.sub (ws' := [(lw, .inr (3, lo_73)), (lc, .inl (cc1, 600, .inl cg_74))]) [1, 2] (by decide) rfl
  have hKc := hK.sub (tys' := [(cc1, .int)]) [0] rfl
  have hFc := va_free (wc := [(lw, .inr (3, lo_73)), (lc, .inl (cc1, 600, .inl cg_74))]) hD hS hA [1, 2] rfl
  refine va_calli (va_runV (As := [.int v_81]) (rest := []) ⟨hx, hb, hml, hown, hts⟩ (c_put7 l dC dI H.size lw lo_73 lc lb cc1 cg_74 v_81 z_76 z_77 z_78 z_79 z_75) (cwV 1 hts (p1_gV m_1 m_2 m_3 m_4 g_c_put7 gz_c_put7) rfl rfl rfl (by decide +kernel) ⟨by decide, by decide⟩) ⟨fun a U g mk q => by obtain ⟨q0, q1, qP, qK, qD⟩ := q; exact ⟨q0, q1, qP, va_K.moved (u := U) (U := U.calling g mk a) (Vm.Alike.refl U.vm) qK, qD⟩, va_recv hKc hPc (ci := 3) (q0 := 0) rfl rfl, fun U hU hW => ⟨rfl, by rw [hU], by rw [hU]; exact hPc, va_K.moved hW.alike hKc, hDc.weaken (fun _ _ _ _ => trivial)⟩⟩ rfl rfl hl.1 rfl (lv_room (Nat.le_of_ble_eq_true rfl)) dX3_putUntold_47 ⟨by decide, by decide⟩) hS (fun q _ h => hFc q h) hFc (fun r_82 u t H1 locs ht hvm hw hB hz1 hk1 hS => ?_)
  obtain ⟨lo_83, cg_84, z_85, z_86, z_87, z_88, z_89, hP1, hK1, hD1⟩ := hB
  rw [ht] at hP1
  obtain ⟨hP, hD⟩ := va_join (wr := [(lb, .inl (cb1, 6, .inl bg_54))]) (w1 := [(lw, .inr (3, lo_83)), (lc, .inl (cc1, 600, .inl cg_84))]) hP hD [1, 2] [0] rfl rfl (by decide) (by decide) hk1 hFc hP1 hD1
  generalize H1 = H at hP hS ⊢
  have hP : va_P (dC, dI) vwCl [(lb, .inl (cb1, 6, .inl bg_54)), (lw, .inr (3, lo_83)), (lc, .inl (cc1, 600, .inl cg_84))] H := hP
  have hD : va_D A [(lb, .inl (cb1, 6, .inl bg_54)), (lw, .inr (3, lo_83)), (lc, .inl (cc1, 600, .inl cg_84))] := hD
  try dsimp only at hw
  obtain rfl : r_82 = 1 := hw
  refine lv_pop hx hb dX3_putUntold_50 rfl ?_
  refine lv_iinc (v := 3) (lv' := [(1, .int 3), (0, .ref lw)]) hx hb dX3_putUntold_51 hl (k := 0) rfl (by decide) (by decide) rfl (fun ls hl => ?_)
  refine lv_goto (tgt := 33) hx hb dX3_putUntold_54 (by decide) ?_
  refine lv_iload_n hx hb dX3_putUntold_33 rfl (lv_at hl 0 rfl) ?_
  refine va_gets (v := .ref pu) hx hb w1 hS hown k_8 (fun _ h9 => h9) dX3_putUntold_34 ?_
  refine va_tlen (v := 7) hx hb w2 hS rfl dX3_putUntold_37 ?_
  refine lv_icmp_ge (tgt := 57) hx hb dX3_putUntold_38 (by decide) (fun c9 => absurd c9 (by decide)) (fun _ => ?_)
  refine lv_aload_n hx hb dX3_putUntold_41 rfl (lv_at hl 1 rfl) ?_
  refine va_gets (v := .ref pu) hx hb w1 hS hown k_8 (fun _ h9 => h9) dX3_putUntold_42 ?_
  refine lv_iload_n hx hb dX3_putUntold_45 rfl (lv_at hl 0 rfl) ?_
  refine va_ti hx hb w2 hS (p1_in (i := 3) (n := 7) (by decide)) rfl dX3_putUntold_46 ?_
  refine lv_topi (fun v_91 ev_91 => ?_)
  have hPc := hP.sub (ws' := [(lw, .inr (3, lo_83)), (lc, .inl (cc1, 600, .inl cg_84))]) [1, 2] rfl
  have hDc := hD.sub (ws' := [(lw, .inr (3, lo_83)), (lc, .inl (cc1, 600, .inl cg_84))]) [1, 2] (by decide) rfl
  have hKc := hK.sub (tys' := [(cc1, .int)]) [0] rfl
  have hFc := va_free (wc := [(lw, .inr (3, lo_83)), (lc, .inl (cc1, 600, .inl cg_84))]) hD hS hA [1, 2] rfl
  refine va_calli (va_runV (As := [.int v_91]) (rest := []) ⟨hx, hb, hml, hown, hts⟩ (c_put8 l dC dI H.size lw lo_83 lc lb cc1 cg_84 v_91 z_86 z_87 z_88 z_89 z_85) (cwV 1 hts (p1_gV m_1 m_2 m_3 m_4 g_c_put8 gz_c_put8) rfl rfl rfl (by decide +kernel) ⟨by decide, by decide⟩) ⟨fun a U g mk q => by obtain ⟨q0, q1, qP, qK, qD⟩ := q; exact ⟨q0, q1, qP, va_K.moved (u := U) (U := U.calling g mk a) (Vm.Alike.refl U.vm) qK, qD⟩, va_recv hKc hPc (ci := 3) (q0 := 0) rfl rfl, fun U hU hW => ⟨rfl, by rw [hU], by rw [hU]; exact hPc, va_K.moved hW.alike hKc, hDc.weaken (fun _ _ _ _ => trivial)⟩⟩ rfl rfl hl.1 rfl (lv_room (Nat.le_of_ble_eq_true rfl)) dX3_putUntold_47 ⟨by decide, by decide⟩) hS (fun q _ h => hFc q h) hFc (fun r_92 u t H1 locs ht hvm hw hB hz1 hk1 hS => ?_)
  obtain ⟨lo_93, cg_94, z_95, z_96, z_97, z_98, z_99, hP1, hK1, hD1⟩ := hB
  rw [ht] at hP1
  obtain ⟨hP, hD⟩ := va_join (wr := [(lb, .inl (cb1, 6, .inl bg_54))]) (w1 := [(lw, .inr (3, lo_93)), (lc, .inl (cc1, 600, .inl cg_94))]) hP hD [1, 2] [0] rfl rfl (by decide) (by decide) hk1 hFc hP1 hD1
  generalize H1 = H at hP hS ⊢
  have hP : va_P (dC, dI) vwCl [(lb, .inl (cb1, 6, .inl bg_54)), (lw, .inr (3, lo_93)), (lc, .inl (cc1, 600, .inl cg_94))] H := hP
  have hD : va_D A [(lb, .inl (cb1, 6, .inl bg_54)), (lw, .inr (3, lo_93)), (lc, .inl (cc1, 600, .inl cg_94))] := hD
  try dsimp only at hw
  obtain rfl : r_92 = 1 := hw
  refine lv_pop hx hb dX3_putUntold_50 rfl ?_
  refine lv_iinc (v := 4) (lv' := [(1, .int 4), (0, .ref lw)]) hx hb dX3_putUntold_51 hl (k := 0) rfl (by decide) (by decide) rfl (fun ls hl => ?_)
  refine lv_goto (tgt := 33) hx hb dX3_putUntold_54 (by decide) ?_
  refine lv_iload_n hx hb dX3_putUntold_33 rfl (lv_at hl 0 rfl) ?_
  refine va_gets (v := .ref pu) hx hb w1 hS hown k_8 (fun _ h9 => h9) dX3_putUntold_34 ?_
  refine va_tlen (v := 7) hx hb w2 hS rfl dX3_putUntold_37 ?_
  refine lv_icmp_ge (tgt := 57) hx hb dX3_putUntold_38 (by decide) (fun c9 => absurd c9 (by decide)) (fun _ => ?_)
  refine lv_aload_n hx hb dX3_putUntold_41 rfl (lv_at hl 1 rfl) ?_
  refine va_gets (v := .ref pu) hx hb w1 hS hown k_8 (fun _ h9 => h9) dX3_putUntold_42 ?_
  refine lv_iload_n hx hb dX3_putUntold_45 rfl (lv_at hl 0 rfl) ?_
  refine va_ti hx hb w2 hS (p1_in (i := 4) (n := 7) (by decide)) rfl dX3_putUntold_46 ?_
  refine lv_topi (fun v_101 ev_101 => ?_)
  have hPc := hP.sub (ws' := [(lw, .inr (3, lo_93)), (lc, .inl (cc1, 600, .inl cg_94))]) [1, 2] rfl
  have hDc := hD.sub (ws' := [(lw, .inr (3, lo_93)), (lc, .inl (cc1, 600, .inl cg_94))]) [1, 2] (by decide) rfl
  have hKc := hK.sub (tys' := [(cc1, .int)]) [0] rfl
  have hFc := va_free (wc := [(lw, .inr (3, lo_93)), (lc, .inl (cc1, 600, .inl cg_94))]) hD hS hA [1, 2] rfl
  refine va_calli (va_runV (As := [.int v_101]) (rest := []) ⟨hx, hb, hml, hown, hts⟩ (c_put9 l dC dI H.size lw lo_93 lc lb cc1 cg_94 v_101 z_96 z_97 z_98 z_99 z_95) (cwV 1 hts (p1_gV m_1 m_2 m_3 m_4 g_c_put9 gz_c_put9) rfl rfl rfl (by decide +kernel) ⟨by decide, by decide⟩) ⟨fun a U g mk q => by obtain ⟨q0, q1, qP, qK, qD⟩ := q; exact ⟨q0, q1, qP, va_K.moved (u := U) (U := U.calling g mk a) (Vm.Alike.refl U.vm) qK, qD⟩, va_recv hKc hPc (ci := 3) (q0 := 0) rfl rfl, fun U hU hW => ⟨rfl, by rw [hU], by rw [hU]; exact hPc, va_K.moved hW.alike hKc, hDc.weaken (fun _ _ _ _ => trivial)⟩⟩ rfl rfl hl.1 rfl (lv_room (Nat.le_of_ble_eq_true rfl)) dX3_putUntold_47 ⟨by decide, by decide⟩) hS (fun q _ h => hFc q h) hFc (fun r_102 u t H1 locs ht hvm hw hB hz1 hk1 hS => ?_)
  obtain ⟨lo_103, cg_104, z_105, z_106, z_107, z_108, z_109, hP1, hK1, hD1⟩ := hB
  rw [ht] at hP1
  obtain ⟨hP, hD⟩ := va_join (wr := [(lb, .inl (cb1, 6, .inl bg_54))]) (w1 := [(lw, .inr (3, lo_103)), (lc, .inl (cc1, 600, .inl cg_104))]) hP hD [1, 2] [0] rfl rfl (by decide) (by decide) hk1 hFc hP1 hD1
  generalize H1 = H at hP hS ⊢
  have hP : va_P (dC, dI) vwCl [(lb, .inl (cb1, 6, .inl bg_54)), (lw, .inr (3, lo_103)), (lc, .inl (cc1, 600, .inl cg_104))] H := hP
  have hD : va_D A [(lb, .inl (cb1, 6, .inl bg_54)), (lw, .inr (3, lo_103)), (lc, .inl (cc1, 600, .inl cg_104))] := hD
  try dsimp only at hw
  obtain rfl : r_102 = 1 := hw
  refine lv_pop hx hb dX3_putUntold_50 rfl ?_
  refine lv_iinc (v := 5) (lv' := [(1, .int 5), (0, .ref lw)]) hx hb dX3_putUntold_51 hl (k := 0) rfl (by decide) (by decide) rfl (fun ls hl => ?_)
  refine lv_goto (tgt := 33) hx hb dX3_putUntold_54 (by decide) ?_
  refine lv_iload_n hx hb dX3_putUntold_33 rfl (lv_at hl 0 rfl) ?_
  refine va_gets (v := .ref pu) hx hb w1 hS hown k_8 (fun _ h9 => h9) dX3_putUntold_34 ?_
  refine va_tlen (v := 7) hx hb w2 hS rfl dX3_putUntold_37 ?_
  refine lv_icmp_ge (tgt := 57) hx hb dX3_putUntold_38 (by decide) (fun c9 => absurd c9 (by decide)) (fun _ => ?_)
  refine lv_aload_n hx hb dX3_putUntold_41 rfl (lv_at hl 1 rfl) ?_
  refine va_gets (v := .ref pu) hx hb w1 hS hown k_8 (fun _ h9 => h9) dX3_putUntold_42 ?_
  refine lv_iload_n hx hb dX3_putUntold_45 rfl (lv_at hl 0 rfl) ?_
  refine va_ti hx hb w2 hS (p1_in (i := 5) (n := 7) (by decide)) rfl dX3_putUntold_46 ?_
  refine lv_topi (fun v_111 ev_111 => ?_)
  have hPc := hP.sub (ws' := [(lw, .inr (3, lo_103)), (lc, .inl (cc1, 600, .inl cg_104))]) [1, 2] rfl
  have hDc := hD.sub (ws' := [(lw, .inr (3, lo_103)), (lc, .inl (cc1, 600, .inl cg_104))]) [1, 2] (by decide) rfl
  have hKc := hK.sub (tys' := [(cc1, .int)]) [0] rfl
  have hFc := va_free (wc := [(lw, .inr (3, lo_103)), (lc, .inl (cc1, 600, .inl cg_104))]) hD hS hA [1, 2] rfl
  refine va_calli (va_runV (As := [.int v_111]) (rest := []) ⟨hx, hb, hml, hown, hts⟩ (c_put10 l dC dI H.size lw lo_103 lc lb cc1 cg_104 v_111 z_106 z_107 z_108 z_109 z_105) (cwV 1 hts (p1_gV m_1 m_2 m_3 m_4 g_c_put10 gz_c_put10) rfl rfl rfl (by decide +kernel) ⟨by decide, by decide⟩) ⟨fun a U g mk q => by obtain ⟨q0, q1, qP, qK, qD⟩ := q; exact ⟨q0, q1, qP, va_K.moved (u := U) (U := U.calling g mk a) (Vm.Alike.refl U.vm) qK, qD⟩, va_recv hKc hPc (ci := 3) (q0 := 0) rfl rfl, fun U hU hW => ⟨rfl, by rw [hU], by rw [hU]; exact hPc, va_K.moved hW.alike hKc, hDc.weaken (fun _ _ _ _ => trivial)⟩⟩ rfl rfl hl.1 rfl (lv_room (Nat.le_of_ble_eq_true rfl)) dX3_putUntold_47 ⟨by decide, by decide⟩) hS (fun q _ h => hFc q h) hFc (fun r_112 u t H1 locs ht hvm hw hB hz1 hk1 hS => ?_)
  obtain ⟨lo_113, cg_114, z_115, z_116, z_117, z_118, z_119, hP1, hK1, hD1⟩ := hB
  rw [ht] at hP1
  obtain ⟨hP, hD⟩ := va_join (wr := [(lb, .inl (cb1, 6, .inl bg_54))]) (w1 := [(lw, .inr (3, lo_113)), (lc, .inl (cc1, 600, .inl cg_114))]) hP hD [1, 2] [0] rfl rfl (by decide) (by decide) hk1 hFc hP1 hD1
  generalize H1 = H at hP hS ⊢
  have hP : va_P (dC, dI) vwCl [(lb, .inl (cb1, 6, .inl bg_54)), (lw, .inr (3, lo_113)), (lc, .inl (cc1, 600, .inl cg_114))] H := hP
  have hD : va_D A [(lb, .inl (cb1, 6, .inl bg_54)), (lw, .inr (3, lo_113)), (lc, .inl (cc1, 600, .inl cg_114))] := hD
  try dsimp only at hw
  obtain rfl : r_112 = 1 := hw
  refine lv_pop hx hb dX3_putUntold_50 rfl ?_
  refine lv_iinc (v := 6) (lv' := [(1, .int 6), (0, .ref lw)]) hx hb dX3_putUntold_51 hl (k := 0) rfl (by decide) (by decide) rfl (fun ls hl => ?_)
  refine lv_goto (tgt := 33) hx hb dX3_putUntold_54 (by decide) ?_
  refine lv_iload_n hx hb dX3_putUntold_33 rfl (lv_at hl 0 rfl) ?_
  refine va_gets (v := .ref pu) hx hb w1 hS hown k_8 (fun _ h9 => h9) dX3_putUntold_34 ?_
  refine va_tlen (v := 7) hx hb w2 hS rfl dX3_putUntold_37 ?_
  refine lv_icmp_ge (tgt := 57) hx hb dX3_putUntold_38 (by decide) (fun c9 => absurd c9 (by decide)) (fun _ => ?_)
  refine lv_aload_n hx hb dX3_putUntold_41 rfl (lv_at hl 1 rfl) ?_
  refine va_gets (v := .ref pu) hx hb w1 hS hown k_8 (fun _ h9 => h9) dX3_putUntold_42 ?_
  refine lv_iload_n hx hb dX3_putUntold_45 rfl (lv_at hl 0 rfl) ?_
  refine va_ti hx hb w2 hS (p1_in (i := 6) (n := 7) (by decide)) rfl dX3_putUntold_46 ?_
  refine lv_topi (fun v_121 ev_121 => ?_)
  have hPc := hP.sub (ws' := [(lw, .inr (3, lo_113)), (lc, .inl (cc1, 600, .inl cg_114))]) [1, 2] rfl
  have hDc := hD.sub (ws' := [(lw, .inr (3, lo_113)), (lc, .inl (cc1, 600, .inl cg_114))]) [1, 2] (by decide) rfl
  have hKc := hK.sub (tys' := [(cc1, .int)]) [0] rfl
  have hFc := va_free (wc := [(lw, .inr (3, lo_113)), (lc, .inl (cc1, 600, .inl cg_114))]) hD hS hA [1, 2] rfl
  refine va_calli (va_runV (As := [.int v_121]) (rest := []) ⟨hx, hb, hml, hown, hts⟩ (c_put11 l dC dI H.size lw lo_113 lc lb cc1 cg_114 v_121 z_116 z_117 z_118 z_119 z_115) (cwV 1 hts (p1_gV m_1 m_2 m_3 m_4 g_c_put11 gz_c_put11) rfl rfl rfl (by decide +kernel) ⟨by decide, by decide⟩) ⟨fun a U g mk q => by obtain ⟨q0, q1, qP, qK, qD⟩ := q; exact ⟨q0, q1, qP, va_K.moved (u := U) (U := U.calling g mk a) (Vm.Alike.refl U.vm) qK, qD⟩, va_recv hKc hPc (ci := 3) (q0 := 0) rfl rfl, fun U hU hW => ⟨rfl, by rw [hU], by rw [hU]; exact hPc, va_K.moved hW.alike hKc, hDc.weaken (fun _ _ _ _ => trivial)⟩⟩ rfl rfl hl.1 rfl (lv_room (Nat.le_of_ble_eq_true rfl)) dX3_putUntold_47 ⟨by decide, by decide⟩) hS (fun q _ h => hFc q h) hFc (fun r_122 u t H1 locs ht hvm hw hB hz1 hk1 hS => ?_)
  obtain ⟨lo_123, cg_124, z_125, z_126, z_127, z_128, z_129, hP1, hK1, hD1⟩ := hB
  rw [ht] at hP1
  obtain ⟨hP, hD⟩ := va_join (wr := [(lb, .inl (cb1, 6, .inl bg_54))]) (w1 := [(lw, .inr (3, lo_123)), (lc, .inl (cc1, 600, .inl cg_124))]) hP hD [1, 2] [0] rfl rfl (by decide) (by decide) hk1 hFc hP1 hD1
  generalize H1 = H at hP hS ⊢
  have hP : va_P (dC, dI) vwCl [(lb, .inl (cb1, 6, .inl bg_54)), (lw, .inr (3, lo_123)), (lc, .inl (cc1, 600, .inl cg_124))] H := hP
  have hD : va_D A [(lb, .inl (cb1, 6, .inl bg_54)), (lw, .inr (3, lo_123)), (lc, .inl (cc1, 600, .inl cg_124))] := hD
  try dsimp only at hw
  obtain rfl : r_122 = 1 := hw
  refine lv_pop hx hb dX3_putUntold_50 rfl ?_
  refine lv_iinc (v := 7) (lv' := [(1, .int 7), (0, .ref lw)]) hx hb dX3_putUntold_51 hl (k := 0) rfl (by decide) (by decide) rfl (fun ls hl => ?_)
  refine lv_goto (tgt := 33) hx hb dX3_putUntold_54 (by decide) ?_
  refine lv_iload_n hx hb dX3_putUntold_33 rfl (lv_at hl 0 rfl) ?_
  refine va_gets (v := .ref pu) hx hb w1 hS hown k_8 (fun _ h9 => h9) dX3_putUntold_34 ?_
  refine va_tlen (v := 7) hx hb w2 hS rfl dX3_putUntold_37 ?_
  refine lv_icmp_ge (tgt := 57) hx hb dX3_putUntold_38 (by decide) (fun _ => ?_) (fun c9 => absurd c9 (by decide))
  refine lv_aload_n hx hb dX3_putUntold_57 rfl (lv_at hl 1 rfl) ?_
  have hPc := hP.sub (ws' := [(lw, .inr (3, lo_123)), (lb, .inl (cb1, 6, .inl bg_54))]) [1, 0] rfl
  have hDc := hD.sub (ws' := [(lw, .inr (3, lo_123)), (lb, .inl (cb1, 6, .inl bg_54))]) [1, 0] (by decide) rfl
  have hKc := hK.sub (tys' := [(cb1, .int)]) [1] rfl
  have hFc := va_free (wc := [(lw, .inr (3, lo_123)), (lb, .inl (cb1, 6, .inl bg_54))]) hD hS hA [1, 0] rfl
  refine va_calli (va_runV (As := []) (rest := []) ⟨hx, hb, hml, hown, hts⟩ (c_endRow1 l dC dI H.size lw lo_123 lc lb cb1 bg_54 z_126 z_127 z_128 z_129 z_125) (cwV 0 hts (p1_gV m_5 m_6 m_7 m_4 g_c_endRow1 gz_c_endRow1) rfl rfl rfl (by decide +kernel) ⟨by decide, by decide⟩) ⟨fun a U g mk q => by obtain ⟨q0, q1, qP, qK, qD⟩ := q; exact ⟨q0, q1, qP, va_K.moved (u := U) (U := U.calling g mk a) (Vm.Alike.refl U.vm) qK, qD⟩, va_recv hKc hPc (ci := 3) (q0 := 0) rfl rfl, fun U hU hW => ⟨rfl, by rw [hU], by rw [hU]; exact hPc, va_K.moved hW.alike hKc, hDc.weaken (fun _ _ _ _ => trivial)⟩⟩ rfl rfl hl.1 rfl (lv_room (Nat.le_of_ble_eq_true rfl)) dX3_putUntold_58 ⟨by decide, by decide⟩) hS (fun q _ h => hFc q h) hFc (fun r_131 u t H1 locs ht hvm hw hB hz1 hk1 hS => ?_)
  obtain ⟨lo_132, bg_133, z_134, z_135, z_136, z_137, z_138, hP1, hK1, hD1⟩ := hB
  rw [ht] at hP1
  obtain ⟨hP, hD⟩ := va_join (wr := [(lc, .inl (cc1, 600, .inl cg_124))]) (w1 := [(lw, .inr (3, lo_132)), (lb, .inl (cb1, 6, .inl bg_133))]) hP hD [1, 0] [2] rfl rfl (by decide) (by decide) hk1 hFc hP1 hD1
  generalize H1 = H at hP hS ⊢
  have hP : va_P (dC, dI) vwCl [(lc, .inl (cc1, 600, .inl cg_124)), (lw, .inr (3, lo_132)), (lb, .inl (cb1, 6, .inl bg_133))] H := hP
  have hD : va_D A [(lc, .inl (cc1, 600, .inl cg_124)), (lw, .inr (3, lo_132)), (lb, .inl (cb1, 6, .inl bg_133))] := hD
  try dsimp only at hw
  obtain rfl : r_131 = 1 := hw
  refine lv_pop hx hb dX3_putUntold_61 rfl ?_
  have hP9 := hP.sub (ws' := []) [] rfl
  have hD9 := hD.sub (ws' := []) [] (by decide) rfl
  have hK9 := hK.sub (tys' := []) [] rfl
  exact W.vret hx hb hr (fun t ht hW => ⟨⟨(), rfl, trivial, by rw [ht]; exact hP9, va_K.moved hW.alike hK9, hD9⟩, hS.F ht⟩) hS.2.2 dX3_putUntold_62
def zo_c_readShop0 : List Cond := [.code yX4_readShop cX4_readShop 4 (some .boolean), .fieldLink RX4 17 "BowWalk$Reader" "text" "[B", .methodLink RX4 69 Lib.Math.min.name, .static Lib.Math.min.name, .initialized "java/lang/Math", .code Lib.Math.min.name Lib.Math.min.code 2 (some .int), .fieldLink RX4 21 "BowWalk$Reader" "length" "I", .fieldLink RX4 25 "BowWalk$Reader" "at" "I", .fieldLink RX4 48 "BowWalk$Reader" "faultKind" "I", .fieldLink RX4 51 "BowWalk$Reader" "faultPlace" "I", .fieldLink RX4 44 "BowWalk$Reader" "draft" "LBowWalk$Shop;", .methodLink RX4 75 yX5_clear, .instanceMethod yX5_clear, .selects RX5 yX5_clear yX5_clear, .initialized RX5, .methodLink RX4 78 yX4_step, .instanceMethod yX4_step, .selects RX4 yX4_step yX4_step, .initialized RX4, .fieldLink RX4 28 "BowWalk$Reader" "token" "I", .fieldLink RX4 85 "BowWalk$Shop" "count" "[I", .fieldLink RX4 89 "BowWalk$Shop" "laws" "LBowWalk$Laws;", .methodLink RX4 93 yX3_putUntold, .instanceMethod yX3_putUntold, .selects RX3 yX3_putUntold yX3_putUntold, .initialized RX3]
def zw_c_readShop0 : List Cond := zo_c_readShop0 ++ (zw_c_sclear ++ (zw_c_step0 ++ (zw_c_putUntold ++ (wsX40 ++ (wsX50 ++ [])))))
theorem gz_c_readShop0 : zw_c_readShop0.all goodWord = true := p1_ga (by decide +kernel) (p1_ga gz_c_sclear (p1_ga gz_c_step0 (p1_ga gz_c_putUntold (p1_ga gk_X4 (p1_ga gk_X5 p1_g0)))))
theorem iz_c_readShop0 : ∀ w ∈ zw_c_readShop0, w ∈ lw_tbl := p1_ia (p1_all [561, 308, 562, 563, 117, 564, 309, 310, 317, 319, 315, 565, 566, 567, 106, 573, 575, 1, 105, 311, 175, 213, 696, 697, 698, 107] (by decide +kernel)) (p1_ia iz_c_sclear (p1_ia iz_c_step0 (p1_ia iz_c_putUntold (p1_ia ik_X4 (p1_ia ik_X5 p1_i0)))))
set_option maxHeartbeats 4000000 in
set_option maxRecDepth 100000 in
theorem c_readShop0 (l : Launch) (dC : Nat → ClassId) (dI : Nat → Nat → Nat) (sz : Nat) (rd : Nat) (rfs : List Value) (sh : Nat) (tp : Nat) (cT : ClassId) (sfs : List Value) (sc : Nat) (lw : Nat) (on : Nat) (ot : Nat) (cS : ClassId) (lf : List Value) (lc : Nat) (lb : Nat) (cN : ClassId) (nf : Nat → Int32) (cO : ClassId) (cc1 : ClassId) (cb1 : ClassId) (f_rfs_8 : rfs[8]? = some (.ref sh)) (l_rfs : rfs.length = 11) (f_sfs_0 : sfs[0]? = some (.ref sc)) (f_sfs_12 : sfs[12]? = some (.ref lw)) (f_sfs_13 : sfs[13]? = some (.ref on)) (f_sfs_14 : sfs[14]? = some (.ref ot)) (f_lf_0 : lf[0]? = some (.ref lc)) (f_lf_1 : lf[1]? = some (.ref lb)) (l_lf : lf.length = 6) : Met l yX4_readShop zw_c_readShop0 ({ frames := 2, cells := 0, slots := 0, locals := 42 }) (va_Pc [.ref rd, .ref tp, .int 0] (fun U => U.heap.size = sz ∧ va_P (dC, dI) vwCl [(rd, .inr (4, rfs)), (tp, .inl (cT, 1600, .inl (fun _ => 0))), (sh, .inr (5, sfs)), (sc, .inl (cS, 5, .inl (fun _ => 0))), (lw, .inr (3, lf)), (on, .inl (cN, 2, .inl nf)), (ot, .inl (cO, 2, .inl (fun _ => 0))), (lc, .inl (cc1, 600, .inl (fun _ => 0))), (lb, .inl (cb1, 6, .inl (fun _ => 0)))] U.heap ∧ va_K (dC, dI) vwCl [(cT, .byte), (cS, .int), (cN, .int), (cO, .boolean), (cc1, .int), (cb1, .int)] U ∧ va_D (fun _ => True) [(rd, .inr (4, rfs)), (tp, .inl (cT, 1600, .inl (fun _ => 0))), (sh, .inr (5, sfs)), (sc, .inl (cS, 5, .inl (fun _ => 0))), (lw, .inr (3, lf)), (on, .inl (cN, 2, .inl nf)), (ot, .inl (cO, 2, .inl (fun _ => 0))), (lc, .inl (cc1, 600, .inl (fun _ => 0))), (lb, .inl (cb1, 6, .inl (fun _ => 0)))] ∧ p1_ex (va_A [(rd, .inr (4, rfs)), (tp, .inl (cT, 1600, .inl (fun _ => 0))), (sh, .inr (5, sfs)), (sc, .inl (cS, 5, .inl (fun _ => 0))), (lw, .inr (3, lf)), (on, .inl (cN, 2, .inl nf)), (ot, .inl (cO, 2, .inl (fun _ => 0))), (lc, .inl (cc1, 600, .inl (fun _ => 0))), (lb, .inl (cb1, 6, .inl (fun _ => 0)))] sz) U U.heap)) (va_Qi (fun (r : Int32) (_ : Unit) => r = 1) (fun _ t => ∃ (ro : List Value) (so : List Value) (sg : Nat → Int32), ro.length = 11 ∧ ro[8]? = some (.ref sh) ∧ so[0]? = some (.ref sc) ∧ sg 0 = 0 ∧ va_P (dC, dI) vwCl [(rd, .inr (4, ro)), (sh, .inr (5, so)), (sc, .inl (cS, 5, .inl sg))] t.heap ∧ va_K (dC, dI) vwCl [] t ∧ va_D (va_A [(rd, .inr (4, rfs)), (tp, .inl (cT, 1600, .inl (fun _ => 0))), (sh, .inr (5, sfs)), (sc, .inl (cS, 5, .inl (fun _ => 0))), (lw, .inr (3, lf)), (on, .inl (cN, 2, .inl nf)), (ot, .inl (cO, 2, .inl (fun _ => 0))), (lc, .inl (cc1, 600, .inl (fun _ => 0))), (lb, .inl (cb1, 6, .inl (fun _ => 0)))] sz) [(rd, .inr (4, ro)), (sh, .inr (5, so)), (sc, .inl (cS, 5, .inl sg))]) (va_A [(rd, .inr (4, rfs)), (tp, .inl (cT, 1600, .inl (fun _ => 0))), (sh, .inr (5, sfs)), (sc, .inl (cS, 5, .inl (fun _ => 0))), (lw, .inr (3, lf)), (on, .inl (cN, 2, .inl nf)), (ot, .inl (cO, 2, .inl (fun _ => 0))), (lc, .inl (cc1, 600, .inl (fun _ => 0))), (lb, .inl (cb1, 6, .inl (fun _ => 0)))] sz)) 0 0 (va_A [(rd, .inr (4, rfs)), (tp, .inl (cT, 1600, .inl (fun _ => 0))), (sh, .inr (5, sfs)), (sc, .inl (cS, 5, .inl (fun _ => 0))), (lw, .inr (3, lf)), (on, .inl (cN, 2, .inl nf)), (ot, .inl (cO, 2, .inl (fun _ => 0))), (lc, .inl (cc1, 600, .inl (fun _ => 0))), (lb, .inl (cb1, 6, .inl (fun _ => 0)))] sz) := by
  refine Met.ofW (cc := cX4_readShop) (maxL := 4) (ret := (some .boolean)) (by decide) rfl ?_
  intro p e s m args below meth c s₁ B hml hv
  obtain ⟨rfl, hsz, hP, hK, hD0, hE⟩ := hv
  have hx := B.exec
  have hb := B.bytes
  have hr := B.returns
  have hts := atoms_spec (ws := zw_c_readShop0) B.pre
  have hown : s.vm.findClass RX4 = some m.cls := findClass_of_methodNamed B.named
  have hlocks := B.notSynchronized
  subst hsz
  have hD := hD0.self (sz := s.heap.size)
  generalize hAe : va_A [(rd, .inr (4, rfs)), (tp, .inl (cT, 1600, .inl (fun _ => 0))), (sh, .inr (5, sfs)), (sc, .inl (cS, 5, .inl (fun _ => 0))), (lw, .inr (3, lf)), (on, .inl (cN, 2, .inl nf)), (ot, .inl (cO, 2, .inl (fun _ => 0))), (lc, .inl (cc1, 600, .inl (fun _ => 0))), (lb, .inl (cb1, 6, .inl (fun _ => 0)))] s.heap.size = A at hD hE ⊢
  have hA : ∀ q : Nat, s.heap.size ≤ q → A q := fun q h => by rw [← hAe]; exact Or.inr h
  have hS : va_S A s.heap s.heap [] := va_S.rf
  have hP : va_P (dC, dI) vwCl [(rd, .inr (4, rfs)), (tp, .inl (cT, 1600, .inl (fun _ => 0))), (sh, .inr (5, sfs)), (sc, .inl (cS, 5, .inl (fun _ => 0))), (lw, .inr (3, lf)), (on, .inl (cN, 2, .inl nf)), (ot, .inl (cO, 2, .inl (fun _ => 0))), (lc, .inl (cc1, 600, .inl (fun _ => 0))), (lb, .inl (cb1, 6, .inl (fun _ => 0)))] s.heap := hP
  obtain ⟨sK, sV, ru, pu, sf, rf, pf, ⟨n1, n2, n3, n4, n5, n6, n7, n8, n9⟩, ⟨o1, o2, o3⟩, r1, ⟨t1, t2, t3, t4⟩, z1, z2, ⟨y1, y2⟩, ⟨w1, w2⟩⟩ := id hE
  have m_0 : (.fieldLink RX4 17 "BowWalk$Reader" "text" "[B" : Cond) ∈ zw_c_readShop0 := List.mem_append_left _ (List.mem_of_getElem? (i := 1) rfl)
  have k_0 := hts _ m_0
  have m_1 : (.methodLink RX4 69 Lib.Math.min.name : Cond) ∈ zw_c_readShop0 := List.mem_append_left _ (List.mem_of_getElem? (i := 2) rfl)
  have k_1 := hts _ m_1
  have m_2 : (.static Lib.Math.min.name : Cond) ∈ zw_c_readShop0 := List.mem_append_left _ (List.mem_of_getElem? (i := 3) rfl)
  have k_2 := hts _ m_2
  have m_3 : (.initialized "java/lang/Math" : Cond) ∈ zw_c_readShop0 := List.mem_append_left _ (List.mem_of_getElem? (i := 4) rfl)
  have k_3 := hts _ m_3
  have m_4 : (.code Lib.Math.min.name Lib.Math.min.code 2 (some .int) : Cond) ∈ zw_c_readShop0 := List.mem_append_left _ (List.mem_of_getElem? (i := 5) rfl)
  have k_4 := hts _ m_4
  have m_5 : (.fieldLink RX4 21 "BowWalk$Reader" "length" "I" : Cond) ∈ zw_c_readShop0 := List.mem_append_left _ (List.mem_of_getElem? (i := 6) rfl)
  have k_5 := hts _ m_5
  have m_6 : (.fieldLink RX4 25 "BowWalk$Reader" "at" "I" : Cond) ∈ zw_c_readShop0 := List.mem_append_left _ (List.mem_of_getElem? (i := 7) rfl)
  have k_6 := hts _ m_6
  have m_7 : (.fieldLink RX4 48 "BowWalk$Reader" "faultKind" "I" : Cond) ∈ zw_c_readShop0 := List.mem_append_left _ (List.mem_of_getElem? (i := 8) rfl)
  have k_7 := hts _ m_7
  have m_8 : (.fieldLink RX4 51 "BowWalk$Reader" "faultPlace" "I" : Cond) ∈ zw_c_readShop0 := List.mem_append_left _ (List.mem_of_getElem? (i := 9) rfl)
  have k_8 := hts _ m_8
  have m_9 : (.fieldLink RX4 44 "BowWalk$Reader" "draft" "LBowWalk$Shop;" : Cond) ∈ zw_c_readShop0 := List.mem_append_left _ (List.mem_of_getElem? (i := 10) rfl)
  have k_9 := hts _ m_9
  have m_10 : (.methodLink RX4 75 yX5_clear : Cond) ∈ zw_c_readShop0 := List.mem_append_left _ (List.mem_of_getElem? (i := 11) rfl)
  have k_10 := hts _ m_10
  have m_11 : (.instanceMethod yX5_clear : Cond) ∈ zw_c_readShop0 := List.mem_append_left _ (List.mem_of_getElem? (i := 12) rfl)
  have k_11 := hts _ m_11
  have m_12 : (.selects RX5 yX5_clear yX5_clear : Cond) ∈ zw_c_readShop0 := List.mem_append_left _ (List.mem_of_getElem? (i := 13) rfl)
  have k_12 := hts _ m_12
  have m_13 : (.initialized RX5 : Cond) ∈ zw_c_readShop0 := List.mem_append_left _ (List.mem_of_getElem? (i := 14) rfl)
  have k_13 := hts _ m_13
  have m_14 : (.methodLink RX4 78 yX4_step : Cond) ∈ zw_c_readShop0 := List.mem_append_left _ (List.mem_of_getElem? (i := 15) rfl)
  have k_14 := hts _ m_14
  have m_15 : (.instanceMethod yX4_step : Cond) ∈ zw_c_readShop0 := List.mem_append_left _ (List.mem_of_getElem? (i := 16) rfl)
  have k_15 := hts _ m_15
  have m_16 : (.selects RX4 yX4_step yX4_step : Cond) ∈ zw_c_readShop0 := List.mem_append_left _ (List.mem_of_getElem? (i := 17) rfl)
  have k_16 := hts _ m_16
  have m_17 : (.initialized RX4 : Cond) ∈ zw_c_readShop0 := List.mem_append_left _ (List.mem_of_getElem? (i := 18) rfl)
  have k_17 := hts _ m_17
  have m_18 : (.fieldLink RX4 28 "BowWalk$Reader" "token" "I" : Cond) ∈ zw_c_readShop0 := List.mem_append_left _ (List.mem_of_getElem? (i := 19) rfl)
  have k_18 := hts _ m_18
  have m_19 : (.fieldLink RX4 85 "BowWalk$Shop" "count" "[I" : Cond) ∈ zw_c_readShop0 := List.mem_append_left _ (List.mem_of_getElem? (i := 20) rfl)
  have k_19 := hts _ m_19
  have m_20 : (.fieldLink RX4 89 "BowWalk$Shop" "laws" "LBowWalk$Laws;" : Cond) ∈ zw_c_readShop0 := List.mem_append_left _ (List.mem_of_getElem? (i := 21) rfl)
  have k_20 := hts _ m_20
  have m_21 : (.methodLink RX4 93 yX3_putUntold : Cond) ∈ zw_c_readShop0 := List.mem_append_left _ (List.mem_of_getElem? (i := 22) rfl)
  have k_21 := hts _ m_21
  have m_22 : (.instanceMethod yX3_putUntold : Cond) ∈ zw_c_readShop0 := List.mem_append_left _ (List.mem_of_getElem? (i := 23) rfl)
  have k_22 := hts _ m_22
  have m_23 : (.selects RX3 yX3_putUntold yX3_putUntold : Cond) ∈ zw_c_readShop0 := List.mem_append_left _ (List.mem_of_getElem? (i := 24) rfl)
  have k_23 := hts _ m_23
  have m_24 : (.initialized RX3 : Cond) ∈ zw_c_readShop0 := List.mem_append_left _ (List.mem_of_getElem? (i := 25) rfl)
  have k_24 := hts _ m_24
  have g_c_sclear : ∀ w ∈ zw_c_sclear, w ∈ zw_c_readShop0 := fun w h => List.mem_append_right _ (List.mem_append_left _ h)
  have g_c_step0 : ∀ w ∈ zw_c_step0, w ∈ zw_c_readShop0 := fun w h => List.mem_append_right _ (List.mem_append_right _ (List.mem_append_left _ h))
  have g_c_putUntold : ∀ w ∈ zw_c_putUntold, w ∈ zw_c_readShop0 := fun w h => List.mem_append_right _ (List.mem_append_right _ (List.mem_append_right _ (List.mem_append_left _ h)))
  have i_X4 : ∀ w ∈ u_ws RX4 TX4 11, w ∈ zw_c_readShop0 := fun w h => List.mem_append_right _ (List.mem_append_right _ (List.mem_append_right _ (List.mem_append_right _ (List.mem_append_left _ h))))
  have i_X5 : ∀ w ∈ u_ws RX5 TX5 15, w ∈ zw_c_readShop0 := fun w h => List.mem_append_right _ (List.mem_append_right _ (List.mem_append_right _ (List.mem_append_right _ (List.mem_append_right _ (List.mem_append_left _ h)))))
  have hl := lv_entry ([.ref rd, .ref tp, .int 0]) (n := 4) (Nat.le_of_ble_eq_true rfl)
  rw [lg_entry_eq]
  generalize (lg_sl ([.ref rd, .ref tp, .int 0]) ++ List.replicate (4 - (lg_sl ([.ref rd, .ref tp, .int 0])).length) Slot.unset).toArray = ls at hl ⊢
  have hl : lv_has ls 4 [(0, .ref rd), (1, .ref tp), (2, .int 0)] := hl
  refine lv_aload_n hx hb dX4_readShop_0 rfl (lv_at hl 0 rfl) ?_
  refine lv_aload_n hx hb dX4_readShop_1 rfl (lv_at hl 1 rfl) ?_
  refine va_put (D := (dC, dI)) (ci := 4) (v := .ref tp) (ty := .array .byte) (C := RX4) (T := TX4) (N := 11) hx hb hts i_X4 tyX4 tyX4_ok nmX4 hown hK hP hD hS 0 rfl rfl 1 (by decide) k_0 (fun _ h9 => h9) rfl (by decide +kernel) rfl rfl (by rw [l_rfs]; decide) dX4_readShop_2 (fun H locs hP hD hS => ?_)
  have hP : va_P (dC, dI) vwCl [(rd, .inr (4, (rfs.set 1 (.ref tp)))), (tp, .inl (cT, 1600, .inl (fun _ => 0))), (sh, .inr (5, sfs)), (sc, .inl (cS, 5, .inl (fun _ => 0))), (lw, .inr (3, lf)), (on, .inl (cN, 2, .inl nf)), (ot, .inl (cO, 2, .inl (fun _ => 0))), (lc, .inl (cc1, 600, .inl (fun _ => 0))), (lb, .inl (cb1, 6, .inl (fun _ => 0)))] H := hP
  have hD : va_D A [(rd, .inr (4, (rfs.set 1 (.ref tp)))), (tp, .inl (cT, 1600, .inl (fun _ => 0))), (sh, .inr (5, sfs)), (sc, .inl (cS, 5, .inl (fun _ => 0))), (lw, .inr (3, lf)), (on, .inl (cN, 2, .inl nf)), (ot, .inl (cO, 2, .inl (fun _ => 0))), (lc, .inl (cc1, 600, .inl (fun _ => 0))), (lb, .inl (cb1, 6, .inl (fun _ => 0)))] := hD
  generalize efs_1 : (rfs.set 1 (.ref tp)) = fs_1 at hP hD
  have lfs_1 : fs_1.length = 11 := by rw [← efs_1, List.length_set]; exact l_rfs
  have ffs_1_8 : fs_1[8]? = some (.ref sh) := by rw [← efs_1]; exact p1_sn (by decide) f_rfs_8
  have ffs_1_1 : fs_1[1]? = some (.ref tp) := by rw [← efs_1]; exact p1_sa l_rfs (by decide)
  refine lv_aload_n hx hb dX4_readShop_5 rfl (lv_at hl 0 rfl) ?_
  refine lv_iload_n hx hb dX4_readShop_6 rfl (lv_at hl 2 rfl) ?_
  refine lv_aload_n hx hb dX4_readShop_7 rfl (lv_at hl 1 rfl) ?_
  refine va_alen (v := 1600) hx hb hK hP 1 0 rfl rfl rfl dX4_readShop_8 ?_
  refine va_mmin hx hb (by rw [hml]; exact hl.1.symm) hown k_1 k_2 k_3 k_4 (Nat.le_of_ble_eq_true rfl) (Nat.le_of_ble_eq_true rfl) (Nat.le_of_ble_eq_true rfl) (Nat.le_of_ble_eq_true rfl) dX4_readShop_9 ?_
  refine lv_topi (fun v_2 ev_2 => ?_)
  obtain rfl : v_2 = 0 := ev_2.trans (by decide)
  refine va_put (D := (dC, dI)) (ci := 4) (v := .int 0) (ty := .int) (C := RX4) (T := TX4) (N := 11) hx hb hts i_X4 tyX4 tyX4_ok nmX4 hown hK hP hD hS 0 rfl rfl 2 (by decide) k_5 (fun _ h9 => h9) rfl (by decide +kernel) rfl rfl (by rw [lfs_1]; decide) dX4_readShop_12 (fun H locs hP hD hS => ?_)
  have hP : va_P (dC, dI) vwCl [(rd, .inr (4, (fs_1.set 2 (.int 0)))), (tp, .inl (cT, 1600, .inl (fun _ => 0))), (sh, .inr (5, sfs)), (sc, .inl (cS, 5, .inl (fun _ => 0))), (lw, .inr (3, lf)), (on, .inl (cN, 2, .inl nf)), (ot, .inl (cO, 2, .inl (fun _ => 0))), (lc, .inl (cc1, 600, .inl (fun _ => 0))), (lb, .inl (cb1, 6, .inl (fun _ => 0)))] H := hP
  have hD : va_D A [(rd, .inr (4, (fs_1.set 2 (.int 0)))), (tp, .inl (cT, 1600, .inl (fun _ => 0))), (sh, .inr (5, sfs)), (sc, .inl (cS, 5, .inl (fun _ => 0))), (lw, .inr (3, lf)), (on, .inl (cN, 2, .inl nf)), (ot, .inl (cO, 2, .inl (fun _ => 0))), (lc, .inl (cc1, 600, .inl (fun _ => 0))), (lb, .inl (cb1, 6, .inl (fun _ => 0)))] := hD
  generalize efs_3 : (fs_1.set 2 (.int 0)) = fs_3 at hP hD
  have lfs_3 : fs_3.length = 11 := by rw [← efs_3, List.length_set]; exact lfs_1
  have ffs_3_8 : fs_3[8]? = some (.ref sh) := by rw [← efs_3]; exact p1_sn (by decide) ffs_1_8
  have ffs_3_1 : fs_3[1]? = some (.ref tp) := by rw [← efs_3]; exact p1_sn (by decide) ffs_1_1
  have ffs_3_2 : fs_3[2]? = some (.int 0) := by rw [← efs_3]; exact p1_sa lfs_1 (by decide)
  refine lv_aload_n hx hb dX4_readShop_15 rfl (lv_at hl 0 rfl) ?_
  refine lv_iconst (v := 0) hx hb dX4_readShop_16 (by decide) ?_
  refine va_put (D := (dC, dI)) (ci := 4) (v := .int 0) (ty := .int) (C := RX4) (T := TX4) (N := 11) hx hb hts i_X4 tyX4 tyX4_ok nmX4 hown hK hP hD hS 0 rfl rfl 3 (by decide) k_6 (fun _ h9 => h9) rfl (by decide +kernel) rfl rfl (by rw [lfs_3]; decide) dX4_readShop_17 (fun H locs hP hD hS => ?_)
  have hP : va_P (dC, dI) vwCl [(rd, .inr (4, (fs_3.set 3 (.int 0)))), (tp, .inl (cT, 1600, .inl (fun _ => 0))), (sh, .inr (5, sfs)), (sc, .inl (cS, 5, .inl (fun _ => 0))), (lw, .inr (3, lf)), (on, .inl (cN, 2, .inl nf)), (ot, .inl (cO, 2, .inl (fun _ => 0))), (lc, .inl (cc1, 600, .inl (fun _ => 0))), (lb, .inl (cb1, 6, .inl (fun _ => 0)))] H := hP
  have hD : va_D A [(rd, .inr (4, (fs_3.set 3 (.int 0)))), (tp, .inl (cT, 1600, .inl (fun _ => 0))), (sh, .inr (5, sfs)), (sc, .inl (cS, 5, .inl (fun _ => 0))), (lw, .inr (3, lf)), (on, .inl (cN, 2, .inl nf)), (ot, .inl (cO, 2, .inl (fun _ => 0))), (lc, .inl (cc1, 600, .inl (fun _ => 0))), (lb, .inl (cb1, 6, .inl (fun _ => 0)))] := hD
  generalize efs_4 : (fs_3.set 3 (.int 0)) = fs_4 at hP hD
  have lfs_4 : fs_4.length = 11 := by rw [← efs_4, List.length_set]; exact lfs_3
  have ffs_4_8 : fs_4[8]? = some (.ref sh) := by rw [← efs_4]; exact p1_sn (by decide) ffs_3_8
  have ffs_4_1 : fs_4[1]? = some (.ref tp) := by rw [← efs_4]; exact p1_sn (by decide) ffs_3_1
  have ffs_4_2 : fs_4[2]? = some (.int 0) := by rw [← efs_4]; exact p1_sn (by decide) ffs_3_2
  have ffs_4_3 : fs_4[3]? = some (.int 0) := by rw [← efs_4]; exact p1_sa lfs_3 (by decide)
  refine lv_aload_n hx hb dX4_readShop_20 rfl (lv_at hl 0 rfl) ?_
  refine lv_iconst (v := 0) hx hb dX4_readShop_21 (by decide) ?_
  refine va_put (D := (dC, dI)) (ci := 4) (v := .int 0) (ty := .int) (C := RX4) (T := TX4) (N := 11) hx hb hts i_X4 tyX4 tyX4_ok nmX4 hown hK hP hD hS 0 rfl rfl 9 (by decide) k_7 (fun _ h9 => h9) rfl (by decide +kernel) rfl rfl (by rw [lfs_4]; decide) dX4_readShop_22 (fun H locs hP hD hS => ?_)
  have hP : va_P (dC, dI) vwCl [(rd, .inr (4, (fs_4.set 9 (.int 0)))), (tp, .inl (cT, 1600, .inl (fun _ => 0))), (sh, .inr (5, sfs)), (sc, .inl (cS, 5, .inl (fun _ => 0))), (lw, .inr (3, lf)), (on, .inl (cN, 2, .inl nf)), (ot, .inl (cO, 2, .inl (fun _ => 0))), (lc, .inl (cc1, 600, .inl (fun _ => 0))), (lb, .inl (cb1, 6, .inl (fun _ => 0)))] H := hP
  have hD : va_D A [(rd, .inr (4, (fs_4.set 9 (.int 0)))), (tp, .inl (cT, 1600, .inl (fun _ => 0))), (sh, .inr (5, sfs)), (sc, .inl (cS, 5, .inl (fun _ => 0))), (lw, .inr (3, lf)), (on, .inl (cN, 2, .inl nf)), (ot, .inl (cO, 2, .inl (fun _ => 0))), (lc, .inl (cc1, 600, .inl (fun _ => 0))), (lb, .inl (cb1, 6, .inl (fun _ => 0)))] := hD
  generalize efs_5 : (fs_4.set 9 (.int 0)) = fs_5 at hP hD
  have lfs_5 : fs_5.length = 11 := by rw [← efs_5, List.length_set]; exact lfs_4
  have ffs_5_8 : fs_5[8]? = some (.ref sh) := by rw [← efs_5]; exact p1_sn (by decide) ffs_4_8
  have ffs_5_1 : fs_5[1]? = some (.ref tp) := by rw [← efs_5]; exact p1_sn (by decide) ffs_4_1
  have ffs_5_2 : fs_5[2]? = some (.int 0) := by rw [← efs_5]; exact p1_sn (by decide) ffs_4_2
  have ffs_5_3 : fs_5[3]? = some (.int 0) := by rw [← efs_5]; exact p1_sn (by decide) ffs_4_3
  have ffs_5_9 : fs_5[9]? = some (.int 0) := by rw [← efs_5]; exact p1_sa lfs_4 (by decide)
  refine lv_aload_n hx hb dX4_readShop_25 rfl (lv_at hl 0 rfl) ?_
  refine lv_iconst (v := (-1)) hx hb dX4_readShop_26 (by decide) ?_
  refine va_put (D := (dC, dI)) (ci := 4) (v := .int (-1)) (ty := .int) (C := RX4) (T := TX4) (N := 11) hx hb hts i_X4 tyX4 tyX4_ok nmX4 hown hK hP hD hS 0 rfl rfl 10 (by decide) k_8 (fun _ h9 => h9) rfl (by decide +kernel) rfl rfl (by rw [lfs_5]; decide) dX4_readShop_27 (fun H locs hP hD hS => ?_)
  have hP : va_P (dC, dI) vwCl [(rd, .inr (4, (fs_5.set 10 (.int (-1))))), (tp, .inl (cT, 1600, .inl (fun _ => 0))), (sh, .inr (5, sfs)), (sc, .inl (cS, 5, .inl (fun _ => 0))), (lw, .inr (3, lf)), (on, .inl (cN, 2, .inl nf)), (ot, .inl (cO, 2, .inl (fun _ => 0))), (lc, .inl (cc1, 600, .inl (fun _ => 0))), (lb, .inl (cb1, 6, .inl (fun _ => 0)))] H := hP
  have hD : va_D A [(rd, .inr (4, (fs_5.set 10 (.int (-1))))), (tp, .inl (cT, 1600, .inl (fun _ => 0))), (sh, .inr (5, sfs)), (sc, .inl (cS, 5, .inl (fun _ => 0))), (lw, .inr (3, lf)), (on, .inl (cN, 2, .inl nf)), (ot, .inl (cO, 2, .inl (fun _ => 0))), (lc, .inl (cc1, 600, .inl (fun _ => 0))), (lb, .inl (cb1, 6, .inl (fun _ => 0)))] := hD
  generalize efs_6 : (fs_5.set 10 (.int (-1))) = fs_6 at hP hD
  have lfs_6 : fs_6.length = 11 := by rw [← efs_6, List.length_set]; exact lfs_5
  have ffs_6_8 : fs_6[8]? = some (.ref sh) := by rw [← efs_6]; exact p1_sn (by decide) ffs_5_8
  have ffs_6_1 : fs_6[1]? = some (.ref tp) := by rw [← efs_6]; exact p1_sn (by decide) ffs_5_1
  have ffs_6_2 : fs_6[2]? = some (.int 0) := by rw [← efs_6]; exact p1_sn (by decide) ffs_5_2
  have ffs_6_3 : fs_6[3]? = some (.int 0) := by rw [← efs_6]; exact p1_sn (by decide) ffs_5_3
  have ffs_6_9 : fs_6[9]? = some (.int 0) := by rw [← efs_6]; exact p1_sn (by decide) ffs_5_9
  have ffs_6_10 : fs_6[10]? = some (.int (-1)) := by rw [← efs_6]; exact p1_sa lfs_5 (by decide)
  refine lv_aload_n hx hb dX4_readShop_30 rfl (lv_at hl 0 rfl) ?_
  refine va_get (D := (dC, dI)) (ci := 4) (v := .ref sh) (C := RX4) (T := TX4) (N := 11) hx hb hts i_X4 hown hK hP 0 rfl rfl 8 (by decide) k_9 (fun _ h9 => h9) ffs_6_8 dX4_readShop_31 ?_
  have hPc := hP.sub (ws' := [(sh, .inr (5, sfs)), (sc, .inl (cS, 5, .inl (fun _ => 0))), (lw, .inr (3, lf)), (on, .inl (cN, 2, .inl nf)), (ot, .inl (cO, 2, .inl (fun _ => 0)))]) [2, 3, 4, 5, 6] rfl
  have hDc := hD.sub (ws' := [(sh, .inr (5, sfs)), (sc, .inl (cS, 5, .inl (fun _ => 0))), (lw, .inr (3, lf)), (on, .inl (cN, 2, .inl nf)), (ot, .inl (cO, 2, .inl (fun _ => 0)))]) [2, 3, 4, 5, 6] (by decide) rfl
  have hKc := hK.sub (tys' := [(cS, .int), (cN, .int), (cO, .boolean)]) [1, 2, 3] rfl
  have hFc := va_free (wc := [(sh, .inr (5, sfs)), (sc, .inl (cS, 5, .inl (fun _ => 0))), (lw, .inr (3, lf)), (on, .inl (cN, 2, .inl nf)), (ot, .inl (cO, 2, .inl (fun _ => 0)))]) hD hS hA [2, 3, 4, 5, 6] rfl
  refine va_callv (va_runV (As := []) (rest := []) ⟨hx, hb, hml, hown, hts⟩ (c_sclear l dC dI H.size sh sfs sc lw on ot cS lf lc lb cN nf cO f_sfs_0 f_sfs_12 f_sfs_13 f_sfs_14 f_lf_0 f_lf_1 l_lf) (cwV 0 hts (p1_gV m_10 m_11 m_12 m_13 g_c_sclear gz_c_sclear) rfl rfl rfl (by decide +kernel) ⟨by decide, by decide⟩) ⟨fun a U g mk q => by obtain ⟨q0, q1, qP, qK, qD⟩ := q; exact ⟨q0, q1, qP, va_K.moved (u := U) (U := U.calling g mk a) (Vm.Alike.refl U.vm) qK, qD⟩, va_recv hKc hPc (ci := 5) (q0 := 0) rfl rfl, fun U hU hW => ⟨rfl, by rw [hU], by rw [hU]; exact hPc, va_K.moved hW.alike hKc, hDc.weaken (fun _ _ _ _ => trivial)⟩⟩ rfl rfl hl.1 rfl (lv_room (Nat.le_of_ble_eq_true rfl)) dX4_readShop_34 ⟨by decide, by decide⟩) hS (fun q _ h => hFc q h) hFc (fun u t H1 locs ht hvm hw hB hz1 hk1 hS => ?_)
  obtain ⟨so_8, sg_9, lo_10, z_11, z_12, z_13, z_14, z_15, z_16, z_17, z_18, z_19, z_20, hP1, hK1, hD1⟩ := hB
  rw [ht] at hP1
  obtain ⟨hP, hD⟩ := va_join (wr := [(rd, .inr (4, fs_6)), (tp, .inl (cT, 1600, .inl (fun _ => 0))), (lc, .inl (cc1, 600, .inl (fun _ => 0))), (lb, .inl (cb1, 6, .inl (fun _ => 0)))]) (w1 := [(sh, .inr (5, so_8)), (sc, .inl (cS, 5, .inl sg_9)), (lw, .inr (3, lo_10))]) hP hD [2, 3, 4, 5, 6] [0, 1, 7, 8] rfl rfl (by decide) (by decide) hk1 hFc hP1 hD1
  generalize H1 = H at hP hS ⊢
  have hP : va_P (dC, dI) vwCl [(rd, .inr (4, fs_6)), (tp, .inl (cT, 1600, .inl (fun _ => 0))), (lc, .inl (cc1, 600, .inl (fun _ => 0))), (lb, .inl (cb1, 6, .inl (fun _ => 0))), (sh, .inr (5, so_8)), (sc, .inl (cS, 5, .inl sg_9)), (lw, .inr (3, lo_10))] H := hP
  have hD : va_D A [(rd, .inr (4, fs_6)), (tp, .inl (cT, 1600, .inl (fun _ => 0))), (lc, .inl (cc1, 600, .inl (fun _ => 0))), (lb, .inl (cb1, 6, .inl (fun _ => 0))), (sh, .inr (5, so_8)), (sc, .inl (cS, 5, .inl sg_9)), (lw, .inr (3, lo_10))] := hD
  try dsimp only at hw
  refine lv_aload_n hx hb dX4_readShop_37 rfl (lv_at hl 0 rfl) ?_
  have hPc := hP.sub (ws' := [(rd, .inr (4, fs_6))]) [0] rfl
  have hDc := hD.sub (ws' := [(rd, .inr (4, fs_6))]) [0] (by decide) rfl
  have hKc := hK.sub (tys' := []) [] rfl
  have hFc := va_free (wc := [(rd, .inr (4, fs_6))]) hD hS hA [0] rfl
  refine va_callv (va_runV (As := []) (rest := []) ⟨hx, hb, hml, hown, hts⟩ (c_step0 l dC dI H.size rd fs_6 sh ffs_6_3 ffs_6_2 ffs_6_8 lfs_6) (cwV 0 hts (p1_gV m_14 m_15 m_16 m_17 g_c_step0 gz_c_step0) rfl rfl rfl (by decide +kernel) ⟨by decide, by decide⟩) ⟨fun a U g mk q => by obtain ⟨q0, q1, qP, qK, qD⟩ := q; exact ⟨q0, q1, qP, va_K.moved (u := U) (U := U.calling g mk a) (Vm.Alike.refl U.vm) qK, qD⟩, va_recv hKc hPc (ci := 4) (q0 := 0) rfl rfl, fun U hU hW => ⟨rfl, by rw [hU], by rw [hU]; exact hPc, va_K.moved hW.alike hKc, hDc.weaken (fun _ _ _ _ => trivial)⟩⟩ rfl rfl hl.1 rfl (lv_room (Nat.le_of_ble_eq_true rfl)) dX4_readShop_38 ⟨by decide, by decide⟩) hS (fun q _ h => hFc q h) hFc (fun u t H1 locs ht hvm hw hB hz1 hk1 hS => ?_)
  obtain ⟨ro_22, z_23, z_24, z_25, z_26, hP1, hK1, hD1⟩ := hB
  rw [ht] at hP1
  obtain ⟨hP, hD⟩ := va_join (wr := [(tp, .inl (cT, 1600, .inl (fun _ => 0))), (lc, .inl (cc1, 600, .inl (fun _ => 0))), (lb, .inl (cb1, 6, .inl (fun _ => 0))), (sh, .inr (5, so_8)), (sc, .inl (cS, 5, .inl sg_9)), (lw, .inr (3, lo_10))]) (w1 := [(rd, .inr (4, ro_22))]) hP hD [0] [1, 2, 3, 4, 5, 6] rfl rfl (by decide) (by decide) hk1 hFc hP1 hD1
  generalize H1 = H at hP hS ⊢
  have hP : va_P (dC, dI) vwCl [(tp, .inl (cT, 1600, .inl (fun _ => 0))), (lc, .inl (cc1, 600, .inl (fun _ => 0))), (lb, .inl (cb1, 6, .inl (fun _ => 0))), (sh, .inr (5, so_8)), (sc, .inl (cS, 5, .inl sg_9)), (lw, .inr (3, lo_10)), (rd, .inr (4, ro_22))] H := hP
  have hD : va_D A [(tp, .inl (cT, 1600, .inl (fun _ => 0))), (lc, .inl (cc1, 600, .inl (fun _ => 0))), (lb, .inl (cb1, 6, .inl (fun _ => 0))), (sh, .inr (5, so_8)), (sc, .inl (cS, 5, .inl sg_9)), (lw, .inr (3, lo_10)), (rd, .inr (4, ro_22))] := hD
  try dsimp only at hw
  refine lv_iconst (v := 0) hx hb dX4_readShop_41 (by decide) ?_
  refine lv_istore_n (lv' := [(3, .int 0), (0, .ref rd), (1, .ref tp), (2, .int 0)]) hx hb dX4_readShop_42 rfl hl (by decide) rfl (fun ls hl => ?_)
  refine lv_iload_n hx hb dX4_readShop_43 rfl (lv_at hl 0 rfl) ?_
  refine lv_aload_n hx hb dX4_readShop_44 rfl (lv_at hl 1 rfl) ?_
  refine va_get (D := (dC, dI)) (ci := 4) (v := .int 0) (C := RX4) (T := TX4) (N := 11) hx hb hts i_X4 hown hK hP 6 rfl rfl 2 (by decide) k_5 (fun _ h9 => h9) z_24 dX4_readShop_45 ?_
  refine lv_icmp_gt (tgt := 73) hx hb dX4_readShop_48 (by decide) (fun c9 => absurd c9 (by decide)) (fun _ => ?_)
  refine lv_aload_n hx hb dX4_readShop_51 rfl (lv_at hl 1 rfl) ?_
  refine va_get (D := (dC, dI)) (ci := 4) (v := .int 0) (C := RX4) (T := TX4) (N := 11) hx hb hts i_X4 hown hK hP 6 rfl rfl 4 (by decide) k_18 (fun _ h9 => h9) z_25 dX4_readShop_52 ?_
  refine lv_if_eq (tgt := 73) hx hb dX4_readShop_55 (by decide) (fun _ => ?_) (fun c9 => absurd c9 (by decide))
  refine lv_aload_n hx hb dX4_readShop_73 rfl (lv_at hl 1 rfl) ?_
  refine va_get (D := (dC, dI)) (ci := 4) (v := .ref sh) (C := RX4) (T := TX4) (N := 11) hx hb hts i_X4 hown hK hP 6 rfl rfl 8 (by decide) k_9 (fun _ h9 => h9) z_26 dX4_readShop_74 ?_
  refine va_get (D := (dC, dI)) (ci := 5) (v := .ref sc) (C := RX5) (T := TX5) (N := 15) hx hb hts i_X5 hown hK hP 3 rfl rfl 0 (by decide) k_19 (fun _ h9 => h9) z_11 dX4_readShop_77 ?_
  refine lv_iconst (v := 3) hx hb dX4_readShop_80 (by decide) ?_
  refine va_iald hx hb hK hP 4 1 rfl rfl (p1_in (i := 3) (n := 5) (by decide)) dX4_readShop_81 ?_
  refine lv_topi (fun v_29 ev_29 => ?_)
  obtain rfl : v_29 = 0 := ev_29.trans z_14
  refine lv_if_ne (tgt := 95) hx hb dX4_readShop_82 (by decide) (fun c9 => absurd c9 (by decide)) (fun _ => ?_)
  refine lv_aload_n hx hb dX4_readShop_85 rfl (lv_at hl 1 rfl) ?_
  refine va_get (D := (dC, dI)) (ci := 4) (v := .ref sh) (C := RX4) (T := TX4) (N := 11) hx hb hts i_X4 hown hK hP 6 rfl rfl 8 (by decide) k_9 (fun _ h9 => h9) z_26 dX4_readShop_86 ?_
  refine va_get (D := (dC, dI)) (ci := 5) (v := .ref lw) (C := RX5) (T := TX5) (N := 15) hx hb hts i_X5 hown hK hP 3 rfl rfl 12 (by decide) k_20 (fun _ h9 => h9) z_12 dX4_readShop_89 ?_
  have hPc := hP.sub (ws' := [(lw, .inr (3, lo_10)), (lc, .inl (cc1, 600, .inl (fun _ => 0))), (lb, .inl (cb1, 6, .inl (fun _ => 0)))]) [5, 1, 2] rfl
  have hDc := hD.sub (ws' := [(lw, .inr (3, lo_10)), (lc, .inl (cc1, 600, .inl (fun _ => 0))), (lb, .inl (cb1, 6, .inl (fun _ => 0)))]) [5, 1, 2] (by decide) rfl
  have hKc := hK.sub (tys' := [(cc1, .int), (cb1, .int)]) [4, 5] rfl
  have hFc := va_free (wc := [(lw, .inr (3, lo_10)), (lc, .inl (cc1, 600, .inl (fun _ => 0))), (lb, .inl (cb1, 6, .inl (fun _ => 0)))]) hD hS hA [5, 1, 2] rfl
  refine va_callv (va_runV (As := []) (rest := []) ⟨hx, hb, hml, hown, hts⟩ (c_putUntold l dC dI H.size lw lo_10 lc lb cc1 ((fun _ => 0)) cb1 ((fun _ => 0)) z_16 z_17 z_18 z_19 z_15) (cwV 0 hts (p1_gV m_21 m_22 m_23 m_24 g_c_putUntold gz_c_putUntold) rfl rfl rfl (by decide +kernel) ⟨by decide, by decide⟩) ⟨fun a U g mk q => by obtain ⟨q0, q1, qP, qK, qD, qE⟩ := q; exact ⟨q0, q1, qP, va_K.moved (u := U) (U := U.calling g mk a) (Vm.Alike.refl U.vm) qK, qD, qE⟩, va_recv hKc hPc (ci := 3) (q0 := 0) rfl rfl, fun U hU hW => ⟨rfl, by rw [hU], by rw [hU]; exact hPc, va_K.moved hW.alike hKc, hDc.weaken (fun _ _ _ _ => trivial), by rw [hU]; exact p1_ex.warm hE hW hS (fun q h => hFc q h)⟩⟩ rfl rfl hl.1 rfl (lv_room (Nat.le_of_ble_eq_true rfl)) dX4_readShop_92 ⟨by decide, by decide⟩) hS (fun q _ h => hFc q h) hFc (fun u t H1 locs ht hvm hw hB hz1 hk1 hS => ?_)
  obtain ⟨hP1, hK1, hD1⟩ := hB
  rw [ht] at hP1
  obtain ⟨hP, hD⟩ := va_join (wr := [(tp, .inl (cT, 1600, .inl (fun _ => 0))), (sh, .inr (5, so_8)), (sc, .inl (cS, 5, .inl sg_9)), (rd, .inr (4, ro_22))]) (w1 := []) hP hD [5, 1, 2] [0, 3, 4, 6] rfl rfl (by decide) (by decide) hk1 hFc hP1 hD1
  generalize H1 = H at hP hS ⊢
  have hP : va_P (dC, dI) vwCl [(tp, .inl (cT, 1600, .inl (fun _ => 0))), (sh, .inr (5, so_8)), (sc, .inl (cS, 5, .inl sg_9)), (rd, .inr (4, ro_22))] H := hP
  have hD : va_D A [(tp, .inl (cT, 1600, .inl (fun _ => 0))), (sh, .inr (5, so_8)), (sc, .inl (cS, 5, .inl sg_9)), (rd, .inr (4, ro_22))] := hD
  try dsimp only at hw
  refine lv_iconst (v := 1) hx hb dX4_readShop_95 (by decide) ?_
  have hP9 := hP.sub (ws' := [(rd, .inr (4, ro_22)), (sh, .inr (5, so_8)), (sc, .inl (cS, 5, .inl sg_9))]) [3, 1, 2] rfl
  have hD9 := hD.sub (ws' := [(rd, .inr (4, ro_22)), (sh, .inr (5, so_8)), (sc, .inl (cS, 5, .inl sg_9))]) [3, 1, 2] (by decide) rfl
  have hK9 := hK.sub (tys' := []) [] rfl
  exact W.zret (v := 1) hx hb hr (by decide) (fun t ht hW => ⟨⟨1, (), rfl, rfl, ro_22, so_8, sg_9, z_23, z_26, z_11, z_13, by rw [ht]; exact hP9, va_K.moved hW.alike hK9, hD9⟩, hS.F ht⟩) hS.2.2 dX4_readShop_96
def zo_x_shop : List Cond := [.code yX8_shop cX8_shop 3 (some .int), .fieldLink RX8 16 "BowWalk" "reader" "LBowWalk$Reader;", .fieldLink RX8 9 "BowWalk" "tape" "[B", .fieldLink RX8 64 "BowWalk" "tapeLength" "I", .methodLink RX8 83 yX4_readShop, .instanceMethod yX4_readShop, .selects RX4 yX4_readShop yX4_readShop, .initialized RX4, .fieldLink RX8 60 "BowWalk" "shop" "LBowWalk$Shop;", .fieldLink RX8 87 "BowWalk$Reader" "draft" "LBowWalk$Shop;", .fieldLink RX8 68 "BowWalk" "tied" "Z", .fieldLink RX8 37 "BowWalk" "films" "LBowWalk$Films;", .fieldLink RX8 90 "BowWalk$Films" "count" "I", .fieldLink RX8 43 "BowWalk" "boxes" "[LBowWalk$Box;", .fieldLink RX8 93 "BowWalk$Box" "full" "Z", .fieldLink RX8 96 "BowWalk$Shop" "count" "[I"]
def zw_x_shop : List Cond := zo_x_shop ++ (zw_c_readShop0 ++ (wsX80 ++ (wsX40 ++ (wsX20 ++ (wsX10 ++ (wsX50 ++ []))))))
theorem gz_x_shop : zw_x_shop.all goodWord = true := p1_ga (by decide +kernel) (p1_ga gz_c_readShop0 (p1_ga gk_X8 (p1_ga gk_X4 (p1_ga gk_X2 (p1_ga gk_X1 (p1_ga gk_X5 p1_g0))))))
theorem iz_x_shop : ∀ w ∈ zw_x_shop, w ∈ lw_tbl := p1_ia (p1_all [557, 500, 499, 509, 558, 559, 560, 105, 508, 316, 510, 503, 457, 504, 491, 176] (by decide +kernel)) (p1_ia iz_c_readShop0 (p1_ia ik_X8 (p1_ia ik_X4 (p1_ia ik_X2 (p1_ia ik_X1 (p1_ia ik_X5 p1_i0))))))
set_option maxHeartbeats 4000000 in
set_option maxRecDepth 100000 in
theorem x_shop (l : Launch) (dC : Nat → ClassId) (dI : Nat → Nat → Nat) (sz : Nat) (x : Nat) (xs : List Value) (tp : Nat) (rd : Nat) (fl : Nat) (bx : Nat) (csh : Nat) (cT : ClassId) (rfs : List Value) (sh : Nat) (sfs : List Value) (sc : Nat) (lw : Nat) (on : Nat) (ot : Nat) (cS : ClassId) (lf : List Value) (lc : Nat) (lb : Nat) (cN : ClassId) (nf : Nat → Int32) (cO : ClassId) (cc1 : ClassId) (cb1 : ClassId) (ff : List Value) (cX : ClassId) (b0 : Nat) (bf0 : List Value) (b1 : Nat) (bf1 : List Value) (b2 : Nat) (bf2 : List Value) (f_xs_0 : xs[0]? = some (.ref tp)) (f_xs_1 : xs[1]? = some (.ref rd)) (f_xs_4 : xs[4]? = some (.ref fl)) (f_xs_5 : xs[5]? = some (.ref bx)) (f_xs_9 : xs[9]? = some (.ref csh)) (f_xs_10 : xs[10]? = some (.int 0)) (f_xs_11 : xs[11]? = some (.int 0)) (l_xs : xs.length = 14) (f_rfs_8 : rfs[8]? = some (.ref sh)) (l_rfs : rfs.length = 11) (f_sfs_0 : sfs[0]? = some (.ref sc)) (f_sfs_12 : sfs[12]? = some (.ref lw)) (f_sfs_13 : sfs[13]? = some (.ref on)) (f_sfs_14 : sfs[14]? = some (.ref ot)) (f_lf_0 : lf[0]? = some (.ref lc)) (f_lf_1 : lf[1]? = some (.ref lb)) (l_lf : lf.length = 6) (f_ff_7 : ff[7]? = some (.int 0)) (l_ff : ff.length = 8) (f_bf0_2 : bf0[2]? = some (.int 0)) (l_bf0 : bf0.length = 3) (f_bf1_2 : bf1[2]? = some (.int 0)) (l_bf1 : bf1.length = 3) (f_bf2_2 : bf2[2]? = some (.int 0)) (l_bf2 : bf2.length = 3) : Met l yX8_shop zw_x_shop ({ frames := 3, cells := 0, slots := 0, locals := 65 }) (va_Pc [.ref x] (fun U => U.heap.size = sz ∧ va_P (dC, dI) vwCl [(x, .inr (7, xs)), (tp, .inl (cT, 1600, .inl (fun _ => 0))), (rd, .inr (4, rfs)), (sh, .inr (5, sfs)), (sc, .inl (cS, 5, .inl (fun _ => 0))), (lw, .inr (3, lf)), (on, .inl (cN, 2, .inl nf)), (ot, .inl (cO, 2, .inl (fun _ => 0))), (lc, .inl (cc1, 600, .inl (fun _ => 0))), (lb, .inl (cb1, 6, .inl (fun _ => 0))), (fl, .inr (2, ff)), (bx, .inl (cX, 3, .inr (.inr (.inr (.inr (va_up (va_up (va_up (fun _ => none) (0 : Int32).toNatClampNeg (some b0)) (1 : Int32).toNatClampNeg (some b1)) (2 : Int32).toNatClampNeg (some b2))))))), (b0, .inr (1, bf0)), (b1, .inr (1, bf1)), (b2, .inr (1, bf2))] U.heap ∧ va_K (dC, dI) vwCl [(cT, .byte), (cS, .int), (cN, .int), (cO, .boolean), (cc1, .int), (cb1, .int), (cX, .object "BowWalk$Box")] U ∧ va_D (fun _ => True) [(x, .inr (7, xs)), (tp, .inl (cT, 1600, .inl (fun _ => 0))), (rd, .inr (4, rfs)), (sh, .inr (5, sfs)), (sc, .inl (cS, 5, .inl (fun _ => 0))), (lw, .inr (3, lf)), (on, .inl (cN, 2, .inl nf)), (ot, .inl (cO, 2, .inl (fun _ => 0))), (lc, .inl (cc1, 600, .inl (fun _ => 0))), (lb, .inl (cb1, 6, .inl (fun _ => 0))), (fl, .inr (2, ff)), (bx, .inl (cX, 3, .inr (.inr (.inr (.inr (va_up (va_up (va_up (fun _ => none) (0 : Int32).toNatClampNeg (some b0)) (1 : Int32).toNatClampNeg (some b1)) (2 : Int32).toNatClampNeg (some b2))))))), (b0, .inr (1, bf0)), (b1, .inr (1, bf1)), (b2, .inr (1, bf2))] ∧ p1_ex (va_A [(x, .inr (7, xs)), (tp, .inl (cT, 1600, .inl (fun _ => 0))), (rd, .inr (4, rfs)), (sh, .inr (5, sfs)), (sc, .inl (cS, 5, .inl (fun _ => 0))), (lw, .inr (3, lf)), (on, .inl (cN, 2, .inl nf)), (ot, .inl (cO, 2, .inl (fun _ => 0))), (lc, .inl (cc1, 600, .inl (fun _ => 0))), (lb, .inl (cb1, 6, .inl (fun _ => 0))), (fl, .inr (2, ff)), (bx, .inl (cX, 3, .inr (.inr (.inr (.inr (va_up (va_up (va_up (fun _ => none) (0 : Int32).toNatClampNeg (some b0)) (1 : Int32).toNatClampNeg (some b1)) (2 : Int32).toNatClampNeg (some b2))))))), (b0, .inr (1, bf0)), (b1, .inr (1, bf1)), (b2, .inr (1, bf2))] sz) U U.heap)) (va_Qi (fun (r : Int32) (_ : Unit) => r = 0) (fun _ t => va_P (dC, dI) vwCl [] t.heap ∧ va_K (dC, dI) vwCl [] t ∧ va_D (va_A [(x, .inr (7, xs)), (tp, .inl (cT, 1600, .inl (fun _ => 0))), (rd, .inr (4, rfs)), (sh, .inr (5, sfs)), (sc, .inl (cS, 5, .inl (fun _ => 0))), (lw, .inr (3, lf)), (on, .inl (cN, 2, .inl nf)), (ot, .inl (cO, 2, .inl (fun _ => 0))), (lc, .inl (cc1, 600, .inl (fun _ => 0))), (lb, .inl (cb1, 6, .inl (fun _ => 0))), (fl, .inr (2, ff)), (bx, .inl (cX, 3, .inr (.inr (.inr (.inr (va_up (va_up (va_up (fun _ => none) (0 : Int32).toNatClampNeg (some b0)) (1 : Int32).toNatClampNeg (some b1)) (2 : Int32).toNatClampNeg (some b2))))))), (b0, .inr (1, bf0)), (b1, .inr (1, bf1)), (b2, .inr (1, bf2))] sz) []) (va_A [(x, .inr (7, xs)), (tp, .inl (cT, 1600, .inl (fun _ => 0))), (rd, .inr (4, rfs)), (sh, .inr (5, sfs)), (sc, .inl (cS, 5, .inl (fun _ => 0))), (lw, .inr (3, lf)), (on, .inl (cN, 2, .inl nf)), (ot, .inl (cO, 2, .inl (fun _ => 0))), (lc, .inl (cc1, 600, .inl (fun _ => 0))), (lb, .inl (cb1, 6, .inl (fun _ => 0))), (fl, .inr (2, ff)), (bx, .inl (cX, 3, .inr (.inr (.inr (.inr (va_up (va_up (va_up (fun _ => none) (0 : Int32).toNatClampNeg (some b0)) (1 : Int32).toNatClampNeg (some b1)) (2 : Int32).toNatClampNeg (some b2))))))), (b0, .inr (1, bf0)), (b1, .inr (1, bf1)), (b2, .inr (1, bf2))] sz)) 0 0 (va_A [(x, .inr (7, xs)), (tp, .inl (cT, 1600, .inl (fun _ => 0))), (rd, .inr (4, rfs)), (sh, .inr (5, sfs)), (sc, .inl (cS, 5, .inl (fun _ => 0))), (lw, .inr (3, lf)), (on, .inl (cN, 2, .inl nf)), (ot, .inl (cO, 2, .inl (fun _ => 0))), (lc, .inl (cc1, 600, .inl (fun _ => 0))), (lb, .inl (cb1, 6, .inl (fun _ => 0))), (fl, .inr (2, ff)), (bx, .inl (cX, 3, .inr (.inr (.inr (.inr (va_up (va_up (va_up (fun _ => none) (0 : Int32).toNatClampNeg (some b0)) (1 : Int32).toNatClampNeg (some b1)) (2 : Int32).toNatClampNeg (some b2))))))), (b0, .inr (1, bf0)), (b1, .inr (1, bf1)), (b2, .inr (1, bf2))] sz) := by
  refine Met.ofW (cc := cX8_shop) (maxL := 3) (ret := (some .int)) (by decide) rfl ?_
  intro p e s m args below meth c s₁ B hml hv
  obtain ⟨rfl, hsz, hP, hK, hD0, hE⟩ := hv
  have hx := B.exec
  have hb := B.bytes
  have hr := B.returns
  have hts := atoms_spec (ws := zw_x_shop) B.pre
  have hown : s.vm.findClass RX8 = some m.cls := findClass_of_methodNamed B.named
  have hlocks := B.notSynchronized
  subst hsz
  have hD := hD0.self (sz := s.heap.size)
  generalize hAe : va_A [(x, .inr (7, xs)), (tp, .inl (cT, 1600, .inl (fun _ => 0))), (rd, .inr (4, rfs)), (sh, .inr (5, sfs)), (sc, .inl (cS, 5, .inl (fun _ => 0))), (lw, .inr (3, lf)), (on, .inl (cN, 2, .inl nf)), (ot, .inl (cO, 2, .inl (fun _ => 0))), (lc, .inl (cc1, 600, .inl (fun _ => 0))), (lb, .inl (cb1, 6, .inl (fun _ => 0))), (fl, .inr (2, ff)), (bx, .inl (cX, 3, .inr (.inr (.inr (.inr (va_up (va_up (va_up (fun _ => none) (0 : Int32).toNatClampNeg (some b0)) (1 : Int32).toNatClampNeg (some b1)) (2 : Int32).toNatClampNeg (some b2))))))), (b0, .inr (1, bf0)), (b1, .inr (1, bf1)), (b2, .inr (1, bf2))] s.heap.size = A at hD hE ⊢
  have hA : ∀ q : Nat, s.heap.size ≤ q → A q := fun q h => by rw [← hAe]; exact Or.inr h
  have hS : va_S A s.heap s.heap [] := va_S.rf
  have hP : va_P (dC, dI) vwCl [(x, .inr (7, xs)), (tp, .inl (cT, 1600, .inl (fun _ => 0))), (rd, .inr (4, rfs)), (sh, .inr (5, sfs)), (sc, .inl (cS, 5, .inl (fun _ => 0))), (lw, .inr (3, lf)), (on, .inl (cN, 2, .inl nf)), (ot, .inl (cO, 2, .inl (fun _ => 0))), (lc, .inl (cc1, 600, .inl (fun _ => 0))), (lb, .inl (cb1, 6, .inl (fun _ => 0))), (fl, .inr (2, ff)), (bx, .inl (cX, 3, .inr (.inr (.inr (.inr (va_up (va_up (va_up (fun _ => none) (0 : Int32).toNatClampNeg (some b0)) (1 : Int32).toNatClampNeg (some b1)) (2 : Int32).toNatClampNeg (some b2))))))), (b0, .inr (1, bf0)), (b1, .inr (1, bf1)), (b2, .inr (1, bf2))] s.heap := hP
  obtain ⟨sK, sV, ru, pu, sf, rf, pf, ⟨n1, n2, n3, n4, n5, n6, n7, n8, n9⟩, ⟨o1, o2, o3⟩, r1, ⟨t1, t2, t3, t4⟩, z1, z2, ⟨y1, y2⟩, ⟨w1, w2⟩⟩ := id hE
  have m_0 : (.fieldLink RX8 16 "BowWalk" "reader" "LBowWalk$Reader;" : Cond) ∈ zw_x_shop := List.mem_append_left _ (List.mem_of_getElem? (i := 1) rfl)
  have k_0 := hts _ m_0
  have m_1 : (.fieldLink RX8 9 "BowWalk" "tape" "[B" : Cond) ∈ zw_x_shop := List.mem_append_left _ (List.mem_of_getElem? (i := 2) rfl)
  have k_1 := hts _ m_1
  have m_2 : (.fieldLink RX8 64 "BowWalk" "tapeLength" "I" : Cond) ∈ zw_x_shop := List.mem_append_left _ (List.mem_of_getElem? (i := 3) rfl)
  have k_2 := hts _ m_2
  have m_3 : (.methodLink RX8 83 yX4_readShop : Cond) ∈ zw_x_shop := List.mem_append_left _ (List.mem_of_getElem? (i := 4) rfl)
  have k_3 := hts _ m_3
  have m_4 : (.instanceMethod yX4_readShop : Cond) ∈ zw_x_shop := List.mem_append_left _ (List.mem_of_getElem? (i := 5) rfl)
  have k_4 := hts _ m_4
  have m_5 : (.selects RX4 yX4_readShop yX4_readShop : Cond) ∈ zw_x_shop := List.mem_append_left _ (List.mem_of_getElem? (i := 6) rfl)
  have k_5 := hts _ m_5
  have m_6 : (.initialized RX4 : Cond) ∈ zw_x_shop := List.mem_append_left _ (List.mem_of_getElem? (i := 7) rfl)
  have k_6 := hts _ m_6
  have m_7 : (.fieldLink RX8 60 "BowWalk" "shop" "LBowWalk$Shop;" : Cond) ∈ zw_x_shop := List.mem_append_left _ (List.mem_of_getElem? (i := 8) rfl)
  have k_7 := hts _ m_7
  have m_8 : (.fieldLink RX8 87 "BowWalk$Reader" "draft" "LBowWalk$Shop;" : Cond) ∈ zw_x_shop := List.mem_append_left _ (List.mem_of_getElem? (i := 9) rfl)
  have k_8 := hts _ m_8
  have m_9 : (.fieldLink RX8 68 "BowWalk" "tied" "Z" : Cond) ∈ zw_x_shop := List.mem_append_left _ (List.mem_of_getElem? (i := 10) rfl)
  have k_9 := hts _ m_9
  have m_10 : (.fieldLink RX8 37 "BowWalk" "films" "LBowWalk$Films;" : Cond) ∈ zw_x_shop := List.mem_append_left _ (List.mem_of_getElem? (i := 11) rfl)
  have k_10 := hts _ m_10
  have m_11 : (.fieldLink RX8 90 "BowWalk$Films" "count" "I" : Cond) ∈ zw_x_shop := List.mem_append_left _ (List.mem_of_getElem? (i := 12) rfl)
  have k_11 := hts _ m_11
  have m_12 : (.fieldLink RX8 43 "BowWalk" "boxes" "[LBowWalk$Box;" : Cond) ∈ zw_x_shop := List.mem_append_left _ (List.mem_of_getElem? (i := 13) rfl)
  have k_12 := hts _ m_12
  have m_13 : (.fieldLink RX8 93 "BowWalk$Box" "full" "Z" : Cond) ∈ zw_x_shop := List.mem_append_left _ (List.mem_of_getElem? (i := 14) rfl)
  have k_13 := hts _ m_13
  have m_14 : (.fieldLink RX8 96 "BowWalk$Shop" "count" "[I" : Cond) ∈ zw_x_shop := List.mem_append_left _ (List.mem_of_getElem? (i := 15) rfl)
  have k_14 := hts _ m_14
  have g_c_readShop0 : ∀ w ∈ zw_c_readShop0, w ∈ zw_x_shop := fun w h => List.mem_append_right _ (List.mem_append_left _ h)
  have i_X8 : ∀ w ∈ u_ws RX8 TX8 14, w ∈ zw_x_shop := fun w h => List.mem_append_right _ (List.mem_append_right _ (List.mem_append_left _ h))
  have i_X4 : ∀ w ∈ u_ws RX4 TX4 11, w ∈ zw_x_shop := fun w h => List.mem_append_right _ (List.mem_append_right _ (List.mem_append_right _ (List.mem_append_left _ h)))
  have i_X2 : ∀ w ∈ u_ws RX2 TX2 8, w ∈ zw_x_shop := fun w h => List.mem_append_right _ (List.mem_append_right _ (List.mem_append_right _ (List.mem_append_right _ (List.mem_append_left _ h))))
  have i_X1 : ∀ w ∈ u_ws RX1 TX1 3, w ∈ zw_x_shop := fun w h => List.mem_append_right _ (List.mem_append_right _ (List.mem_append_right _ (List.mem_append_right _ (List.mem_append_right _ (List.mem_append_left _ h)))))
  have i_X5 : ∀ w ∈ u_ws RX5 TX5 15, w ∈ zw_x_shop := fun w h => List.mem_append_right _ (List.mem_append_right _ (List.mem_append_right _ (List.mem_append_right _ (List.mem_append_right _ (List.mem_append_right _ (List.mem_append_left _ h))))))
  have hl := lv_entry ([.ref x]) (n := 3) (Nat.le_of_ble_eq_true rfl)
  rw [lg_entry_eq]
  generalize (lg_sl ([.ref x]) ++ List.replicate (3 - (lg_sl ([.ref x])).length) Slot.unset).toArray = ls at hl ⊢
  have hl : lv_has ls 3 [(0, .ref x)] := hl
  refine lv_aload_n hx hb dX8_shop_0 rfl (lv_at hl 0 rfl) ?_
  refine va_get (D := (dC, dI)) (ci := 7) (v := .ref rd) (C := RX8) (T := TX8) (N := 14) hx hb hts i_X8 hown hK hP 0 rfl rfl 1 (by decide) k_0 (fun _ h9 => h9) f_xs_1 dX8_shop_1 ?_
  refine lv_aload_n hx hb dX8_shop_4 rfl (lv_at hl 0 rfl) ?_
  refine va_get (D := (dC, dI)) (ci := 7) (v := .ref tp) (C := RX8) (T := TX8) (N := 14) hx hb hts i_X8 hown hK hP 0 rfl rfl 0 (by decide) k_1 (fun _ h9 => h9) f_xs_0 dX8_shop_5 ?_
  refine lv_aload_n hx hb dX8_shop_8 rfl (lv_at hl 0 rfl) ?_
  refine va_get (D := (dC, dI)) (ci := 7) (v := .int 0) (C := RX8) (T := TX8) (N := 14) hx hb hts i_X8 hown hK hP 0 rfl rfl 10 (by decide) k_2 (fun _ h9 => h9) f_xs_10 dX8_shop_9 ?_
  have hPc := hP.sub (ws' := [(rd, .inr (4, rfs)), (tp, .inl (cT, 1600, .inl (fun _ => 0))), (sh, .inr (5, sfs)), (sc, .inl (cS, 5, .inl (fun _ => 0))), (lw, .inr (3, lf)), (on, .inl (cN, 2, .inl nf)), (ot, .inl (cO, 2, .inl (fun _ => 0))), (lc, .inl (cc1, 600, .inl (fun _ => 0))), (lb, .inl (cb1, 6, .inl (fun _ => 0)))]) [2, 1, 3, 4, 5, 6, 7, 8, 9] rfl
  have hDc := hD.sub (ws' := [(rd, .inr (4, rfs)), (tp, .inl (cT, 1600, .inl (fun _ => 0))), (sh, .inr (5, sfs)), (sc, .inl (cS, 5, .inl (fun _ => 0))), (lw, .inr (3, lf)), (on, .inl (cN, 2, .inl nf)), (ot, .inl (cO, 2, .inl (fun _ => 0))), (lc, .inl (cc1, 600, .inl (fun _ => 0))), (lb, .inl (cb1, 6, .inl (fun _ => 0)))]) [2, 1, 3, 4, 5, 6, 7, 8, 9] (by decide) rfl
  have hKc := hK.sub (tys' := [(cT, .byte), (cS, .int), (cN, .int), (cO, .boolean), (cc1, .int), (cb1, .int)]) [0, 1, 2, 3, 4, 5] rfl
  have hFc := va_free (wc := [(rd, .inr (4, rfs)), (tp, .inl (cT, 1600, .inl (fun _ => 0))), (sh, .inr (5, sfs)), (sc, .inl (cS, 5, .inl (fun _ => 0))), (lw, .inr (3, lf)), (on, .inl (cN, 2, .inl nf)), (ot, .inl (cO, 2, .inl (fun _ => 0))), (lc, .inl (cc1, 600, .inl (fun _ => 0))), (lb, .inl (cb1, 6, .inl (fun _ => 0)))]) hD hS hA [2, 1, 3, 4, 5, 6, 7, 8, 9] rfl
  refine va_calli (va_runV (As := [.ref tp, .int 0]) (rest := []) ⟨hx, hb, hml, hown, hts⟩ (c_readShop0 l dC dI s.heap.size rd rfs sh tp cT sfs sc lw on ot cS lf lc lb cN nf cO cc1 cb1 f_rfs_8 l_rfs f_sfs_0 f_sfs_12 f_sfs_13 f_sfs_14 f_lf_0 f_lf_1 l_lf) (cwV 2 hts (p1_gV m_3 m_4 m_5 m_6 g_c_readShop0 gz_c_readShop0) rfl rfl rfl (by decide +kernel) ⟨by decide, by decide⟩) ⟨fun a U g mk q => by obtain ⟨q0, q1, qP, qK, qD, qE⟩ := q; exact ⟨q0, q1, qP, va_K.moved (u := U) (U := U.calling g mk a) (Vm.Alike.refl U.vm) qK, qD, qE⟩, va_recv hKc hPc (ci := 4) (q0 := 0) rfl rfl, fun U hU hW => ⟨rfl, by rw [hU], by rw [hU]; exact hPc, va_K.moved hW.alike hKc, hDc.weaken (fun _ _ _ _ => trivial), by rw [hU]; exact p1_ex.warm hE hW hS (fun q h => hFc q h)⟩⟩ rfl rfl hl.1 rfl (lv_room (Nat.le_of_ble_eq_true rfl)) dX8_shop_12 ⟨by decide, by decide⟩) hS (fun q _ h => hFc q h) hFc (fun r_1 u t H1 locs ht hvm hw hB hz1 hk1 hS => ?_)
  obtain ⟨ro_2, so_3, sg_4, z_5, z_6, z_7, z_8, hP1, hK1, hD1⟩ := hB
  rw [ht] at hP1
  obtain ⟨hP, hD⟩ := va_join (wr := [(x, .inr (7, xs)), (fl, .inr (2, ff)), (bx, .inl (cX, 3, .inr (.inr (.inr (.inr (va_up (va_up (va_up (fun _ => none) (0 : Int32).toNatClampNeg (some b0)) (1 : Int32).toNatClampNeg (some b1)) (2 : Int32).toNatClampNeg (some b2))))))), (b0, .inr (1, bf0)), (b1, .inr (1, bf1)), (b2, .inr (1, bf2))]) (w1 := [(rd, .inr (4, ro_2)), (sh, .inr (5, so_3)), (sc, .inl (cS, 5, .inl sg_4))]) hP hD [2, 1, 3, 4, 5, 6, 7, 8, 9] [0, 10, 11, 12, 13, 14] rfl rfl (by decide) (by decide) hk1 hFc hP1 hD1
  generalize H1 = H at hP hS ⊢
  have hP : va_P (dC, dI) vwCl [(x, .inr (7, xs)), (fl, .inr (2, ff)), (bx, .inl (cX, 3, .inr (.inr (.inr (.inr (va_up (va_up (va_up (fun _ => none) (0 : Int32).toNatClampNeg (some b0)) (1 : Int32).toNatClampNeg (some b1)) (2 : Int32).toNatClampNeg (some b2))))))), (b0, .inr (1, bf0)), (b1, .inr (1, bf1)), (b2, .inr (1, bf2)), (rd, .inr (4, ro_2)), (sh, .inr (5, so_3)), (sc, .inl (cS, 5, .inl sg_4))] H := hP
  have hD : va_D A [(x, .inr (7, xs)), (fl, .inr (2, ff)), (bx, .inl (cX, 3, .inr (.inr (.inr (.inr (va_up (va_up (va_up (fun _ => none) (0 : Int32).toNatClampNeg (some b0)) (1 : Int32).toNatClampNeg (some b1)) (2 : Int32).toNatClampNeg (some b2))))))), (b0, .inr (1, bf0)), (b1, .inr (1, bf1)), (b2, .inr (1, bf2)), (rd, .inr (4, ro_2)), (sh, .inr (5, so_3)), (sc, .inl (cS, 5, .inl sg_4))] := hD
  try dsimp only at hw
  obtain rfl : r_1 = 1 := hw
  refine lv_if_ne (tgt := 20) hx hb dX8_shop_15 (by decide) (fun _ => ?_) (fun c9 => absurd c9 (by decide))
  refine lv_aload_n hx hb dX8_shop_20 rfl (lv_at hl 0 rfl) ?_
  refine va_get (D := (dC, dI)) (ci := 7) (v := .ref csh) (C := RX8) (T := TX8) (N := 14) hx hb hts i_X8 hown hK hP 0 rfl rfl 9 (by decide) k_7 (fun _ h9 => h9) f_xs_9 dX8_shop_21 ?_
  refine lv_astore_n (lv' := [(1, .ref csh), (0, .ref x)]) hx hb dX8_shop_24 rfl hl (by decide) rfl (fun ls hl => ?_)
  refine lv_aload_n hx hb dX8_shop_25 rfl (lv_at hl 1 rfl) ?_
  refine lv_aload_n hx hb dX8_shop_26 rfl (lv_at hl 1 rfl) ?_
  refine va_get (D := (dC, dI)) (ci := 7) (v := .ref rd) (C := RX8) (T := TX8) (N := 14) hx hb hts i_X8 hown hK hP 0 rfl rfl 1 (by decide) k_0 (fun _ h9 => h9) f_xs_1 dX8_shop_27 ?_
  refine va_get (D := (dC, dI)) (ci := 4) (v := .ref sh) (C := RX4) (T := TX4) (N := 11) hx hb hts i_X4 hown hK hP 6 rfl rfl 8 (by decide) k_8 (fun _ h9 => h9) z_6 dX8_shop_30 ?_
  refine va_put (D := (dC, dI)) (ci := 7) (v := .ref sh) (ty := .object "BowWalk$Shop") (C := RX8) (T := TX8) (N := 14) hx hb hts i_X8 tyX8 tyX8_ok nmX8 hown hK hP hD hS 0 rfl rfl 9 (by decide) k_7 (fun _ h9 => h9) rfl (by decide +kernel) rfl rfl (by rw [l_xs]; decide) dX8_shop_33 (fun H locs hP hD hS => ?_)
  have hP : va_P (dC, dI) vwCl [(x, .inr (7, (xs.set 9 (.ref sh)))), (fl, .inr (2, ff)), (bx, .inl (cX, 3, .inr (.inr (.inr (.inr (va_up (va_up (va_up (fun _ => none) (0 : Int32).toNatClampNeg (some b0)) (1 : Int32).toNatClampNeg (some b1)) (2 : Int32).toNatClampNeg (some b2))))))), (b0, .inr (1, bf0)), (b1, .inr (1, bf1)), (b2, .inr (1, bf2)), (rd, .inr (4, ro_2)), (sh, .inr (5, so_3)), (sc, .inl (cS, 5, .inl sg_4))] H := hP
  have hD : va_D A [(x, .inr (7, (xs.set 9 (.ref sh)))), (fl, .inr (2, ff)), (bx, .inl (cX, 3, .inr (.inr (.inr (.inr (va_up (va_up (va_up (fun _ => none) (0 : Int32).toNatClampNeg (some b0)) (1 : Int32).toNatClampNeg (some b1)) (2 : Int32).toNatClampNeg (some b2))))))), (b0, .inr (1, bf0)), (b1, .inr (1, bf1)), (b2, .inr (1, bf2)), (rd, .inr (4, ro_2)), (sh, .inr (5, so_3)), (sc, .inl (cS, 5, .inl sg_4))] := hD
  generalize efs_10 : (xs.set 9 (.ref sh)) = fs_10 at hP hD
  have lfs_10 : fs_10.length = 14 := by rw [← efs_10, List.length_set]; exact l_xs
  have ffs_10_0 : fs_10[0]? = some (.ref tp) := by rw [← efs_10]; exact p1_sn (by decide) f_xs_0
  have ffs_10_1 : fs_10[1]? = some (.ref rd) := by rw [← efs_10]; exact p1_sn (by decide) f_xs_1
  have ffs_10_4 : fs_10[4]? = some (.ref fl) := by rw [← efs_10]; exact p1_sn (by decide) f_xs_4
  have ffs_10_5 : fs_10[5]? = some (.ref bx) := by rw [← efs_10]; exact p1_sn (by decide) f_xs_5
  have ffs_10_10 : fs_10[10]? = some (.int 0) := by rw [← efs_10]; exact p1_sn (by decide) f_xs_10
  have ffs_10_11 : fs_10[11]? = some (.int 0) := by rw [← efs_10]; exact p1_sn (by decide) f_xs_11
  have ffs_10_9 : fs_10[9]? = some (.ref sh) := by rw [← efs_10]; exact p1_sa l_xs (by decide)
  refine lv_aload_n hx hb dX8_shop_36 rfl (lv_at hl 1 rfl) ?_
  refine va_get (D := (dC, dI)) (ci := 7) (v := .ref rd) (C := RX8) (T := TX8) (N := 14) hx hb hts i_X8 hown hK hP 0 rfl rfl 1 (by decide) k_0 (fun _ h9 => h9) ffs_10_1 dX8_shop_37 ?_
  refine lv_aload_n hx hb dX8_shop_40 rfl (lv_at hl 0 rfl) ?_
  refine va_put (D := (dC, dI)) (ci := 4) (v := .ref csh) (ty := .object "BowWalk$Shop") (C := RX4) (T := TX4) (N := 11) hx hb hts i_X4 tyX4 tyX4_ok nmX4 hown hK hP hD hS 6 rfl rfl 8 (by decide) k_8 (fun _ h9 => h9) rfl (by decide +kernel) rfl rfl (by rw [z_5]; decide) dX8_shop_41 (fun H locs hP hD hS => ?_)
  have hP : va_P (dC, dI) vwCl [(x, .inr (7, fs_10)), (fl, .inr (2, ff)), (bx, .inl (cX, 3, .inr (.inr (.inr (.inr (va_up (va_up (va_up (fun _ => none) (0 : Int32).toNatClampNeg (some b0)) (1 : Int32).toNatClampNeg (some b1)) (2 : Int32).toNatClampNeg (some b2))))))), (b0, .inr (1, bf0)), (b1, .inr (1, bf1)), (b2, .inr (1, bf2)), (rd, .inr (4, (ro_2.set 8 (.ref csh)))), (sh, .inr (5, so_3)), (sc, .inl (cS, 5, .inl sg_4))] H := hP
  have hD : va_D A [(x, .inr (7, fs_10)), (fl, .inr (2, ff)), (bx, .inl (cX, 3, .inr (.inr (.inr (.inr (va_up (va_up (va_up (fun _ => none) (0 : Int32).toNatClampNeg (some b0)) (1 : Int32).toNatClampNeg (some b1)) (2 : Int32).toNatClampNeg (some b2))))))), (b0, .inr (1, bf0)), (b1, .inr (1, bf1)), (b2, .inr (1, bf2)), (rd, .inr (4, (ro_2.set 8 (.ref csh)))), (sh, .inr (5, so_3)), (sc, .inl (cS, 5, .inl sg_4))] := hD
  generalize efs_11 : (ro_2.set 8 (.ref csh)) = fs_11 at hP hD
  have lfs_11 : fs_11.length = 11 := by rw [← efs_11, List.length_set]; exact z_5
  have ffs_11_8 : fs_11[8]? = some (.ref csh) := by rw [← efs_11]; exact p1_sa z_5 (by decide)
  refine lv_aload_n hx hb dX8_shop_44 rfl (lv_at hl 1 rfl) ?_
  refine lv_iconst (v := 0) hx hb dX8_shop_45 (by decide) ?_
  refine va_put (D := (dC, dI)) (ci := 7) (v := .int 0) (ty := .int) (C := RX8) (T := TX8) (N := 14) hx hb hts i_X8 tyX8 tyX8_ok nmX8 hown hK hP hD hS 0 rfl rfl 10 (by decide) k_2 (fun _ h9 => h9) rfl (by decide +kernel) rfl rfl (by rw [lfs_10]; decide) dX8_shop_46 (fun H locs hP hD hS => ?_)
  have hP : va_P (dC, dI) vwCl [(x, .inr (7, (fs_10.set 10 (.int 0)))), (fl, .inr (2, ff)), (bx, .inl (cX, 3, .inr (.inr (.inr (.inr (va_up (va_up (va_up (fun _ => none) (0 : Int32).toNatClampNeg (some b0)) (1 : Int32).toNatClampNeg (some b1)) (2 : Int32).toNatClampNeg (some b2))))))), (b0, .inr (1, bf0)), (b1, .inr (1, bf1)), (b2, .inr (1, bf2)), (rd, .inr (4, fs_11)), (sh, .inr (5, so_3)), (sc, .inl (cS, 5, .inl sg_4))] H := hP
  have hD : va_D A [(x, .inr (7, (fs_10.set 10 (.int 0)))), (fl, .inr (2, ff)), (bx, .inl (cX, 3, .inr (.inr (.inr (.inr (va_up (va_up (va_up (fun _ => none) (0 : Int32).toNatClampNeg (some b0)) (1 : Int32).toNatClampNeg (some b1)) (2 : Int32).toNatClampNeg (some b2))))))), (b0, .inr (1, bf0)), (b1, .inr (1, bf1)), (b2, .inr (1, bf2)), (rd, .inr (4, fs_11)), (sh, .inr (5, so_3)), (sc, .inl (cS, 5, .inl sg_4))] := hD
  generalize efs_12 : (fs_10.set 10 (.int 0)) = fs_12 at hP hD
  have lfs_12 : fs_12.length = 14 := by rw [← efs_12, List.length_set]; exact lfs_10
  have ffs_12_0 : fs_12[0]? = some (.ref tp) := by rw [← efs_12]; exact p1_sn (by decide) ffs_10_0
  have ffs_12_1 : fs_12[1]? = some (.ref rd) := by rw [← efs_12]; exact p1_sn (by decide) ffs_10_1
  have ffs_12_4 : fs_12[4]? = some (.ref fl) := by rw [← efs_12]; exact p1_sn (by decide) ffs_10_4
  have ffs_12_5 : fs_12[5]? = some (.ref bx) := by rw [← efs_12]; exact p1_sn (by decide) ffs_10_5
  have ffs_12_11 : fs_12[11]? = some (.int 0) := by rw [← efs_12]; exact p1_sn (by decide) ffs_10_11
  have ffs_12_9 : fs_12[9]? = some (.ref sh) := by rw [← efs_12]; exact p1_sn (by decide) ffs_10_9
  have ffs_12_10 : fs_12[10]? = some (.int 0) := by rw [← efs_12]; exact p1_sa lfs_10 (by decide)
  refine lv_aload_n hx hb dX8_shop_49 rfl (lv_at hl 1 rfl) ?_
  refine lv_iconst (v := 0) hx hb dX8_shop_50 (by decide) ?_
  refine va_put (D := (dC, dI)) (ci := 7) (v := .int 0) (ty := .boolean) (C := RX8) (T := TX8) (N := 14) hx hb hts i_X8 tyX8 tyX8_ok nmX8 hown hK hP hD hS 0 rfl rfl 11 (by decide) k_9 (fun _ h9 => h9) rfl (by decide +kernel) rfl rfl (by rw [lfs_12]; decide) dX8_shop_51 (fun H locs hP hD hS => ?_)
  have hP : va_P (dC, dI) vwCl [(x, .inr (7, (fs_12.set 11 (.int 0)))), (fl, .inr (2, ff)), (bx, .inl (cX, 3, .inr (.inr (.inr (.inr (va_up (va_up (va_up (fun _ => none) (0 : Int32).toNatClampNeg (some b0)) (1 : Int32).toNatClampNeg (some b1)) (2 : Int32).toNatClampNeg (some b2))))))), (b0, .inr (1, bf0)), (b1, .inr (1, bf1)), (b2, .inr (1, bf2)), (rd, .inr (4, fs_11)), (sh, .inr (5, so_3)), (sc, .inl (cS, 5, .inl sg_4))] H := hP
  have hD : va_D A [(x, .inr (7, (fs_12.set 11 (.int 0)))), (fl, .inr (2, ff)), (bx, .inl (cX, 3, .inr (.inr (.inr (.inr (va_up (va_up (va_up (fun _ => none) (0 : Int32).toNatClampNeg (some b0)) (1 : Int32).toNatClampNeg (some b1)) (2 : Int32).toNatClampNeg (some b2))))))), (b0, .inr (1, bf0)), (b1, .inr (1, bf1)), (b2, .inr (1, bf2)), (rd, .inr (4, fs_11)), (sh, .inr (5, so_3)), (sc, .inl (cS, 5, .inl sg_4))] := hD
  generalize efs_13 : (fs_12.set 11 (.int 0)) = fs_13 at hP hD
  have lfs_13 : fs_13.length = 14 := by rw [← efs_13, List.length_set]; exact lfs_12
  have ffs_13_0 : fs_13[0]? = some (.ref tp) := by rw [← efs_13]; exact p1_sn (by decide) ffs_12_0
  have ffs_13_1 : fs_13[1]? = some (.ref rd) := by rw [← efs_13]; exact p1_sn (by decide) ffs_12_1
  have ffs_13_4 : fs_13[4]? = some (.ref fl) := by rw [← efs_13]; exact p1_sn (by decide) ffs_12_4
  have ffs_13_5 : fs_13[5]? = some (.ref bx) := by rw [← efs_13]; exact p1_sn (by decide) ffs_12_5
  have ffs_13_9 : fs_13[9]? = some (.ref sh) := by rw [← efs_13]; exact p1_sn (by decide) ffs_12_9
  have ffs_13_10 : fs_13[10]? = some (.int 0) := by rw [← efs_13]; exact p1_sn (by decide) ffs_12_10
  have ffs_13_11 : fs_13[11]? = some (.int 0) := by rw [← efs_13]; exact p1_sa lfs_12 (by decide)
  refine lv_aload_n hx hb dX8_shop_54 rfl (lv_at hl 1 rfl) ?_
  refine va_get (D := (dC, dI)) (ci := 7) (v := .ref fl) (C := RX8) (T := TX8) (N := 14) hx hb hts i_X8 hown hK hP 0 rfl rfl 4 (by decide) k_10 (fun _ h9 => h9) ffs_13_4 dX8_shop_55 ?_
  refine lv_iconst (v := 0) hx hb dX8_shop_58 (by decide) ?_
  refine va_put (D := (dC, dI)) (ci := 2) (v := .int 0) (ty := .int) (C := RX2) (T := TX2) (N := 8) hx hb hts i_X2 tyX2 tyX2_ok nmX2 hown hK hP hD hS 1 rfl rfl 7 (by decide) k_11 (fun _ h9 => h9) rfl (by decide +kernel) rfl rfl (by rw [l_ff]; decide) dX8_shop_59 (fun H locs hP hD hS => ?_)
  have hP : va_P (dC, dI) vwCl [(x, .inr (7, fs_13)), (fl, .inr (2, (ff.set 7 (.int 0)))), (bx, .inl (cX, 3, .inr (.inr (.inr (.inr (va_up (va_up (va_up (fun _ => none) (0 : Int32).toNatClampNeg (some b0)) (1 : Int32).toNatClampNeg (some b1)) (2 : Int32).toNatClampNeg (some b2))))))), (b0, .inr (1, bf0)), (b1, .inr (1, bf1)), (b2, .inr (1, bf2)), (rd, .inr (4, fs_11)), (sh, .inr (5, so_3)), (sc, .inl (cS, 5, .inl sg_4))] H := hP
  have hD : va_D A [(x, .inr (7, fs_13)), (fl, .inr (2, (ff.set 7 (.int 0)))), (bx, .inl (cX, 3, .inr (.inr (.inr (.inr (va_up (va_up (va_up (fun _ => none) (0 : Int32).toNatClampNeg (some b0)) (1 : Int32).toNatClampNeg (some b1)) (2 : Int32).toNatClampNeg (some b2))))))), (b0, .inr (1, bf0)), (b1, .inr (1, bf1)), (b2, .inr (1, bf2)), (rd, .inr (4, fs_11)), (sh, .inr (5, so_3)), (sc, .inl (cS, 5, .inl sg_4))] := hD
  generalize efs_14 : (ff.set 7 (.int 0)) = fs_14 at hP hD
  have lfs_14 : fs_14.length = 8 := by rw [← efs_14, List.length_set]; exact l_ff
  have ffs_14_7 : fs_14[7]? = some (.int 0) := by rw [← efs_14]; exact p1_sa l_ff (by decide)
  refine lv_iconst (v := 0) hx hb dX8_shop_62 (by decide) ?_
  refine lv_istore_n (lv' := [(2, .int 0), (1, .ref csh), (0, .ref x)]) hx hb dX8_shop_63 rfl hl (by decide) rfl (fun ls hl => ?_)
  refine lv_iload_n hx hb dX8_shop_64 rfl (lv_at hl 0 rfl) ?_
  refine lv_iconst (v := 3) hx hb dX8_shop_65 (by decide) ?_
  refine lv_icmp_ge (tgt := 85) hx hb dX8_shop_66 (by decide) (fun c9 => absurd c9 (by decide)) (fun _ => ?_)
  refine lv_aload_n hx hb dX8_shop_69 rfl (lv_at hl 2 rfl) ?_
  refine va_get (D := (dC, dI)) (ci := 7) (v := .ref bx) (C := RX8) (T := TX8) (N := 14) hx hb hts i_X8 hown hK hP 0 rfl rfl 5 (by decide) k_12 (fun _ h9 => h9) ffs_13_5 dX8_shop_70 ?_
  refine lv_iload_n hx hb dX8_shop_73 rfl (lv_at hl 0 rfl) ?_
  refine va_aldq hx hb hK hP 2 6 rfl rfl (p1_in (i := 0) (n := 3) (by decide)) dX8_shop_74 ?_
  refine W.eq (g2 := F0 m 75 ls [.ref b0]) rfl ?_
  refine lv_iconst (v := 0) hx hb dX8_shop_75 (by decide) ?_
  refine va_put (D := (dC, dI)) (ci := 1) (v := .int 0) (ty := .boolean) (C := RX1) (T := TX1) (N := 3) hx hb hts i_X1 tyX1 tyX1_ok nmX1 hown hK hP hD hS 3 rfl rfl 2 (by decide) k_13 (fun _ h9 => h9) rfl (by decide +kernel) rfl rfl (by rw [l_bf0]; decide) dX8_shop_76 (fun H locs hP hD hS => ?_)
  have hP : va_P (dC, dI) vwCl [(x, .inr (7, fs_13)), (fl, .inr (2, fs_14)), (bx, .inl (cX, 3, .inr (.inr (.inr (.inr (va_up (va_up (va_up (fun _ => none) (0 : Int32).toNatClampNeg (some b0)) (1 : Int32).toNatClampNeg (some b1)) (2 : Int32).toNatClampNeg (some b2))))))), (b0, .inr (1, (bf0.set 2 (.int 0)))), (b1, .inr (1, bf1)), (b2, .inr (1, bf2)), (rd, .inr (4, fs_11)), (sh, .inr (5, so_3)), (sc, .inl (cS, 5, .inl sg_4))] H := hP
  have hD : va_D A [(x, .inr (7, fs_13)), (fl, .inr (2, fs_14)), (bx, .inl (cX, 3, .inr (.inr (.inr (.inr (va_up (va_up (va_up (fun _ => none) (0 : Int32).toNatClampNeg (some b0)) (1 : Int32).toNatClampNeg (some b1)) (2 : Int32).toNatClampNeg (some b2))))))), (b0, .inr (1, (bf0.set 2 (.int 0)))), (b1, .inr (1, bf1)), (b2, .inr (1, bf2)), (rd, .inr (4, fs_11)), (sh, .inr (5, so_3)), (sc, .inl (cS, 5, .inl sg_4))] := hD
  generalize efs_16 : (bf0.set 2 (.int 0)) = fs_16 at hP hD
  have lfs_16 : fs_16.length = 3 := by rw [← efs_16, List.length_set]; exact l_bf0
  have ffs_16_2 : fs_16[2]? = some (.int 0) := by rw [← efs_16]; exact p1_sa l_bf0 (by decide)
  refine lv_iinc (v := 1) (lv' := [(2, .int 1), (1, .ref csh), (0, .ref x)]) hx hb dX8_shop_79 hl (k := 0) rfl (by decide) (by decide) rfl (fun ls hl => ?_)
  refine lv_goto (tgt := 64) hx hb dX8_shop_82 (by decide) ?_
  refine lv_iload_n hx hb dX8_shop_64 rfl (lv_at hl 0 rfl) ?_
  refine lv_iconst (v := 3) hx hb dX8_shop_65 (by decide) ?_
  refine lv_icmp_ge (tgt := 85) hx hb dX8_shop_66 (by decide) (fun c9 => absurd c9 (by decide)) (fun _ => ?_)
  refine lv_aload_n hx hb dX8_shop_69 rfl (lv_at hl 2 rfl) ?_
  refine va_get (D := (dC, dI)) (ci := 7) (v := .ref bx) (C := RX8) (T := TX8) (N := 14) hx hb hts i_X8 hown hK hP 0 rfl rfl 5 (by decide) k_12 (fun _ h9 => h9) ffs_13_5 dX8_shop_70 ?_
  refine lv_iload_n hx hb dX8_shop_73 rfl (lv_at hl 0 rfl) ?_
  refine va_aldq hx hb hK hP 2 6 rfl rfl (p1_in (i := 1) (n := 3) (by decide)) dX8_shop_74 ?_
  refine W.eq (g2 := F0 m 75 ls [.ref b1]) rfl ?_
  refine lv_iconst (v := 0) hx hb dX8_shop_75 (by decide) ?_
  refine va_put (D := (dC, dI)) (ci := 1) (v := .int 0) (ty := .boolean) (C := RX1) (T := TX1) (N := 3) hx hb hts i_X1 tyX1 tyX1_ok nmX1 hown hK hP hD hS 4 rfl rfl 2 (by decide) k_13 (fun _ h9 => h9) rfl (by decide +kernel) rfl rfl (by rw [l_bf1]; decide) dX8_shop_76 (fun H locs hP hD hS => ?_)
  have hP : va_P (dC, dI) vwCl [(x, .inr (7, fs_13)), (fl, .inr (2, fs_14)), (bx, .inl (cX, 3, .inr (.inr (.inr (.inr (va_up (va_up (va_up (fun _ => none) (0 : Int32).toNatClampNeg (some b0)) (1 : Int32).toNatClampNeg (some b1)) (2 : Int32).toNatClampNeg (some b2))))))), (b0, .inr (1, fs_16)), (b1, .inr (1, (bf1.set 2 (.int 0)))), (b2, .inr (1, bf2)), (rd, .inr (4, fs_11)), (sh, .inr (5, so_3)), (sc, .inl (cS, 5, .inl sg_4))] H := hP
  have hD : va_D A [(x, .inr (7, fs_13)), (fl, .inr (2, fs_14)), (bx, .inl (cX, 3, .inr (.inr (.inr (.inr (va_up (va_up (va_up (fun _ => none) (0 : Int32).toNatClampNeg (some b0)) (1 : Int32).toNatClampNeg (some b1)) (2 : Int32).toNatClampNeg (some b2))))))), (b0, .inr (1, fs_16)), (b1, .inr (1, (bf1.set 2 (.int 0)))), (b2, .inr (1, bf2)), (rd, .inr (4, fs_11)), (sh, .inr (5, so_3)), (sc, .inl (cS, 5, .inl sg_4))] := hD
  generalize efs_18 : (bf1.set 2 (.int 0)) = fs_18 at hP hD
  have lfs_18 : fs_18.length = 3 := by rw [← efs_18, List.length_set]; exact l_bf1
  have ffs_18_2 : fs_18[2]? = some (.int 0) := by rw [← efs_18]; exact p1_sa l_bf1 (by decide)
  refine lv_iinc (v := 2) (lv' := [(2, .int 2), (1, .ref csh), (0, .ref x)]) hx hb dX8_shop_79 hl (k := 0) rfl (by decide) (by decide) rfl (fun ls hl => ?_)
  refine lv_goto (tgt := 64) hx hb dX8_shop_82 (by decide) ?_
  refine lv_iload_n hx hb dX8_shop_64 rfl (lv_at hl 0 rfl) ?_
  refine lv_iconst (v := 3) hx hb dX8_shop_65 (by decide) ?_
  refine lv_icmp_ge (tgt := 85) hx hb dX8_shop_66 (by decide) (fun c9 => absurd c9 (by decide)) (fun _ => ?_)
  refine lv_aload_n hx hb dX8_shop_69 rfl (lv_at hl 2 rfl) ?_
  refine va_get (D := (dC, dI)) (ci := 7) (v := .ref bx) (C := RX8) (T := TX8) (N := 14) hx hb hts i_X8 hown hK hP 0 rfl rfl 5 (by decide) k_12 (fun _ h9 => h9) ffs_13_5 dX8_shop_70 ?_
  refine lv_iload_n hx hb dX8_shop_73 rfl (lv_at hl 0 rfl) ?_
  refine va_aldq hx hb hK hP 2 6 rfl rfl (p1_in (i := 2) (n := 3) (by decide)) dX8_shop_74 ?_
  refine W.eq (g2 := F0 m 75 ls [.ref b2]) rfl ?_
  refine lv_iconst (v := 0) hx hb dX8_shop_75 (by decide) ?_
  refine va_put (D := (dC, dI)) (ci := 1) (v := .int 0) (ty := .boolean) (C := RX1) (T := TX1) (N := 3) hx hb hts i_X1 tyX1 tyX1_ok nmX1 hown hK hP hD hS 5 rfl rfl 2 (by decide) k_13 (fun _ h9 => h9) rfl (by decide +kernel) rfl rfl (by rw [l_bf2]; decide) dX8_shop_76 (fun H locs hP hD hS => ?_)
  have hP : va_P (dC, dI) vwCl [(x, .inr (7, fs_13)), (fl, .inr (2, fs_14)), (bx, .inl (cX, 3, .inr (.inr (.inr (.inr (va_up (va_up (va_up (fun _ => none) (0 : Int32).toNatClampNeg (some b0)) (1 : Int32).toNatClampNeg (some b1)) (2 : Int32).toNatClampNeg (some b2))))))), (b0, .inr (1, fs_16)), (b1, .inr (1, fs_18)), (b2, .inr (1, (bf2.set 2 (.int 0)))), (rd, .inr (4, fs_11)), (sh, .inr (5, so_3)), (sc, .inl (cS, 5, .inl sg_4))] H := hP
  have hD : va_D A [(x, .inr (7, fs_13)), (fl, .inr (2, fs_14)), (bx, .inl (cX, 3, .inr (.inr (.inr (.inr (va_up (va_up (va_up (fun _ => none) (0 : Int32).toNatClampNeg (some b0)) (1 : Int32).toNatClampNeg (some b1)) (2 : Int32).toNatClampNeg (some b2))))))), (b0, .inr (1, fs_16)), (b1, .inr (1, fs_18)), (b2, .inr (1, (bf2.set 2 (.int 0)))), (rd, .inr (4, fs_11)), (sh, .inr (5, so_3)), (sc, .inl (cS, 5, .inl sg_4))] := hD
  generalize efs_20 : (bf2.set 2 (.int 0)) = fs_20 at hP hD
  have lfs_20 : fs_20.length = 3 := by rw [← efs_20, List.length_set]; exact l_bf2
  have ffs_20_2 : fs_20[2]? = some (.int 0) := by rw [← efs_20]; exact p1_sa l_bf2 (by decide)
  refine lv_iinc (v := 3) (lv' := [(2, .int 3), (1, .ref csh), (0, .ref x)]) hx hb dX8_shop_79 hl (k := 0) rfl (by decide) (by decide) rfl (fun ls hl => ?_)
  refine lv_goto (tgt := 64) hx hb dX8_shop_82 (by decide) ?_
  refine lv_iload_n hx hb dX8_shop_64 rfl (lv_at hl 0 rfl) ?_
  refine lv_iconst (v := 3) hx hb dX8_shop_65 (by decide) ?_
  refine lv_icmp_ge (tgt := 85) hx hb dX8_shop_66 (by decide) (fun _ => ?_) (fun c9 => absurd c9 (by decide))
  refine lv_aload_n hx hb dX8_shop_85 rfl (lv_at hl 2 rfl) ?_
  refine va_get (D := (dC, dI)) (ci := 7) (v := .ref sh) (C := RX8) (T := TX8) (N := 14) hx hb hts i_X8 hown hK hP 0 rfl rfl 9 (by decide) k_7 (fun _ h9 => h9) ffs_13_9 dX8_shop_86 ?_
  refine va_get (D := (dC, dI)) (ci := 5) (v := .ref sc) (C := RX5) (T := TX5) (N := 15) hx hb hts i_X5 hown hK hP 7 rfl rfl 0 (by decide) k_14 (fun _ h9 => h9) z_7 dX8_shop_89 ?_
  refine lv_iconst (v := 0) hx hb dX8_shop_92 (by decide) ?_
  refine va_iald hx hb hK hP 8 1 rfl rfl (p1_in (i := 0) (n := 5) (by decide)) dX8_shop_93 ?_
  refine lv_topi (fun v_22 ev_22 => ?_)
  obtain rfl : v_22 = 0 := ev_22.trans z_8
  have hP9 := hP.sub (ws' := []) [] rfl
  have hD9 := hD.sub (ws' := []) [] (by decide) rfl
  have hK9 := hK.sub (tys' := []) [] rfl
  exact W.iret (v := 0) hx hb hr (fun t ht hW => ⟨⟨0, (), rfl, rfl, by rw [ht]; exact hP9, va_K.moved hW.alike hK9, hD9⟩, hS.F ht⟩) hS.2.2 dX8_shop_94
