def zo_c_putBytes0 : List Cond := [.code yX8_putBytes cX8_putBytes 3 none, .fieldLink RX8 64 "BowWalk" "tapeLength" "I", .fieldLink RX8 9 "BowWalk" "tape" "[B"]
def zw_c_putBytes0 : List Cond := zo_c_putBytes0 ++ (wsX80 ++ [])
theorem gz_c_putBytes0 : zw_c_putBytes0.all goodWord = true := p1_ga (by decide +kernel) (p1_ga gk_X8 p1_g0)
theorem iz_c_putBytes0 : ∀ w ∈ zw_c_putBytes0, w ∈ lw_tbl := p1_ia (p1_all [549, 509, 499] (by decide +kernel)) (p1_ia ik_X8 p1_i0)
set_option maxHeartbeats 4000000 in
set_option maxRecDepth 100000 in
theorem c_putBytes0 (l : Launch) (dC : Nat → ClassId) (dI : Nat → Nat → Nat) (sz : Nat) (x : Nat) (xs : List Value) (tp : Nat) (cT : ClassId) (tf : Nat → Int32) (a1 : Int32) (f_xs_0 : xs[0]? = some (.ref tp)) (f_xs_10 : xs[10]? = some (.int 0)) (l_xs : xs.length = 14) : Met l yX8_putBytes zw_c_putBytes0 ({ frames := 0, cells := 0, slots := 0, locals := 0 }) (va_Pc [.ref x, .int a1] (fun U => U.heap.size = sz ∧ va_P (dC, dI) vwCl [(x, .inr (7, xs)), (tp, .inl (cT, 1600, .inl tf))] U.heap ∧ va_K (dC, dI) vwCl [(cT, .byte)] U ∧ va_D (fun _ => True) [(x, .inr (7, xs)), (tp, .inl (cT, 1600, .inl tf))])) (va_Qv (fun (_ : Unit) => True) (fun _ t => ∃ (xo : List Value) (to : Nat → Int32), xo.length = 14 ∧ xo[0]? = some (.ref tp) ∧ xo[10]? = some (.int 4) ∧ va_P (dC, dI) vwCl [(x, .inr (7, xo)), (tp, .inl (cT, 1600, .inl to))] t.heap ∧ va_K (dC, dI) vwCl [] t ∧ va_D (va_A [(x, .inr (7, xs)), (tp, .inl (cT, 1600, .inl tf))] sz) [(x, .inr (7, xo)), (tp, .inl (cT, 1600, .inl to))]) (va_A [(x, .inr (7, xs)), (tp, .inl (cT, 1600, .inl tf))] sz)) 0 0 (va_A [(x, .inr (7, xs)), (tp, .inl (cT, 1600, .inl tf))] sz) := by
  refine Met.ofW (cc := cX8_putBytes) (maxL := 3) (ret := none) (by decide) rfl ?_
  intro p e s m args below meth c s₁ B hml hv
  obtain ⟨rfl, hsz, hP, hK, hD0⟩ := hv
  have hx := B.exec
  have hb := B.bytes
  have hr := B.returns
  have hts := atoms_spec (ws := zw_c_putBytes0) B.pre
  have hown : s.vm.findClass RX8 = some m.cls := findClass_of_methodNamed B.named
  have hlocks := B.notSynchronized
  subst hsz
  have hD := hD0.self (sz := s.heap.size)
  generalize hAe : va_A [(x, .inr (7, xs)), (tp, .inl (cT, 1600, .inl tf))] s.heap.size = A at hD ⊢
  have hA : ∀ q : Nat, s.heap.size ≤ q → A q := fun q h => by rw [← hAe]; exact Or.inr h
  have hS : va_S A s.heap s.heap [] := va_S.rf
  have hP : va_P (dC, dI) vwCl [(x, .inr (7, xs)), (tp, .inl (cT, 1600, .inl tf))] s.heap := hP
  have m_0 : (.fieldLink RX8 64 "BowWalk" "tapeLength" "I" : Cond) ∈ zw_c_putBytes0 := List.mem_append_left _ (List.mem_of_getElem? (i := 1) rfl)
  have k_0 := hts _ m_0
  have m_1 : (.fieldLink RX8 9 "BowWalk" "tape" "[B" : Cond) ∈ zw_c_putBytes0 := List.mem_append_left _ (List.mem_of_getElem? (i := 2) rfl)
  have k_1 := hts _ m_1
  have i_X8 : ∀ w ∈ u_ws RX8 TX8 14, w ∈ zw_c_putBytes0 := fun w h => List.mem_append_right _ (List.mem_append_left _ h)
  have hl := lv_entry ([.ref x, .int a1]) (n := 3) (Nat.le_of_ble_eq_true rfl)
  rw [lg_entry_eq]
  generalize (lg_sl ([.ref x, .int a1]) ++ List.replicate (3 - (lg_sl ([.ref x, .int a1])).length) Slot.unset).toArray = ls at hl ⊢
  have hl : lv_has ls 3 [(0, .ref x), (1, .int a1)] := hl
  refine lv_bipush (v := 24) hx hb dX8_putBytes_0 (by decide) ?_
  refine lv_istore_n (lv' := [(2, .int 24), (0, .ref x), (1, .int a1)]) hx hb dX8_putBytes_2 rfl hl (by decide) rfl (fun ls hl => ?_)
  refine lv_iload_n hx hb dX8_putBytes_3 rfl (lv_at hl 0 rfl) ?_
  refine lv_if_lt (tgt := 46) hx hb dX8_putBytes_4 (by decide) (fun c9 => absurd c9 (by decide)) (fun _ => ?_)
  refine lv_aload_n hx hb dX8_putBytes_7 rfl (lv_at hl 1 rfl) ?_
  refine va_get (D := (dC, dI)) (ci := 7) (v := .int 0) (C := RX8) (T := TX8) (N := 14) hx hb hts i_X8 hown hK hP 0 rfl rfl 10 (by decide) k_0 (fun _ h9 => h9) f_xs_10 dX8_putBytes_8 ?_
  refine lv_sipush (v := 1600) hx hb dX8_putBytes_11 (by decide) ?_
  refine lv_icmp_ge (tgt := 46) hx hb dX8_putBytes_14 (by decide) (fun c9 => absurd c9 (by decide)) (fun _ => ?_)
  refine lv_aload_n hx hb dX8_putBytes_17 rfl (lv_at hl 1 rfl) ?_
  refine va_get (D := (dC, dI)) (ci := 7) (v := .ref tp) (C := RX8) (T := TX8) (N := 14) hx hb hts i_X8 hown hK hP 0 rfl rfl 0 (by decide) k_1 (fun _ h9 => h9) f_xs_0 dX8_putBytes_18 ?_
  refine lv_aload_n hx hb dX8_putBytes_21 rfl (lv_at hl 1 rfl) ?_
  refine va_get (D := (dC, dI)) (ci := 7) (v := .int 0) (C := RX8) (T := TX8) (N := 14) hx hb hts i_X8 hown hK hP 0 rfl rfl 10 (by decide) k_0 (fun _ h9 => h9) f_xs_10 dX8_putBytes_22 ?_
  refine lv_iload_n hx hb dX8_putBytes_25 rfl (lv_at hl 2 rfl) ?_
  refine lv_iload_n hx hb dX8_putBytes_26 rfl (lv_at hl 0 rfl) ?_
  refine lv_iushr hx hb dX8_putBytes_27 rfl ?_
  refine lv_topi (fun v_4 ev_4 => ?_)
  refine lv_i2b hx hb dX8_putBytes_28 rfl ?_
  refine lv_topi (fun v_6 ev_6 => ?_)
  refine va_bast hx hb hK hP hD hS 1 0 rfl rfl (p1_in (i := 0) (n := 1600) (by decide)) dX8_putBytes_29 (fun H locs hP hD hS => ?_)
  have hP : va_P (dC, dI) vwCl [(x, .inr (7, xs)), (tp, .inl (cT, 1600, .inl (upd tf (0 : Int32).toNatClampNeg (vp_nar .byte v_6))))] H := hP
  have hD : va_D A [(x, .inr (7, xs)), (tp, .inl (cT, 1600, .inl (upd tf (0 : Int32).toNatClampNeg (vp_nar .byte v_6))))] := hD
  generalize eg_7 : (upd tf (0 : Int32).toNatClampNeg (vp_nar .byte v_6)) = g_7 at hP hD
  refine lv_aload_n hx hb dX8_putBytes_30 rfl (lv_at hl 1 rfl) ?_
  refine lv_dup hx hb dX8_putBytes_31 rfl ?_
  refine va_get (D := (dC, dI)) (ci := 7) (v := .int 0) (C := RX8) (T := TX8) (N := 14) hx hb hts i_X8 hown hK hP 0 rfl rfl 10 (by decide) k_0 (fun _ h9 => h9) f_xs_10 dX8_putBytes_32 ?_
  refine lv_iconst (v := 1) hx hb dX8_putBytes_35 (by decide) ?_
  refine lv_iadd hx hb dX8_putBytes_36 ?_
  refine lv_topi (fun v_8 ev_8 => ?_)
  obtain rfl : v_8 = 1 := ev_8.trans (by decide)
  refine va_put (D := (dC, dI)) (ci := 7) (v := .int 1) (ty := .int) (C := RX8) (T := TX8) (N := 14) hx hb hts i_X8 tyX8 tyX8_ok nmX8 hown hK hP hD hS 0 rfl rfl 10 (by decide) k_0 (fun _ h9 => h9) rfl (by decide +kernel) rfl rfl (by rw [l_xs]; decide) dX8_putBytes_37 (fun H locs hP hD hS => ?_)
  have hP : va_P (dC, dI) vwCl [(x, .inr (7, (xs.set 10 (.int 1)))), (tp, .inl (cT, 1600, .inl g_7))] H := hP
  have hD : va_D A [(x, .inr (7, (xs.set 10 (.int 1)))), (tp, .inl (cT, 1600, .inl g_7))] := hD
  generalize efs_9 : (xs.set 10 (.int 1)) = fs_9 at hP hD
  have lfs_9 : fs_9.length = 14 := by rw [← efs_9, List.length_set]; exact l_xs
  have ffs_9_0 : fs_9[0]? = some (.ref tp) := by rw [← efs_9]; exact p1_sn (by decide) f_xs_0
  have ffs_9_10 : fs_9[10]? = some (.int 1) := by rw [← efs_9]; exact p1_sa l_xs (by decide)
  refine lv_iinc (v := 16) (lv' := [(2, .int 16), (0, .ref x), (1, .int a1)]) hx hb dX8_putBytes_40 hl (k := 0) rfl (by decide) (by decide) rfl (fun ls hl => ?_)
  refine lv_goto (tgt := 3) hx hb dX8_putBytes_43 (by decide) ?_
  refine lv_iload_n hx hb dX8_putBytes_3 rfl (lv_at hl 0 rfl) ?_
  refine lv_if_lt (tgt := 46) hx hb dX8_putBytes_4 (by decide) (fun c9 => absurd c9 (by decide)) (fun _ => ?_)
  refine lv_aload_n hx hb dX8_putBytes_7 rfl (lv_at hl 1 rfl) ?_
  refine va_get (D := (dC, dI)) (ci := 7) (v := .int 1) (C := RX8) (T := TX8) (N := 14) hx hb hts i_X8 hown hK hP 0 rfl rfl 10 (by decide) k_0 (fun _ h9 => h9) ffs_9_10 dX8_putBytes_8 ?_
  refine lv_sipush (v := 1600) hx hb dX8_putBytes_11 (by decide) ?_
  refine lv_icmp_ge (tgt := 46) hx hb dX8_putBytes_14 (by decide) (fun c9 => absurd c9 (by decide)) (fun _ => ?_)
  refine lv_aload_n hx hb dX8_putBytes_17 rfl (lv_at hl 1 rfl) ?_
  refine va_get (D := (dC, dI)) (ci := 7) (v := .ref tp) (C := RX8) (T := TX8) (N := 14) hx hb hts i_X8 hown hK hP 0 rfl rfl 0 (by decide) k_1 (fun _ h9 => h9) ffs_9_0 dX8_putBytes_18 ?_
  refine lv_aload_n hx hb dX8_putBytes_21 rfl (lv_at hl 1 rfl) ?_
  refine va_get (D := (dC, dI)) (ci := 7) (v := .int 1) (C := RX8) (T := TX8) (N := 14) hx hb hts i_X8 hown hK hP 0 rfl rfl 10 (by decide) k_0 (fun _ h9 => h9) ffs_9_10 dX8_putBytes_22 ?_
  refine lv_iload_n hx hb dX8_putBytes_25 rfl (lv_at hl 2 rfl) ?_
  refine lv_iload_n hx hb dX8_putBytes_26 rfl (lv_at hl 0 rfl) ?_
  refine lv_iushr hx hb dX8_putBytes_27 rfl ?_
  refine lv_topi (fun v_13 ev_13 => ?_)
  refine lv_i2b hx hb dX8_putBytes_28 rfl ?_
  refine lv_topi (fun v_15 ev_15 => ?_)
  refine va_bast hx hb hK hP hD hS 1 0 rfl rfl (p1_in (i := 1) (n := 1600) (by decide)) dX8_putBytes_29 (fun H locs hP hD hS => ?_)
  have hP : va_P (dC, dI) vwCl [(x, .inr (7, fs_9)), (tp, .inl (cT, 1600, .inl (upd g_7 (1 : Int32).toNatClampNeg (vp_nar .byte v_15))))] H := hP
  have hD : va_D A [(x, .inr (7, fs_9)), (tp, .inl (cT, 1600, .inl (upd g_7 (1 : Int32).toNatClampNeg (vp_nar .byte v_15))))] := hD
  generalize eg_16 : (upd g_7 (1 : Int32).toNatClampNeg (vp_nar .byte v_15)) = g_16 at hP hD
  refine lv_aload_n hx hb dX8_putBytes_30 rfl (lv_at hl 1 rfl) ?_
  refine lv_dup hx hb dX8_putBytes_31 rfl ?_
  refine va_get (D := (dC, dI)) (ci := 7) (v := .int 1) (C := RX8) (T := TX8) (N := 14) hx hb hts i_X8 hown hK hP 0 rfl rfl 10 (by decide) k_0 (fun _ h9 => h9) ffs_9_10 dX8_putBytes_32 ?_
  refine lv_iconst (v := 1) hx hb dX8_putBytes_35 (by decide) ?_
  refine lv_iadd hx hb dX8_putBytes_36 ?_
  refine lv_topi (fun v_17 ev_17 => ?_)
  obtain rfl : v_17 = 2 := ev_17.trans (by decide)
  refine va_put (D := (dC, dI)) (ci := 7) (v := .int 2) (ty := .int) (C := RX8) (T := TX8) (N := 14) hx hb hts i_X8 tyX8 tyX8_ok nmX8 hown hK hP hD hS 0 rfl rfl 10 (by decide) k_0 (fun _ h9 => h9) rfl (by decide +kernel) rfl rfl (by rw [lfs_9]; decide) dX8_putBytes_37 (fun H locs hP hD hS => ?_)
  have hP : va_P (dC, dI) vwCl [(x, .inr (7, (fs_9.set 10 (.int 2)))), (tp, .inl (cT, 1600, .inl g_16))] H := hP
  have hD : va_D A [(x, .inr (7, (fs_9.set 10 (.int 2)))), (tp, .inl (cT, 1600, .inl g_16))] := hD
  generalize efs_18 : (fs_9.set 10 (.int 2)) = fs_18 at hP hD
  have lfs_18 : fs_18.length = 14 := by rw [← efs_18, List.length_set]; exact lfs_9
  have ffs_18_0 : fs_18[0]? = some (.ref tp) := by rw [← efs_18]; exact p1_sn (by decide) ffs_9_0
  have ffs_18_10 : fs_18[10]? = some (.int 2) := by rw [← efs_18]; exact p1_sa lfs_9 (by decide)
  refine lv_iinc (v := 8) (lv' := [(2, .int 8), (0, .ref x), (1, .int a1)]) hx hb dX8_putBytes_40 hl (k := 0) rfl (by decide) (by decide) rfl (fun ls hl => ?_)
  refine lv_goto (tgt := 3) hx hb dX8_putBytes_43 (by decide) ?_
  refine lv_iload_n hx hb dX8_putBytes_3 rfl (lv_at hl 0 rfl) ?_
  refine lv_if_lt (tgt := 46) hx hb dX8_putBytes_4 (by decide) (fun c9 => absurd c9 (by decide)) (fun _ => ?_)
  refine lv_aload_n hx hb dX8_putBytes_7 rfl (lv_at hl 1 rfl) ?_
  refine va_get (D := (dC, dI)) (ci := 7) (v := .int 2) (C := RX8) (T := TX8) (N := 14) hx hb hts i_X8 hown hK hP 0 rfl rfl 10 (by decide) k_0 (fun _ h9 => h9) ffs_18_10 dX8_putBytes_8 ?_
  refine lv_sipush (v := 1600) hx hb dX8_putBytes_11 (by decide) ?_
  refine lv_icmp_ge (tgt := 46) hx hb dX8_putBytes_14 (by decide) (fun c9 => absurd c9 (by decide)) (fun _ => ?_)
  refine lv_aload_n hx hb dX8_putBytes_17 rfl (lv_at hl 1 rfl) ?_
  refine va_get (D := (dC, dI)) (ci := 7) (v := .ref tp) (C := RX8) (T := TX8) (N := 14) hx hb hts i_X8 hown hK hP 0 rfl rfl 0 (by decide) k_1 (fun _ h9 => h9) ffs_18_0 dX8_putBytes_18 ?_
  refine lv_aload_n hx hb dX8_putBytes_21 rfl (lv_at hl 1 rfl) ?_
  refine va_get (D := (dC, dI)) (ci := 7) (v := .int 2) (C := RX8) (T := TX8) (N := 14) hx hb hts i_X8 hown hK hP 0 rfl rfl 10 (by decide) k_0 (fun _ h9 => h9) ffs_18_10 dX8_putBytes_22 ?_
  refine lv_iload_n hx hb dX8_putBytes_25 rfl (lv_at hl 2 rfl) ?_
  refine lv_iload_n hx hb dX8_putBytes_26 rfl (lv_at hl 0 rfl) ?_
  refine lv_iushr hx hb dX8_putBytes_27 rfl ?_
  refine lv_topi (fun v_22 ev_22 => ?_)
  refine lv_i2b hx hb dX8_putBytes_28 rfl ?_
  refine lv_topi (fun v_24 ev_24 => ?_)
  refine va_bast hx hb hK hP hD hS 1 0 rfl rfl (p1_in (i := 2) (n := 1600) (by decide)) dX8_putBytes_29 (fun H locs hP hD hS => ?_)
  have hP : va_P (dC, dI) vwCl [(x, .inr (7, fs_18)), (tp, .inl (cT, 1600, .inl (upd g_16 (2 : Int32).toNatClampNeg (vp_nar .byte v_24))))] H := hP
  have hD : va_D A [(x, .inr (7, fs_18)), (tp, .inl (cT, 1600, .inl (upd g_16 (2 : Int32).toNatClampNeg (vp_nar .byte v_24))))] := hD
  generalize eg_25 : (upd g_16 (2 : Int32).toNatClampNeg (vp_nar .byte v_24)) = g_25 at hP hD
  refine lv_aload_n hx hb dX8_putBytes_30 rfl (lv_at hl 1 rfl) ?_
  refine lv_dup hx hb dX8_putBytes_31 rfl ?_
  refine va_get (D := (dC, dI)) (ci := 7) (v := .int 2) (C := RX8) (T := TX8) (N := 14) hx hb hts i_X8 hown hK hP 0 rfl rfl 10 (by decide) k_0 (fun _ h9 => h9) ffs_18_10 dX8_putBytes_32 ?_
  refine lv_iconst (v := 1) hx hb dX8_putBytes_35 (by decide) ?_
  refine lv_iadd hx hb dX8_putBytes_36 ?_
  refine lv_topi (fun v_26 ev_26 => ?_)
  obtain rfl : v_26 = 3 := ev_26.trans (by decide)
  refine va_put (D := (dC, dI)) (ci := 7) (v := .int 3) (ty := .int) (C := RX8) (T := TX8) (N := 14) hx hb hts i_X8 tyX8 tyX8_ok nmX8 hown hK hP hD hS 0 rfl rfl 10 (by decide) k_0 (fun _ h9 => h9) rfl (by decide +kernel) rfl rfl (by rw [lfs_18]; decide) dX8_putBytes_37 (fun H locs hP hD hS => ?_)
  have hP : va_P (dC, dI) vwCl [(x, .inr (7, (fs_18.set 10 (.int 3)))), (tp, .inl (cT, 1600, .inl g_25))] H := hP
  have hD : va_D A [(x, .inr (7, (fs_18.set 10 (.int 3)))), (tp, .inl (cT, 1600, .inl g_25))] := hD
  generalize efs_27 : (fs_18.set 10 (.int 3)) = fs_27 at hP hD
  have lfs_27 : fs_27.length = 14 := by rw [← efs_27, List.length_set]; exact lfs_18
  have ffs_27_0 : fs_27[0]? = some (.ref tp) := by rw [← efs_27]; exact p1_sn (by decide) ffs_18_0
  have ffs_27_10 : fs_27[10]? = some (.int 3) := by rw [← efs_27]; exact p1_sa lfs_18 (by decide)
  refine lv_iinc (v := 0) (lv' := [(2, .int 0), (0, .ref x), (1, .int a1)]) hx hb dX8_putBytes_40 hl (k := 0) rfl (by decide) (by decide) rfl (fun ls hl => ?_)
  refine lv_goto (tgt := 3) hx hb dX8_putBytes_43 (by decide) ?_
  refine lv_iload_n hx hb dX8_putBytes_3 rfl (lv_at hl 0 rfl) ?_
  refine lv_if_lt (tgt := 46) hx hb dX8_putBytes_4 (by decide) (fun c9 => absurd c9 (by decide)) (fun _ => ?_)
  refine lv_aload_n hx hb dX8_putBytes_7 rfl (lv_at hl 1 rfl) ?_
  refine va_get (D := (dC, dI)) (ci := 7) (v := .int 3) (C := RX8) (T := TX8) (N := 14) hx hb hts i_X8 hown hK hP 0 rfl rfl 10 (by decide) k_0 (fun _ h9 => h9) ffs_27_10 dX8_putBytes_8 ?_
  refine lv_sipush (v := 1600) hx hb dX8_putBytes_11 (by decide) ?_
  refine lv_icmp_ge (tgt := 46) hx hb dX8_putBytes_14 (by decide) (fun c9 => absurd c9 (by decide)) (fun _ => ?_)
  refine lv_aload_n hx hb dX8_putBytes_17 rfl (lv_at hl 1 rfl) ?_
  refine va_get (D := (dC, dI)) (ci := 7) (v := .ref tp) (C := RX8) (T := TX8) (N := 14) hx hb hts i_X8 hown hK hP 0 rfl rfl 0 (by decide) k_1 (fun _ h9 => h9) ffs_27_0 dX8_putBytes_18 ?_
  refine lv_aload_n hx hb dX8_putBytes_21 rfl (lv_at hl 1 rfl) ?_
  refine va_get (D := (dC, dI)) (ci := 7) (v := .int 3) (C := RX8) (T := TX8) (N := 14) hx hb hts i_X8 hown hK hP 0 rfl rfl 10 (by decide) k_0 (fun _ h9 => h9) ffs_27_10 dX8_putBytes_22 ?_
  refine lv_iload_n hx hb dX8_putBytes_25 rfl (lv_at hl 2 rfl) ?_
  refine lv_iload_n hx hb dX8_putBytes_26 rfl (lv_at hl 0 rfl) ?_
  refine lv_iushr hx hb dX8_putBytes_27 rfl ?_
  refine lv_topi (fun v_31 ev_31 => ?_)
  refine lv_i2b hx hb dX8_putBytes_28 rfl ?_
  refine lv_topi (fun v_33 ev_33 => ?_)
  refine va_bast hx hb hK hP hD hS 1 0 rfl rfl (p1_in (i := 3) (n := 1600) (by decide)) dX8_putBytes_29 (fun H locs hP hD hS => ?_)
  have hP : va_P (dC, dI) vwCl [(x, .inr (7, fs_27)), (tp, .inl (cT, 1600, .inl (upd g_25 (3 : Int32).toNatClampNeg (vp_nar .byte v_33))))] H := hP
  have hD : va_D A [(x, .inr (7, fs_27)), (tp, .inl (cT, 1600, .inl (upd g_25 (3 : Int32).toNatClampNeg (vp_nar .byte v_33))))] := hD
  generalize eg_34 : (upd g_25 (3 : Int32).toNatClampNeg (vp_nar .byte v_33)) = g_34 at hP hD
  refine lv_aload_n hx hb dX8_putBytes_30 rfl (lv_at hl 1 rfl) ?_
  refine lv_dup hx hb dX8_putBytes_31 rfl ?_
  refine va_get (D := (dC, dI)) (ci := 7) (v := .int 3) (C := RX8) (T := TX8) (N := 14) hx hb hts i_X8 hown hK hP 0 rfl rfl 10 (by decide) k_0 (fun _ h9 => h9) ffs_27_10 dX8_putBytes_32 ?_
  refine lv_iconst (v := 1) hx hb dX8_putBytes_35 (by decide) ?_
  refine lv_iadd hx hb dX8_putBytes_36 ?_
  refine lv_topi (fun v_35 ev_35 => ?_)
  obtain rfl : v_35 = 4 := ev_35.trans (by decide)
  refine va_put (D := (dC, dI)) (ci := 7) (v := .int 4) (ty := .int) (C := RX8) (T := TX8) (N := 14) hx hb hts i_X8 tyX8 tyX8_ok nmX8 hown hK hP hD hS 0 rfl rfl 10 (by decide) k_0 (fun _ h9 => h9) rfl (by decide +kernel) rfl rfl (by rw [lfs_27]; decide) dX8_putBytes_37 (fun H locs hP hD hS => ?_)
  have hP : va_P (dC, dI) vwCl [(x, .inr (7, (fs_27.set 10 (.int 4)))), (tp, .inl (cT, 1600, .inl g_34))] H := hP
  have hD : va_D A [(x, .inr (7, (fs_27.set 10 (.int 4)))), (tp, .inl (cT, 1600, .inl g_34))] := hD
  generalize efs_36 : (fs_27.set 10 (.int 4)) = fs_36 at hP hD
  have lfs_36 : fs_36.length = 14 := by rw [← efs_36, List.length_set]; exact lfs_27
  have ffs_36_0 : fs_36[0]? = some (.ref tp) := by rw [← efs_36]; exact p1_sn (by decide) ffs_27_0
  have ffs_36_10 : fs_36[10]? = some (.int 4) := by rw [← efs_36]; exact p1_sa lfs_27 (by decide)
  refine lv_iinc (v := (-8)) (lv' := [(2, .int (-8)), (0, .ref x), (1, .int a1)]) hx hb dX8_putBytes_40 hl (k := 0) rfl (by decide) (by decide) rfl (fun ls hl => ?_)
  refine lv_goto (tgt := 3) hx hb dX8_putBytes_43 (by decide) ?_
  refine lv_iload_n hx hb dX8_putBytes_3 rfl (lv_at hl 0 rfl) ?_
  refine lv_if_lt (tgt := 46) hx hb dX8_putBytes_4 (by decide) (fun _ => ?_) (fun c9 => absurd c9 (by decide))
  have hP9 := hP.sub (ws' := [(x, .inr (7, fs_36)), (tp, .inl (cT, 1600, .inl g_34))]) [0, 1] rfl
  have hD9 := hD.sub (ws' := [(x, .inr (7, fs_36)), (tp, .inl (cT, 1600, .inl g_34))]) [0, 1] (by decide) rfl
  have hK9 := hK.sub (tys' := []) [] rfl
  exact W.vret hx hb hr (fun t ht hW => ⟨⟨(), rfl, trivial, fs_36, g_34, lfs_36, ffs_36_0, ffs_36_10, by rw [ht]; exact hP9, va_K.moved hW.alike hK9, hD9⟩, hS.F ht⟩) hS.2.2 dX8_putBytes_46
def zo_c_putBytes4 : List Cond := [.code yX8_putBytes cX8_putBytes 3 none, .fieldLink RX8 64 "BowWalk" "tapeLength" "I", .fieldLink RX8 9 "BowWalk" "tape" "[B"]
def zw_c_putBytes4 : List Cond := zo_c_putBytes4 ++ (wsX80 ++ [])
theorem gz_c_putBytes4 : zw_c_putBytes4.all goodWord = true := p1_ga (by decide +kernel) (p1_ga gk_X8 p1_g0)
theorem iz_c_putBytes4 : ∀ w ∈ zw_c_putBytes4, w ∈ lw_tbl := p1_ia (p1_all [549, 509, 499] (by decide +kernel)) (p1_ia ik_X8 p1_i0)
set_option maxHeartbeats 4000000 in
set_option maxRecDepth 100000 in
theorem c_putBytes4 (l : Launch) (dC : Nat → ClassId) (dI : Nat → Nat → Nat) (sz : Nat) (x : Nat) (xs : List Value) (tp : Nat) (cT : ClassId) (tf : Nat → Int32) (a1 : Int32) (f_xs_0 : xs[0]? = some (.ref tp)) (f_xs_10 : xs[10]? = some (.int 4)) (l_xs : xs.length = 14) : Met l yX8_putBytes zw_c_putBytes4 ({ frames := 0, cells := 0, slots := 0, locals := 0 }) (va_Pc [.ref x, .int a1] (fun U => U.heap.size = sz ∧ va_P (dC, dI) vwCl [(x, .inr (7, xs)), (tp, .inl (cT, 1600, .inl tf))] U.heap ∧ va_K (dC, dI) vwCl [(cT, .byte)] U ∧ va_D (fun _ => True) [(x, .inr (7, xs)), (tp, .inl (cT, 1600, .inl tf))])) (va_Qv (fun (_ : Unit) => True) (fun _ t => ∃ (xo : List Value) (to : Nat → Int32), xo.length = 14 ∧ xo[0]? = some (.ref tp) ∧ xo[10]? = some (.int 8) ∧ va_P (dC, dI) vwCl [(x, .inr (7, xo)), (tp, .inl (cT, 1600, .inl to))] t.heap ∧ va_K (dC, dI) vwCl [] t ∧ va_D (va_A [(x, .inr (7, xs)), (tp, .inl (cT, 1600, .inl tf))] sz) [(x, .inr (7, xo)), (tp, .inl (cT, 1600, .inl to))]) (va_A [(x, .inr (7, xs)), (tp, .inl (cT, 1600, .inl tf))] sz)) 0 0 (va_A [(x, .inr (7, xs)), (tp, .inl (cT, 1600, .inl tf))] sz) := by
  refine Met.ofW (cc := cX8_putBytes) (maxL := 3) (ret := none) (by decide) rfl ?_
  intro p e s m args below meth c s₁ B hml hv
  obtain ⟨rfl, hsz, hP, hK, hD0⟩ := hv
  have hx := B.exec
  have hb := B.bytes
  have hr := B.returns
  have hts := atoms_spec (ws := zw_c_putBytes4) B.pre
  have hown : s.vm.findClass RX8 = some m.cls := findClass_of_methodNamed B.named
  have hlocks := B.notSynchronized
  subst hsz
  have hD := hD0.self (sz := s.heap.size)
  generalize hAe : va_A [(x, .inr (7, xs)), (tp, .inl (cT, 1600, .inl tf))] s.heap.size = A at hD ⊢
  have hA : ∀ q : Nat, s.heap.size ≤ q → A q := fun q h => by rw [← hAe]; exact Or.inr h
  have hS : va_S A s.heap s.heap [] := va_S.rf
  have hP : va_P (dC, dI) vwCl [(x, .inr (7, xs)), (tp, .inl (cT, 1600, .inl tf))] s.heap := hP
  have m_0 : (.fieldLink RX8 64 "BowWalk" "tapeLength" "I" : Cond) ∈ zw_c_putBytes4 := List.mem_append_left _ (List.mem_of_getElem? (i := 1) rfl)
  have k_0 := hts _ m_0
  have m_1 : (.fieldLink RX8 9 "BowWalk" "tape" "[B" : Cond) ∈ zw_c_putBytes4 := List.mem_append_left _ (List.mem_of_getElem? (i := 2) rfl)
  have k_1 := hts _ m_1
  have i_X8 : ∀ w ∈ u_ws RX8 TX8 14, w ∈ zw_c_putBytes4 := fun w h => List.mem_append_right _ (List.mem_append_left _ h)
  have hl := lv_entry ([.ref x, .int a1]) (n := 3) (Nat.le_of_ble_eq_true rfl)
  rw [lg_entry_eq]
  generalize (lg_sl ([.ref x, .int a1]) ++ List.replicate (3 - (lg_sl ([.ref x, .int a1])).length) Slot.unset).toArray = ls at hl ⊢
  have hl : lv_has ls 3 [(0, .ref x), (1, .int a1)] := hl
  refine lv_bipush (v := 24) hx hb dX8_putBytes_0 (by decide) ?_
  refine lv_istore_n (lv' := [(2, .int 24), (0, .ref x), (1, .int a1)]) hx hb dX8_putBytes_2 rfl hl (by decide) rfl (fun ls hl => ?_)
  refine lv_iload_n hx hb dX8_putBytes_3 rfl (lv_at hl 0 rfl) ?_
  refine lv_if_lt (tgt := 46) hx hb dX8_putBytes_4 (by decide) (fun c9 => absurd c9 (by decide)) (fun _ => ?_)
  refine lv_aload_n hx hb dX8_putBytes_7 rfl (lv_at hl 1 rfl) ?_
  refine va_get (D := (dC, dI)) (ci := 7) (v := .int 4) (C := RX8) (T := TX8) (N := 14) hx hb hts i_X8 hown hK hP 0 rfl rfl 10 (by decide) k_0 (fun _ h9 => h9) f_xs_10 dX8_putBytes_8 ?_
  refine lv_sipush (v := 1600) hx hb dX8_putBytes_11 (by decide) ?_
  refine lv_icmp_ge (tgt := 46) hx hb dX8_putBytes_14 (by decide) (fun c9 => absurd c9 (by decide)) (fun _ => ?_)
  refine lv_aload_n hx hb dX8_putBytes_17 rfl (lv_at hl 1 rfl) ?_
  refine va_get (D := (dC, dI)) (ci := 7) (v := .ref tp) (C := RX8) (T := TX8) (N := 14) hx hb hts i_X8 hown hK hP 0 rfl rfl 0 (by decide) k_1 (fun _ h9 => h9) f_xs_0 dX8_putBytes_18 ?_
  refine lv_aload_n hx hb dX8_putBytes_21 rfl (lv_at hl 1 rfl) ?_
  refine va_get (D := (dC, dI)) (ci := 7) (v := .int 4) (C := RX8) (T := TX8) (N := 14) hx hb hts i_X8 hown hK hP 0 rfl rfl 10 (by decide) k_0 (fun _ h9 => h9) f_xs_10 dX8_putBytes_22 ?_
  refine lv_iload_n hx hb dX8_putBytes_25 rfl (lv_at hl 2 rfl) ?_
  refine lv_iload_n hx hb dX8_putBytes_26 rfl (lv_at hl 0 rfl) ?_
  refine lv_iushr hx hb dX8_putBytes_27 rfl ?_
  refine lv_topi (fun v_4 ev_4 => ?_)
  refine lv_i2b hx hb dX8_putBytes_28 rfl ?_
  refine lv_topi (fun v_6 ev_6 => ?_)
  refine va_bast hx hb hK hP hD hS 1 0 rfl rfl (p1_in (i := 4) (n := 1600) (by decide)) dX8_putBytes_29 (fun H locs hP hD hS => ?_)
  have hP : va_P (dC, dI) vwCl [(x, .inr (7, xs)), (tp, .inl (cT, 1600, .inl (upd tf (4 : Int32).toNatClampNeg (vp_nar .byte v_6))))] H := hP
  have hD : va_D A [(x, .inr (7, xs)), (tp, .inl (cT, 1600, .inl (upd tf (4 : Int32).toNatClampNeg (vp_nar .byte v_6))))] := hD
  generalize eg_7 : (upd tf (4 : Int32).toNatClampNeg (vp_nar .byte v_6)) = g_7 at hP hD
  refine lv_aload_n hx hb dX8_putBytes_30 rfl (lv_at hl 1 rfl) ?_
  refine lv_dup hx hb dX8_putBytes_31 rfl ?_
  refine va_get (D := (dC, dI)) (ci := 7) (v := .int 4) (C := RX8) (T := TX8) (N := 14) hx hb hts i_X8 hown hK hP 0 rfl rfl 10 (by decide) k_0 (fun _ h9 => h9) f_xs_10 dX8_putBytes_32 ?_
  refine lv_iconst (v := 1) hx hb dX8_putBytes_35 (by decide) ?_
  refine lv_iadd hx hb dX8_putBytes_36 ?_
  refine lv_topi (fun v_8 ev_8 => ?_)
  obtain rfl : v_8 = 5 := ev_8.trans (by decide)
  refine va_put (D := (dC, dI)) (ci := 7) (v := .int 5) (ty := .int) (C := RX8) (T := TX8) (N := 14) hx hb hts i_X8 tyX8 tyX8_ok nmX8 hown hK hP hD hS 0 rfl rfl 10 (by decide) k_0 (fun _ h9 => h9) rfl (by decide +kernel) rfl rfl (by rw [l_xs]; decide) dX8_putBytes_37 (fun H locs hP hD hS => ?_)
  have hP : va_P (dC, dI) vwCl [(x, .inr (7, (xs.set 10 (.int 5)))), (tp, .inl (cT, 1600, .inl g_7))] H := hP
  have hD : va_D A [(x, .inr (7, (xs.set 10 (.int 5)))), (tp, .inl (cT, 1600, .inl g_7))] := hD
  generalize efs_9 : (xs.set 10 (.int 5)) = fs_9 at hP hD
  have lfs_9 : fs_9.length = 14 := by rw [← efs_9, List.length_set]; exact l_xs
  have ffs_9_0 : fs_9[0]? = some (.ref tp) := by rw [← efs_9]; exact p1_sn (by decide) f_xs_0
  have ffs_9_10 : fs_9[10]? = some (.int 5) := by rw [← efs_9]; exact p1_sa l_xs (by decide)
  refine lv_iinc (v := 16) (lv' := [(2, .int 16), (0, .ref x), (1, .int a1)]) hx hb dX8_putBytes_40 hl (k := 0) rfl (by decide) (by decide) rfl (fun ls hl => ?_)
  refine lv_goto (tgt := 3) hx hb dX8_putBytes_43 (by decide) ?_
  refine lv_iload_n hx hb dX8_putBytes_3 rfl (lv_at hl 0 rfl) ?_
  refine lv_if_lt (tgt := 46) hx hb dX8_putBytes_4 (by decide) (fun c9 => absurd c9 (by decide)) (fun _ => ?_)
  refine lv_aload_n hx hb dX8_putBytes_7 rfl (lv_at hl 1 rfl) ?_
  refine va_get (D := (dC, dI)) (ci := 7) (v := .int 5) (C := RX8) (T := TX8) (N := 14) hx hb hts i_X8 hown hK hP 0 rfl rfl 10 (by decide) k_0 (fun _ h9 => h9) ffs_9_10 dX8_putBytes_8 ?_
  refine lv_sipush (v := 1600) hx hb dX8_putBytes_11 (by decide) ?_
  refine lv_icmp_ge (tgt := 46) hx hb dX8_putBytes_14 (by decide) (fun c9 => absurd c9 (by decide)) (fun _ => ?_)
  refine lv_aload_n hx hb dX8_putBytes_17 rfl (lv_at hl 1 rfl) ?_
  refine va_get (D := (dC, dI)) (ci := 7) (v := .ref tp) (C := RX8) (T := TX8) (N := 14) hx hb hts i_X8 hown hK hP 0 rfl rfl 0 (by decide) k_1 (fun _ h9 => h9) ffs_9_0 dX8_putBytes_18 ?_
  refine lv_aload_n hx hb dX8_putBytes_21 rfl (lv_at hl 1 rfl) ?_
  refine va_get (D := (dC, dI)) (ci := 7) (v := .int 5) (C := RX8) (T := TX8) (N := 14) hx hb hts i_X8 hown hK hP 0 rfl rfl 10 (by decide) k_0 (fun _ h9 => h9) ffs_9_10 dX8_putBytes_22 ?_
  refine lv_iload_n hx hb dX8_putBytes_25 rfl (lv_at hl 2 rfl) ?_
  refine lv_iload_n hx hb dX8_putBytes_26 rfl (lv_at hl 0 rfl) ?_
  refine lv_iushr hx hb dX8_putBytes_27 rfl ?_
  refine lv_topi (fun v_13 ev_13 => ?_)
  refine lv_i2b hx hb dX8_putBytes_28 rfl ?_
  refine lv_topi (fun v_15 ev_15 => ?_)
  refine va_bast hx hb hK hP hD hS 1 0 rfl rfl (p1_in (i := 5) (n := 1600) (by decide)) dX8_putBytes_29 (fun H locs hP hD hS => ?_)
  have hP : va_P (dC, dI) vwCl [(x, .inr (7, fs_9)), (tp, .inl (cT, 1600, .inl (upd g_7 (5 : Int32).toNatClampNeg (vp_nar .byte v_15))))] H := hP
  have hD : va_D A [(x, .inr (7, fs_9)), (tp, .inl (cT, 1600, .inl (upd g_7 (5 : Int32).toNatClampNeg (vp_nar .byte v_15))))] := hD
  generalize eg_16 : (upd g_7 (5 : Int32).toNatClampNeg (vp_nar .byte v_15)) = g_16 at hP hD
  refine lv_aload_n hx hb dX8_putBytes_30 rfl (lv_at hl 1 rfl) ?_
  refine lv_dup hx hb dX8_putBytes_31 rfl ?_
  refine va_get (D := (dC, dI)) (ci := 7) (v := .int 5) (C := RX8) (T := TX8) (N := 14) hx hb hts i_X8 hown hK hP 0 rfl rfl 10 (by decide) k_0 (fun _ h9 => h9) ffs_9_10 dX8_putBytes_32 ?_
  refine lv_iconst (v := 1) hx hb dX8_putBytes_35 (by decide) ?_
  refine lv_iadd hx hb dX8_putBytes_36 ?_
  refine lv_topi (fun v_17 ev_17 => ?_)
  obtain rfl : v_17 = 6 := ev_17.trans (by decide)
  refine va_put (D := (dC, dI)) (ci := 7) (v := .int 6) (ty := .int) (C := RX8) (T := TX8) (N := 14) hx hb hts i_X8 tyX8 tyX8_ok nmX8 hown hK hP hD hS 0 rfl rfl 10 (by decide) k_0 (fun _ h9 => h9) rfl (by decide +kernel) rfl rfl (by rw [lfs_9]; decide) dX8_putBytes_37 (fun H locs hP hD hS => ?_)
  have hP : va_P (dC, dI) vwCl [(x, .inr (7, (fs_9.set 10 (.int 6)))), (tp, .inl (cT, 1600, .inl g_16))] H := hP
  have hD : va_D A [(x, .inr (7, (fs_9.set 10 (.int 6)))), (tp, .inl (cT, 1600, .inl g_16))] := hD
  generalize efs_18 : (fs_9.set 10 (.int 6)) = fs_18 at hP hD
  have lfs_18 : fs_18.length = 14 := by rw [← efs_18, List.length_set]; exact lfs_9
  have ffs_18_0 : fs_18[0]? = some (.ref tp) := by rw [← efs_18]; exact p1_sn (by decide) ffs_9_0
  have ffs_18_10 : fs_18[10]? = some (.int 6) := by rw [← efs_18]; exact p1_sa lfs_9 (by decide)
  refine lv_iinc (v := 8) (lv' := [(2, .int 8), (0, .ref x), (1, .int a1)]) hx hb dX8_putBytes_40 hl (k := 0) rfl (by decide) (by decide) rfl (fun ls hl => ?_)
  refine lv_goto (tgt := 3) hx hb dX8_putBytes_43 (by decide) ?_
  refine lv_iload_n hx hb dX8_putBytes_3 rfl (lv_at hl 0 rfl) ?_
  refine lv_if_lt (tgt := 46) hx hb dX8_putBytes_4 (by decide) (fun c9 => absurd c9 (by decide)) (fun _ => ?_)
  refine lv_aload_n hx hb dX8_putBytes_7 rfl (lv_at hl 1 rfl) ?_
  refine va_get (D := (dC, dI)) (ci := 7) (v := .int 6) (C := RX8) (T := TX8) (N := 14) hx hb hts i_X8 hown hK hP 0 rfl rfl 10 (by decide) k_0 (fun _ h9 => h9) ffs_18_10 dX8_putBytes_8 ?_
  refine lv_sipush (v := 1600) hx hb dX8_putBytes_11 (by decide) ?_
  refine lv_icmp_ge (tgt := 46) hx hb dX8_putBytes_14 (by decide) (fun c9 => absurd c9 (by decide)) (fun _ => ?_)
  refine lv_aload_n hx hb dX8_putBytes_17 rfl (lv_at hl 1 rfl) ?_
  refine va_get (D := (dC, dI)) (ci := 7) (v := .ref tp) (C := RX8) (T := TX8) (N := 14) hx hb hts i_X8 hown hK hP 0 rfl rfl 0 (by decide) k_1 (fun _ h9 => h9) ffs_18_0 dX8_putBytes_18 ?_
  refine lv_aload_n hx hb dX8_putBytes_21 rfl (lv_at hl 1 rfl) ?_
  refine va_get (D := (dC, dI)) (ci := 7) (v := .int 6) (C := RX8) (T := TX8) (N := 14) hx hb hts i_X8 hown hK hP 0 rfl rfl 10 (by decide) k_0 (fun _ h9 => h9) ffs_18_10 dX8_putBytes_22 ?_
  refine lv_iload_n hx hb dX8_putBytes_25 rfl (lv_at hl 2 rfl) ?_
  refine lv_iload_n hx hb dX8_putBytes_26 rfl (lv_at hl 0 rfl) ?_
  refine lv_iushr hx hb dX8_putBytes_27 rfl ?_
  refine lv_topi (fun v_22 ev_22 => ?_)
  refine lv_i2b hx hb dX8_putBytes_28 rfl ?_
  refine lv_topi (fun v_24 ev_24 => ?_)
  refine va_bast hx hb hK hP hD hS 1 0 rfl rfl (p1_in (i := 6) (n := 1600) (by decide)) dX8_putBytes_29 (fun H locs hP hD hS => ?_)
  have hP : va_P (dC, dI) vwCl [(x, .inr (7, fs_18)), (tp, .inl (cT, 1600, .inl (upd g_16 (6 : Int32).toNatClampNeg (vp_nar .byte v_24))))] H := hP
  have hD : va_D A [(x, .inr (7, fs_18)), (tp, .inl (cT, 1600, .inl (upd g_16 (6 : Int32).toNatClampNeg (vp_nar .byte v_24))))] := hD
  generalize eg_25 : (upd g_16 (6 : Int32).toNatClampNeg (vp_nar .byte v_24)) = g_25 at hP hD
  refine lv_aload_n hx hb dX8_putBytes_30 rfl (lv_at hl 1 rfl) ?_
  refine lv_dup hx hb dX8_putBytes_31 rfl ?_
  refine va_get (D := (dC, dI)) (ci := 7) (v := .int 6) (C := RX8) (T := TX8) (N := 14) hx hb hts i_X8 hown hK hP 0 rfl rfl 10 (by decide) k_0 (fun _ h9 => h9) ffs_18_10 dX8_putBytes_32 ?_
  refine lv_iconst (v := 1) hx hb dX8_putBytes_35 (by decide) ?_
  refine lv_iadd hx hb dX8_putBytes_36 ?_
  refine lv_topi (fun v_26 ev_26 => ?_)
  obtain rfl : v_26 = 7 := ev_26.trans (by decide)
  refine va_put (D := (dC, dI)) (ci := 7) (v := .int 7) (ty := .int) (C := RX8) (T := TX8) (N := 14) hx hb hts i_X8 tyX8 tyX8_ok nmX8 hown hK hP hD hS 0 rfl rfl 10 (by decide) k_0 (fun _ h9 => h9) rfl (by decide +kernel) rfl rfl (by rw [lfs_18]; decide) dX8_putBytes_37 (fun H locs hP hD hS => ?_)
  have hP : va_P (dC, dI) vwCl [(x, .inr (7, (fs_18.set 10 (.int 7)))), (tp, .inl (cT, 1600, .inl g_25))] H := hP
  have hD : va_D A [(x, .inr (7, (fs_18.set 10 (.int 7)))), (tp, .inl (cT, 1600, .inl g_25))] := hD
  generalize efs_27 : (fs_18.set 10 (.int 7)) = fs_27 at hP hD
  have lfs_27 : fs_27.length = 14 := by rw [← efs_27, List.length_set]; exact lfs_18
  have ffs_27_0 : fs_27[0]? = some (.ref tp) := by rw [← efs_27]; exact p1_sn (by decide) ffs_18_0
  have ffs_27_10 : fs_27[10]? = some (.int 7) := by rw [← efs_27]; exact p1_sa lfs_18 (by decide)
  refine lv_iinc (v := 0) (lv' := [(2, .int 0), (0, .ref x), (1, .int a1)]) hx hb dX8_putBytes_40 hl (k := 0) rfl (by decide) (by decide) rfl (fun ls hl => ?_)
  refine lv_goto (tgt := 3) hx hb dX8_putBytes_43 (by decide) ?_
  refine lv_iload_n hx hb dX8_putBytes_3 rfl (lv_at hl 0 rfl) ?_
  refine lv_if_lt (tgt := 46) hx hb dX8_putBytes_4 (by decide) (fun c9 => absurd c9 (by decide)) (fun _ => ?_)
  refine lv_aload_n hx hb dX8_putBytes_7 rfl (lv_at hl 1 rfl) ?_
  refine va_get (D := (dC, dI)) (ci := 7) (v := .int 7) (C := RX8) (T := TX8) (N := 14) hx hb hts i_X8 hown hK hP 0 rfl rfl 10 (by decide) k_0 (fun _ h9 => h9) ffs_27_10 dX8_putBytes_8 ?_
  refine lv_sipush (v := 1600) hx hb dX8_putBytes_11 (by decide) ?_
  refine lv_icmp_ge (tgt := 46) hx hb dX8_putBytes_14 (by decide) (fun c9 => absurd c9 (by decide)) (fun _ => ?_)
  refine lv_aload_n hx hb dX8_putBytes_17 rfl (lv_at hl 1 rfl) ?_
  refine va_get (D := (dC, dI)) (ci := 7) (v := .ref tp) (C := RX8) (T := TX8) (N := 14) hx hb hts i_X8 hown hK hP 0 rfl rfl 0 (by decide) k_1 (fun _ h9 => h9) ffs_27_0 dX8_putBytes_18 ?_
  refine lv_aload_n hx hb dX8_putBytes_21 rfl (lv_at hl 1 rfl) ?_
  refine va_get (D := (dC, dI)) (ci := 7) (v := .int 7) (C := RX8) (T := TX8) (N := 14) hx hb hts i_X8 hown hK hP 0 rfl rfl 10 (by decide) k_0 (fun _ h9 => h9) ffs_27_10 dX8_putBytes_22 ?_
  refine lv_iload_n hx hb dX8_putBytes_25 rfl (lv_at hl 2 rfl) ?_
  refine lv_iload_n hx hb dX8_putBytes_26 rfl (lv_at hl 0 rfl) ?_
  refine lv_iushr hx hb dX8_putBytes_27 rfl ?_
  refine lv_topi (fun v_31 ev_31 => ?_)
  refine lv_i2b hx hb dX8_putBytes_28 rfl ?_
  refine lv_topi (fun v_33 ev_33 => ?_)
  refine va_bast hx hb hK hP hD hS 1 0 rfl rfl (p1_in (i := 7) (n := 1600) (by decide)) dX8_putBytes_29 (fun H locs hP hD hS => ?_)
  have hP : va_P (dC, dI) vwCl [(x, .inr (7, fs_27)), (tp, .inl (cT, 1600, .inl (upd g_25 (7 : Int32).toNatClampNeg (vp_nar .byte v_33))))] H := hP
  have hD : va_D A [(x, .inr (7, fs_27)), (tp, .inl (cT, 1600, .inl (upd g_25 (7 : Int32).toNatClampNeg (vp_nar .byte v_33))))] := hD
  generalize eg_34 : (upd g_25 (7 : Int32).toNatClampNeg (vp_nar .byte v_33)) = g_34 at hP hD
  refine lv_aload_n hx hb dX8_putBytes_30 rfl (lv_at hl 1 rfl) ?_
  refine lv_dup hx hb dX8_putBytes_31 rfl ?_
  refine va_get (D := (dC, dI)) (ci := 7) (v := .int 7) (C := RX8) (T := TX8) (N := 14) hx hb hts i_X8 hown hK hP 0 rfl rfl 10 (by decide) k_0 (fun _ h9 => h9) ffs_27_10 dX8_putBytes_32 ?_
  refine lv_iconst (v := 1) hx hb dX8_putBytes_35 (by decide) ?_
  refine lv_iadd hx hb dX8_putBytes_36 ?_
  refine lv_topi (fun v_35 ev_35 => ?_)
  obtain rfl : v_35 = 8 := ev_35.trans (by decide)
  refine va_put (D := (dC, dI)) (ci := 7) (v := .int 8) (ty := .int) (C := RX8) (T := TX8) (N := 14) hx hb hts i_X8 tyX8 tyX8_ok nmX8 hown hK hP hD hS 0 rfl rfl 10 (by decide) k_0 (fun _ h9 => h9) rfl (by decide +kernel) rfl rfl (by rw [lfs_27]; decide) dX8_putBytes_37 (fun H locs hP hD hS => ?_)
  have hP : va_P (dC, dI) vwCl [(x, .inr (7, (fs_27.set 10 (.int 8)))), (tp, .inl (cT, 1600, .inl g_34))] H := hP
  have hD : va_D A [(x, .inr (7, (fs_27.set 10 (.int 8)))), (tp, .inl (cT, 1600, .inl g_34))] := hD
  generalize efs_36 : (fs_27.set 10 (.int 8)) = fs_36 at hP hD
  have lfs_36 : fs_36.length = 14 := by rw [← efs_36, List.length_set]; exact lfs_27
  have ffs_36_0 : fs_36[0]? = some (.ref tp) := by rw [← efs_36]; exact p1_sn (by decide) ffs_27_0
  have ffs_36_10 : fs_36[10]? = some (.int 8) := by rw [← efs_36]; exact p1_sa lfs_27 (by decide)
  refine lv_iinc (v := (-8)) (lv' := [(2, .int (-8)), (0, .ref x), (1, .int a1)]) hx hb dX8_putBytes_40 hl (k := 0) rfl (by decide) (by decide) rfl (fun ls hl => ?_)
  refine lv_goto (tgt := 3) hx hb dX8_putBytes_43 (by decide) ?_
  refine lv_iload_n hx hb dX8_putBytes_3 rfl (lv_at hl 0 rfl) ?_
  refine lv_if_lt (tgt := 46) hx hb dX8_putBytes_4 (by decide) (fun _ => ?_) (fun c9 => absurd c9 (by decide))
  have hP9 := hP.sub (ws' := [(x, .inr (7, fs_36)), (tp, .inl (cT, 1600, .inl g_34))]) [0, 1] rfl
  have hD9 := hD.sub (ws' := [(x, .inr (7, fs_36)), (tp, .inl (cT, 1600, .inl g_34))]) [0, 1] (by decide) rfl
  have hK9 := hK.sub (tys' := []) [] rfl
  exact W.vret hx hb hr (fun t ht hW => ⟨⟨(), rfl, trivial, fs_36, g_34, lfs_36, ffs_36_0, ffs_36_10, by rw [ht]; exact hP9, va_K.moved hW.alike hK9, hD9⟩, hS.F ht⟩) hS.2.2 dX8_putBytes_46
def zo_c_putBytes8 : List Cond := [.code yX8_putBytes cX8_putBytes 3 none, .fieldLink RX8 64 "BowWalk" "tapeLength" "I", .fieldLink RX8 9 "BowWalk" "tape" "[B"]
def zw_c_putBytes8 : List Cond := zo_c_putBytes8 ++ (wsX80 ++ [])
theorem gz_c_putBytes8 : zw_c_putBytes8.all goodWord = true := p1_ga (by decide +kernel) (p1_ga gk_X8 p1_g0)
theorem iz_c_putBytes8 : ∀ w ∈ zw_c_putBytes8, w ∈ lw_tbl := p1_ia (p1_all [549, 509, 499] (by decide +kernel)) (p1_ia ik_X8 p1_i0)
set_option maxHeartbeats 4000000 in
set_option maxRecDepth 100000 in
theorem c_putBytes8 (l : Launch) (dC : Nat → ClassId) (dI : Nat → Nat → Nat) (sz : Nat) (x : Nat) (xs : List Value) (tp : Nat) (cT : ClassId) (tf : Nat → Int32) (a1 : Int32) (f_xs_0 : xs[0]? = some (.ref tp)) (f_xs_10 : xs[10]? = some (.int 8)) (l_xs : xs.length = 14) : Met l yX8_putBytes zw_c_putBytes8 ({ frames := 0, cells := 0, slots := 0, locals := 0 }) (va_Pc [.ref x, .int a1] (fun U => U.heap.size = sz ∧ va_P (dC, dI) vwCl [(x, .inr (7, xs)), (tp, .inl (cT, 1600, .inl tf))] U.heap ∧ va_K (dC, dI) vwCl [(cT, .byte)] U ∧ va_D (fun _ => True) [(x, .inr (7, xs)), (tp, .inl (cT, 1600, .inl tf))])) (va_Qv (fun (_ : Unit) => True) (fun _ t => ∃ (xo : List Value) (to : Nat → Int32), xo.length = 14 ∧ xo[0]? = some (.ref tp) ∧ xo[10]? = some (.int 12) ∧ va_P (dC, dI) vwCl [(x, .inr (7, xo)), (tp, .inl (cT, 1600, .inl to))] t.heap ∧ va_K (dC, dI) vwCl [] t ∧ va_D (va_A [(x, .inr (7, xs)), (tp, .inl (cT, 1600, .inl tf))] sz) [(x, .inr (7, xo)), (tp, .inl (cT, 1600, .inl to))]) (va_A [(x, .inr (7, xs)), (tp, .inl (cT, 1600, .inl tf))] sz)) 0 0 (va_A [(x, .inr (7, xs)), (tp, .inl (cT, 1600, .inl tf))] sz) := by
  refine Met.ofW (cc := cX8_putBytes) (maxL := 3) (ret := none) (by decide) rfl ?_
  intro p e s m args below meth c s₁ B hml hv
  obtain ⟨rfl, hsz, hP, hK, hD0⟩ := hv
  have hx := B.exec
  have hb := B.bytes
  have hr := B.returns
  have hts := atoms_spec (ws := zw_c_putBytes8) B.pre
  have hown : s.vm.findClass RX8 = some m.cls := findClass_of_methodNamed B.named
  have hlocks := B.notSynchronized
  subst hsz
  have hD := hD0.self (sz := s.heap.size)
  generalize hAe : va_A [(x, .inr (7, xs)), (tp, .inl (cT, 1600, .inl tf))] s.heap.size = A at hD ⊢
  have hA : ∀ q : Nat, s.heap.size ≤ q → A q := fun q h => by rw [← hAe]; exact Or.inr h
  have hS : va_S A s.heap s.heap [] := va_S.rf
  have hP : va_P (dC, dI) vwCl [(x, .inr (7, xs)), (tp, .inl (cT, 1600, .inl tf))] s.heap := hP
  have m_0 : (.fieldLink RX8 64 "BowWalk" "tapeLength" "I" : Cond) ∈ zw_c_putBytes8 := List.mem_append_left _ (List.mem_of_getElem? (i := 1) rfl)
  have k_0 := hts _ m_0
  have m_1 : (.fieldLink RX8 9 "BowWalk" "tape" "[B" : Cond) ∈ zw_c_putBytes8 := List.mem_append_left _ (List.mem_of_getElem? (i := 2) rfl)
  have k_1 := hts _ m_1
  have i_X8 : ∀ w ∈ u_ws RX8 TX8 14, w ∈ zw_c_putBytes8 := fun w h => List.mem_append_right _ (List.mem_append_left _ h)
  have hl := lv_entry ([.ref x, .int a1]) (n := 3) (Nat.le_of_ble_eq_true rfl)
  rw [lg_entry_eq]
  generalize (lg_sl ([.ref x, .int a1]) ++ List.replicate (3 - (lg_sl ([.ref x, .int a1])).length) Slot.unset).toArray = ls at hl ⊢
  have hl : lv_has ls 3 [(0, .ref x), (1, .int a1)] := hl
  refine lv_bipush (v := 24) hx hb dX8_putBytes_0 (by decide) ?_
  refine lv_istore_n (lv' := [(2, .int 24), (0, .ref x), (1, .int a1)]) hx hb dX8_putBytes_2 rfl hl (by decide) rfl (fun ls hl => ?_)
  refine lv_iload_n hx hb dX8_putBytes_3 rfl (lv_at hl 0 rfl) ?_
  refine lv_if_lt (tgt := 46) hx hb dX8_putBytes_4 (by decide) (fun c9 => absurd c9 (by decide)) (fun _ => ?_)
  refine lv_aload_n hx hb dX8_putBytes_7 rfl (lv_at hl 1 rfl) ?_
  refine va_get (D := (dC, dI)) (ci := 7) (v := .int 8) (C := RX8) (T := TX8) (N := 14) hx hb hts i_X8 hown hK hP 0 rfl rfl 10 (by decide) k_0 (fun _ h9 => h9) f_xs_10 dX8_putBytes_8 ?_
  refine lv_sipush (v := 1600) hx hb dX8_putBytes_11 (by decide) ?_
  refine lv_icmp_ge (tgt := 46) hx hb dX8_putBytes_14 (by decide) (fun c9 => absurd c9 (by decide)) (fun _ => ?_)
  refine lv_aload_n hx hb dX8_putBytes_17 rfl (lv_at hl 1 rfl) ?_
  refine va_get (D := (dC, dI)) (ci := 7) (v := .ref tp) (C := RX8) (T := TX8) (N := 14) hx hb hts i_X8 hown hK hP 0 rfl rfl 0 (by decide) k_1 (fun _ h9 => h9) f_xs_0 dX8_putBytes_18 ?_
  refine lv_aload_n hx hb dX8_putBytes_21 rfl (lv_at hl 1 rfl) ?_
  refine va_get (D := (dC, dI)) (ci := 7) (v := .int 8) (C := RX8) (T := TX8) (N := 14) hx hb hts i_X8 hown hK hP 0 rfl rfl 10 (by decide) k_0 (fun _ h9 => h9) f_xs_10 dX8_putBytes_22 ?_
  refine lv_iload_n hx hb dX8_putBytes_25 rfl (lv_at hl 2 rfl) ?_
  refine lv_iload_n hx hb dX8_putBytes_26 rfl (lv_at hl 0 rfl) ?_
  refine lv_iushr hx hb dX8_putBytes_27 rfl ?_
  refine lv_topi (fun v_4 ev_4 => ?_)
  refine lv_i2b hx hb dX8_putBytes_28 rfl ?_
  refine lv_topi (fun v_6 ev_6 => ?_)
  refine va_bast hx hb hK hP hD hS 1 0 rfl rfl (p1_in (i := 8) (n := 1600) (by decide)) dX8_putBytes_29 (fun H locs hP hD hS => ?_)
  have hP : va_P (dC, dI) vwCl [(x, .inr (7, xs)), (tp, .inl (cT, 1600, .inl (upd tf (8 : Int32).toNatClampNeg (vp_nar .byte v_6))))] H := hP
  have hD : va_D A [(x, .inr (7, xs)), (tp, .inl (cT, 1600, .inl (upd tf (8 : Int32).toNatClampNeg (vp_nar .byte v_6))))] := hD
  generalize eg_7 : (upd tf (8 : Int32).toNatClampNeg (vp_nar .byte v_6)) = g_7 at hP hD
  refine lv_aload_n hx hb dX8_putBytes_30 rfl (lv_at hl 1 rfl) ?_
  refine lv_dup hx hb dX8_putBytes_31 rfl ?_
  refine va_get (D := (dC, dI)) (ci := 7) (v := .int 8) (C := RX8) (T := TX8) (N := 14) hx hb hts i_X8 hown hK hP 0 rfl rfl 10 (by decide) k_0 (fun _ h9 => h9) f_xs_10 dX8_putBytes_32 ?_
  refine lv_iconst (v := 1) hx hb dX8_putBytes_35 (by decide) ?_
  refine lv_iadd hx hb dX8_putBytes_36 ?_
  refine lv_topi (fun v_8 ev_8 => ?_)
  obtain rfl : v_8 = 9 := ev_8.trans (by decide)
  refine va_put (D := (dC, dI)) (ci := 7) (v := .int 9) (ty := .int) (C := RX8) (T := TX8) (N := 14) hx hb hts i_X8 tyX8 tyX8_ok nmX8 hown hK hP hD hS 0 rfl rfl 10 (by decide) k_0 (fun _ h9 => h9) rfl (by decide +kernel) rfl rfl (by rw [l_xs]; decide) dX8_putBytes_37 (fun H locs hP hD hS => ?_)
  have hP : va_P (dC, dI) vwCl [(x, .inr (7, (xs.set 10 (.int 9)))), (tp, .inl (cT, 1600, .inl g_7))] H := hP
  have hD : va_D A [(x, .inr (7, (xs.set 10 (.int 9)))), (tp, .inl (cT, 1600, .inl g_7))] := hD
  generalize efs_9 : (xs.set 10 (.int 9)) = fs_9 at hP hD
  have lfs_9 : fs_9.length = 14 := by rw [← efs_9, List.length_set]; exact l_xs
  have ffs_9_0 : fs_9[0]? = some (.ref tp) := by rw [← efs_9]; exact p1_sn (by decide) f_xs_0
  have ffs_9_10 : fs_9[10]? = some (.int 9) := by rw [← efs_9]; exact p1_sa l_xs (by decide)
  refine lv_iinc (v := 16) (lv' := [(2, .int 16), (0, .ref x), (1, .int a1)]) hx hb dX8_putBytes_40 hl (k := 0) rfl (by decide) (by decide) rfl (fun ls hl => ?_)
  refine lv_goto (tgt := 3) hx hb dX8_putBytes_43 (by decide) ?_
  refine lv_iload_n hx hb dX8_putBytes_3 rfl (lv_at hl 0 rfl) ?_
  refine lv_if_lt (tgt := 46) hx hb dX8_putBytes_4 (by decide) (fun c9 => absurd c9 (by decide)) (fun _ => ?_)
  refine lv_aload_n hx hb dX8_putBytes_7 rfl (lv_at hl 1 rfl) ?_
  refine va_get (D := (dC, dI)) (ci := 7) (v := .int 9) (C := RX8) (T := TX8) (N := 14) hx hb hts i_X8 hown hK hP 0 rfl rfl 10 (by decide) k_0 (fun _ h9 => h9) ffs_9_10 dX8_putBytes_8 ?_
  refine lv_sipush (v := 1600) hx hb dX8_putBytes_11 (by decide) ?_
  refine lv_icmp_ge (tgt := 46) hx hb dX8_putBytes_14 (by decide) (fun c9 => absurd c9 (by decide)) (fun _ => ?_)
  refine lv_aload_n hx hb dX8_putBytes_17 rfl (lv_at hl 1 rfl) ?_
  refine va_get (D := (dC, dI)) (ci := 7) (v := .ref tp) (C := RX8) (T := TX8) (N := 14) hx hb hts i_X8 hown hK hP 0 rfl rfl 0 (by decide) k_1 (fun _ h9 => h9) ffs_9_0 dX8_putBytes_18 ?_
  refine lv_aload_n hx hb dX8_putBytes_21 rfl (lv_at hl 1 rfl) ?_
  refine va_get (D := (dC, dI)) (ci := 7) (v := .int 9) (C := RX8) (T := TX8) (N := 14) hx hb hts i_X8 hown hK hP 0 rfl rfl 10 (by decide) k_0 (fun _ h9 => h9) ffs_9_10 dX8_putBytes_22 ?_
  refine lv_iload_n hx hb dX8_putBytes_25 rfl (lv_at hl 2 rfl) ?_
  refine lv_iload_n hx hb dX8_putBytes_26 rfl (lv_at hl 0 rfl) ?_
  refine lv_iushr hx hb dX8_putBytes_27 rfl ?_
  refine lv_topi (fun v_13 ev_13 => ?_)
  refine lv_i2b hx hb dX8_putBytes_28 rfl ?_
  refine lv_topi (fun v_15 ev_15 => ?_)
  refine va_bast hx hb hK hP hD hS 1 0 rfl rfl (p1_in (i := 9) (n := 1600) (by decide)) dX8_putBytes_29 (fun H locs hP hD hS => ?_)
  have hP : va_P (dC, dI) vwCl [(x, .inr (7, fs_9)), (tp, .inl (cT, 1600, .inl (upd g_7 (9 : Int32).toNatClampNeg (vp_nar .byte v_15))))] H := hP
  have hD : va_D A [(x, .inr (7, fs_9)), (tp, .inl (cT, 1600, .inl (upd g_7 (9 : Int32).toNatClampNeg (vp_nar .byte v_15))))] := hD
  generalize eg_16 : (upd g_7 (9 : Int32).toNatClampNeg (vp_nar .byte v_15)) = g_16 at hP hD
  refine lv_aload_n hx hb dX8_putBytes_30 rfl (lv_at hl 1 rfl) ?_
  refine lv_dup hx hb dX8_putBytes_31 rfl ?_
  refine va_get (D := (dC, dI)) (ci := 7) (v := .int 9) (C := RX8) (T := TX8) (N := 14) hx hb hts i_X8 hown hK hP 0 rfl rfl 10 (by decide) k_0 (fun _ h9 => h9) ffs_9_10 dX8_putBytes_32 ?_
  refine lv_iconst (v := 1) hx hb dX8_putBytes_35 (by decide) ?_
  refine lv_iadd hx hb dX8_putBytes_36 ?_
  refine lv_topi (fun v_17 ev_17 => ?_)
  obtain rfl : v_17 = 10 := ev_17.trans (by decide)
  refine va_put (D := (dC, dI)) (ci := 7) (v := .int 10) (ty := .int) (C := RX8) (T := TX8) (N := 14) hx hb hts i_X8 tyX8 tyX8_ok nmX8 hown hK hP hD hS 0 rfl rfl 10 (by decide) k_0 (fun _ h9 => h9) rfl (by decide +kernel) rfl rfl (by rw [lfs_9]; decide) dX8_putBytes_37 (fun H locs hP hD hS => ?_)
  have hP : va_P (dC, dI) vwCl [(x, .inr (7, (fs_9.set 10 (.int 10)))), (tp, .inl (cT, 1600, .inl g_16))] H := hP
  have hD : va_D A [(x, .inr (7, (fs_9.set 10 (.int 10)))), (tp, .inl (cT, 1600, .inl g_16))] := hD
  generalize efs_18 : (fs_9.set 10 (.int 10)) = fs_18 at hP hD
  have lfs_18 : fs_18.length = 14 := by rw [← efs_18, List.length_set]; exact lfs_9
  have ffs_18_0 : fs_18[0]? = some (.ref tp) := by rw [← efs_18]; exact p1_sn (by decide) ffs_9_0
  have ffs_18_10 : fs_18[10]? = some (.int 10) := by rw [← efs_18]; exact p1_sa lfs_9 (by decide)
  refine lv_iinc (v := 8) (lv' := [(2, .int 8), (0, .ref x), (1, .int a1)]) hx hb dX8_putBytes_40 hl (k := 0) rfl (by decide) (by decide) rfl (fun ls hl => ?_)
  refine lv_goto (tgt := 3) hx hb dX8_putBytes_43 (by decide) ?_
  refine lv_iload_n hx hb dX8_putBytes_3 rfl (lv_at hl 0 rfl) ?_
  refine lv_if_lt (tgt := 46) hx hb dX8_putBytes_4 (by decide) (fun c9 => absurd c9 (by decide)) (fun _ => ?_)
  refine lv_aload_n hx hb dX8_putBytes_7 rfl (lv_at hl 1 rfl) ?_
  refine va_get (D := (dC, dI)) (ci := 7) (v := .int 10) (C := RX8) (T := TX8) (N := 14) hx hb hts i_X8 hown hK hP 0 rfl rfl 10 (by decide) k_0 (fun _ h9 => h9) ffs_18_10 dX8_putBytes_8 ?_
  refine lv_sipush (v := 1600) hx hb dX8_putBytes_11 (by decide) ?_
  refine lv_icmp_ge (tgt := 46) hx hb dX8_putBytes_14 (by decide) (fun c9 => absurd c9 (by decide)) (fun _ => ?_)
  refine lv_aload_n hx hb dX8_putBytes_17 rfl (lv_at hl 1 rfl) ?_
  refine va_get (D := (dC, dI)) (ci := 7) (v := .ref tp) (C := RX8) (T := TX8) (N := 14) hx hb hts i_X8 hown hK hP 0 rfl rfl 0 (by decide) k_1 (fun _ h9 => h9) ffs_18_0 dX8_putBytes_18 ?_
  refine lv_aload_n hx hb dX8_putBytes_21 rfl (lv_at hl 1 rfl) ?_
  refine va_get (D := (dC, dI)) (ci := 7) (v := .int 10) (C := RX8) (T := TX8) (N := 14) hx hb hts i_X8 hown hK hP 0 rfl rfl 10 (by decide) k_0 (fun _ h9 => h9) ffs_18_10 dX8_putBytes_22 ?_
  refine lv_iload_n hx hb dX8_putBytes_25 rfl (lv_at hl 2 rfl) ?_
  refine lv_iload_n hx hb dX8_putBytes_26 rfl (lv_at hl 0 rfl) ?_
  refine lv_iushr hx hb dX8_putBytes_27 rfl ?_
  refine lv_topi (fun v_22 ev_22 => ?_)
  refine lv_i2b hx hb dX8_putBytes_28 rfl ?_
  refine lv_topi (fun v_24 ev_24 => ?_)
  refine va_bast hx hb hK hP hD hS 1 0 rfl rfl (p1_in (i := 10) (n := 1600) (by decide)) dX8_putBytes_29 (fun H locs hP hD hS => ?_)
  have hP : va_P (dC, dI) vwCl [(x, .inr (7, fs_18)), (tp, .inl (cT, 1600, .inl (upd g_16 (10 : Int32).toNatClampNeg (vp_nar .byte v_24))))] H := hP
  have hD : va_D A [(x, .inr (7, fs_18)), (tp, .inl (cT, 1600, .inl (upd g_16 (10 : Int32).toNatClampNeg (vp_nar .byte v_24))))] := hD
  generalize eg_25 : (upd g_16 (10 : Int32).toNatClampNeg (vp_nar .byte v_24)) = g_25 at hP hD
  refine lv_aload_n hx hb dX8_putBytes_30 rfl (lv_at hl 1 rfl) ?_
  refine lv_dup hx hb dX8_putBytes_31 rfl ?_
  refine va_get (D := (dC, dI)) (ci := 7) (v := .int 10) (C := RX8) (T := TX8) (N := 14) hx hb hts i_X8 hown hK hP 0 rfl rfl 10 (by decide) k_0 (fun _ h9 => h9) ffs_18_10 dX8_putBytes_32 ?_
  refine lv_iconst (v := 1) hx hb dX8_putBytes_35 (by decide) ?_
  refine lv_iadd hx hb dX8_putBytes_36 ?_
  refine lv_topi (fun v_26 ev_26 => ?_)
  obtain rfl : v_26 = 11 := ev_26.trans (by decide)
  refine va_put (D := (dC, dI)) (ci := 7) (v := .int 11) (ty := .int) (C := RX8) (T := TX8) (N := 14) hx hb hts i_X8 tyX8 tyX8_ok nmX8 hown hK hP hD hS 0 rfl rfl 10 (by decide) k_0 (fun _ h9 => h9) rfl (by decide +kernel) rfl rfl (by rw [lfs_18]; decide) dX8_putBytes_37 (fun H locs hP hD hS => ?_)
  have hP : va_P (dC, dI) vwCl [(x, .inr (7, (fs_18.set 10 (.int 11)))), (tp, .inl (cT, 1600, .inl g_25))] H := hP
  have hD : va_D A [(x, .inr (7, (fs_18.set 10 (.int 11)))), (tp, .inl (cT, 1600, .inl g_25))] := hD
  generalize efs_27 : (fs_18.set 10 (.int 11)) = fs_27 at hP hD
  have lfs_27 : fs_27.length = 14 := by rw [← efs_27, List.length_set]; exact lfs_18
  have ffs_27_0 : fs_27[0]? = some (.ref tp) := by rw [← efs_27]; exact p1_sn (by decide) ffs_18_0
  have ffs_27_10 : fs_27[10]? = some (.int 11) := by rw [← efs_27]; exact p1_sa lfs_18 (by decide)
  refine lv_iinc (v := 0) (lv' := [(2, .int 0), (0, .ref x), (1, .int a1)]) hx hb dX8_putBytes_40 hl (k := 0) rfl (by decide) (by decide) rfl (fun ls hl => ?_)
  refine lv_goto (tgt := 3) hx hb dX8_putBytes_43 (by decide) ?_
  refine lv_iload_n hx hb dX8_putBytes_3 rfl (lv_at hl 0 rfl) ?_
  refine lv_if_lt (tgt := 46) hx hb dX8_putBytes_4 (by decide) (fun c9 => absurd c9 (by decide)) (fun _ => ?_)
  refine lv_aload_n hx hb dX8_putBytes_7 rfl (lv_at hl 1 rfl) ?_
  refine va_get (D := (dC, dI)) (ci := 7) (v := .int 11) (C := RX8) (T := TX8) (N := 14) hx hb hts i_X8 hown hK hP 0 rfl rfl 10 (by decide) k_0 (fun _ h9 => h9) ffs_27_10 dX8_putBytes_8 ?_
  refine lv_sipush (v := 1600) hx hb dX8_putBytes_11 (by decide) ?_
  refine lv_icmp_ge (tgt := 46) hx hb dX8_putBytes_14 (by decide) (fun c9 => absurd c9 (by decide)) (fun _ => ?_)
  refine lv_aload_n hx hb dX8_putBytes_17 rfl (lv_at hl 1 rfl) ?_
  refine va_get (D := (dC, dI)) (ci := 7) (v := .ref tp) (C := RX8) (T := TX8) (N := 14) hx hb hts i_X8 hown hK hP 0 rfl rfl 0 (by decide) k_1 (fun _ h9 => h9) ffs_27_0 dX8_putBytes_18 ?_
  refine lv_aload_n hx hb dX8_putBytes_21 rfl (lv_at hl 1 rfl) ?_
  refine va_get (D := (dC, dI)) (ci := 7) (v := .int 11) (C := RX8) (T := TX8) (N := 14) hx hb hts i_X8 hown hK hP 0 rfl rfl 10 (by decide) k_0 (fun _ h9 => h9) ffs_27_10 dX8_putBytes_22 ?_
  refine lv_iload_n hx hb dX8_putBytes_25 rfl (lv_at hl 2 rfl) ?_
  refine lv_iload_n hx hb dX8_putBytes_26 rfl (lv_at hl 0 rfl) ?_
  refine lv_iushr hx hb dX8_putBytes_27 rfl ?_
  refine lv_topi (fun v_31 ev_31 => ?_)
  refine lv_i2b hx hb dX8_putBytes_28 rfl ?_
  refine lv_topi (fun v_33 ev_33 => ?_)
  refine va_bast hx hb hK hP hD hS 1 0 rfl rfl (p1_in (i := 11) (n := 1600) (by decide)) dX8_putBytes_29 (fun H locs hP hD hS => ?_)
  have hP : va_P (dC, dI) vwCl [(x, .inr (7, fs_27)), (tp, .inl (cT, 1600, .inl (upd g_25 (11 : Int32).toNatClampNeg (vp_nar .byte v_33))))] H := hP
  have hD : va_D A [(x, .inr (7, fs_27)), (tp, .inl (cT, 1600, .inl (upd g_25 (11 : Int32).toNatClampNeg (vp_nar .byte v_33))))] := hD
  generalize eg_34 : (upd g_25 (11 : Int32).toNatClampNeg (vp_nar .byte v_33)) = g_34 at hP hD
  refine lv_aload_n hx hb dX8_putBytes_30 rfl (lv_at hl 1 rfl) ?_
  refine lv_dup hx hb dX8_putBytes_31 rfl ?_
  refine va_get (D := (dC, dI)) (ci := 7) (v := .int 11) (C := RX8) (T := TX8) (N := 14) hx hb hts i_X8 hown hK hP 0 rfl rfl 10 (by decide) k_0 (fun _ h9 => h9) ffs_27_10 dX8_putBytes_32 ?_
  refine lv_iconst (v := 1) hx hb dX8_putBytes_35 (by decide) ?_
  refine lv_iadd hx hb dX8_putBytes_36 ?_
  refine lv_topi (fun v_35 ev_35 => ?_)
  obtain rfl : v_35 = 12 := ev_35.trans (by decide)
  refine va_put (D := (dC, dI)) (ci := 7) (v := .int 12) (ty := .int) (C := RX8) (T := TX8) (N := 14) hx hb hts i_X8 tyX8 tyX8_ok nmX8 hown hK hP hD hS 0 rfl rfl 10 (by decide) k_0 (fun _ h9 => h9) rfl (by decide +kernel) rfl rfl (by rw [lfs_27]; decide) dX8_putBytes_37 (fun H locs hP hD hS => ?_)
  have hP : va_P (dC, dI) vwCl [(x, .inr (7, (fs_27.set 10 (.int 12)))), (tp, .inl (cT, 1600, .inl g_34))] H := hP
  have hD : va_D A [(x, .inr (7, (fs_27.set 10 (.int 12)))), (tp, .inl (cT, 1600, .inl g_34))] := hD
  generalize efs_36 : (fs_27.set 10 (.int 12)) = fs_36 at hP hD
  have lfs_36 : fs_36.length = 14 := by rw [← efs_36, List.length_set]; exact lfs_27
  have ffs_36_0 : fs_36[0]? = some (.ref tp) := by rw [← efs_36]; exact p1_sn (by decide) ffs_27_0
  have ffs_36_10 : fs_36[10]? = some (.int 12) := by rw [← efs_36]; exact p1_sa lfs_27 (by decide)
  refine lv_iinc (v := (-8)) (lv' := [(2, .int (-8)), (0, .ref x), (1, .int a1)]) hx hb dX8_putBytes_40 hl (k := 0) rfl (by decide) (by decide) rfl (fun ls hl => ?_)
  refine lv_goto (tgt := 3) hx hb dX8_putBytes_43 (by decide) ?_
  refine lv_iload_n hx hb dX8_putBytes_3 rfl (lv_at hl 0 rfl) ?_
  refine lv_if_lt (tgt := 46) hx hb dX8_putBytes_4 (by decide) (fun _ => ?_) (fun c9 => absurd c9 (by decide))
  have hP9 := hP.sub (ws' := [(x, .inr (7, fs_36)), (tp, .inl (cT, 1600, .inl g_34))]) [0, 1] rfl
  have hD9 := hD.sub (ws' := [(x, .inr (7, fs_36)), (tp, .inl (cT, 1600, .inl g_34))]) [0, 1] (by decide) rfl
  have hK9 := hK.sub (tys' := []) [] rfl
  exact W.vret hx hb hr (fun t ht hW => ⟨⟨(), rfl, trivial, fs_36, g_34, lfs_36, ffs_36_0, ffs_36_10, by rw [ht]; exact hP9, va_K.moved hW.alike hK9, hD9⟩, hS.F ht⟩) hS.2.2 dX8_putBytes_46
def zo_c_putBytes12 : List Cond := [.code yX8_putBytes cX8_putBytes 3 none, .fieldLink RX8 64 "BowWalk" "tapeLength" "I", .fieldLink RX8 9 "BowWalk" "tape" "[B"]
def zw_c_putBytes12 : List Cond := zo_c_putBytes12 ++ (wsX80 ++ [])
theorem gz_c_putBytes12 : zw_c_putBytes12.all goodWord = true := p1_ga (by decide +kernel) (p1_ga gk_X8 p1_g0)
theorem iz_c_putBytes12 : ∀ w ∈ zw_c_putBytes12, w ∈ lw_tbl := p1_ia (p1_all [549, 509, 499] (by decide +kernel)) (p1_ia ik_X8 p1_i0)
set_option maxHeartbeats 4000000 in
set_option maxRecDepth 100000 in
theorem c_putBytes12 (l : Launch) (dC : Nat → ClassId) (dI : Nat → Nat → Nat) (sz : Nat) (x : Nat) (xs : List Value) (tp : Nat) (cT : ClassId) (tf : Nat → Int32) (a1 : Int32) (f_xs_0 : xs[0]? = some (.ref tp)) (f_xs_10 : xs[10]? = some (.int 12)) (l_xs : xs.length = 14) : Met l yX8_putBytes zw_c_putBytes12 ({ frames := 0, cells := 0, slots := 0, locals := 0 }) (va_Pc [.ref x, .int a1] (fun U => U.heap.size = sz ∧ va_P (dC, dI) vwCl [(x, .inr (7, xs)), (tp, .inl (cT, 1600, .inl tf))] U.heap ∧ va_K (dC, dI) vwCl [(cT, .byte)] U ∧ va_D (fun _ => True) [(x, .inr (7, xs)), (tp, .inl (cT, 1600, .inl tf))])) (va_Qv (fun (_ : Unit) => True) (fun _ t => ∃ (xo : List Value) (to : Nat → Int32), xo.length = 14 ∧ xo[0]? = some (.ref tp) ∧ xo[10]? = some (.int 16) ∧ va_P (dC, dI) vwCl [(x, .inr (7, xo)), (tp, .inl (cT, 1600, .inl to))] t.heap ∧ va_K (dC, dI) vwCl [] t ∧ va_D (va_A [(x, .inr (7, xs)), (tp, .inl (cT, 1600, .inl tf))] sz) [(x, .inr (7, xo)), (tp, .inl (cT, 1600, .inl to))]) (va_A [(x, .inr (7, xs)), (tp, .inl (cT, 1600, .inl tf))] sz)) 0 0 (va_A [(x, .inr (7, xs)), (tp, .inl (cT, 1600, .inl tf))] sz) := by
  refine Met.ofW (cc := cX8_putBytes) (maxL := 3) (ret := none) (by decide) rfl ?_
  intro p e s m args below meth c s₁ B hml hv
  obtain ⟨rfl, hsz, hP, hK, hD0⟩ := hv
  have hx := B.exec
  have hb := B.bytes
  have hr := B.returns
  have hts := atoms_spec (ws := zw_c_putBytes12) B.pre
  have hown : s.vm.findClass RX8 = some m.cls := findClass_of_methodNamed B.named
  have hlocks := B.notSynchronized
  subst hsz
  have hD := hD0.self (sz := s.heap.size)
  generalize hAe : va_A [(x, .inr (7, xs)), (tp, .inl (cT, 1600, .inl tf))] s.heap.size = A at hD ⊢
  have hA : ∀ q : Nat, s.heap.size ≤ q → A q := fun q h => by rw [← hAe]; exact Or.inr h
  have hS : va_S A s.heap s.heap [] := va_S.rf
  have hP : va_P (dC, dI) vwCl [(x, .inr (7, xs)), (tp, .inl (cT, 1600, .inl tf))] s.heap := hP
  have m_0 : (.fieldLink RX8 64 "BowWalk" "tapeLength" "I" : Cond) ∈ zw_c_putBytes12 := List.mem_append_left _ (List.mem_of_getElem? (i := 1) rfl)
  have k_0 := hts _ m_0
  have m_1 : (.fieldLink RX8 9 "BowWalk" "tape" "[B" : Cond) ∈ zw_c_putBytes12 := List.mem_append_left _ (List.mem_of_getElem? (i := 2) rfl)
  have k_1 := hts _ m_1
  have i_X8 : ∀ w ∈ u_ws RX8 TX8 14, w ∈ zw_c_putBytes12 := fun w h => List.mem_append_right _ (List.mem_append_left _ h)
  have hl := lv_entry ([.ref x, .int a1]) (n := 3) (Nat.le_of_ble_eq_true rfl)
  rw [lg_entry_eq]
  generalize (lg_sl ([.ref x, .int a1]) ++ List.replicate (3 - (lg_sl ([.ref x, .int a1])).length) Slot.unset).toArray = ls at hl ⊢
  have hl : lv_has ls 3 [(0, .ref x), (1, .int a1)] := hl
  refine lv_bipush (v := 24) hx hb dX8_putBytes_0 (by decide) ?_
  refine lv_istore_n (lv' := [(2, .int 24), (0, .ref x), (1, .int a1)]) hx hb dX8_putBytes_2 rfl hl (by decide) rfl (fun ls hl => ?_)
  refine lv_iload_n hx hb dX8_putBytes_3 rfl (lv_at hl 0 rfl) ?_
  refine lv_if_lt (tgt := 46) hx hb dX8_putBytes_4 (by decide) (fun c9 => absurd c9 (by decide)) (fun _ => ?_)
  refine lv_aload_n hx hb dX8_putBytes_7 rfl (lv_at hl 1 rfl) ?_
  refine va_get (D := (dC, dI)) (ci := 7) (v := .int 12) (C := RX8) (T := TX8) (N := 14) hx hb hts i_X8 hown hK hP 0 rfl rfl 10 (by decide) k_0 (fun _ h9 => h9) f_xs_10 dX8_putBytes_8 ?_
  refine lv_sipush (v := 1600) hx hb dX8_putBytes_11 (by decide) ?_
  refine lv_icmp_ge (tgt := 46) hx hb dX8_putBytes_14 (by decide) (fun c9 => absurd c9 (by decide)) (fun _ => ?_)
  refine lv_aload_n hx hb dX8_putBytes_17 rfl (lv_at hl 1 rfl) ?_
  refine va_get (D := (dC, dI)) (ci := 7) (v := .ref tp) (C := RX8) (T := TX8) (N := 14) hx hb hts i_X8 hown hK hP 0 rfl rfl 0 (by decide) k_1 (fun _ h9 => h9) f_xs_0 dX8_putBytes_18 ?_
  refine lv_aload_n hx hb dX8_putBytes_21 rfl (lv_at hl 1 rfl) ?_
  refine va_get (D := (dC, dI)) (ci := 7) (v := .int 12) (C := RX8) (T := TX8) (N := 14) hx hb hts i_X8 hown hK hP 0 rfl rfl 10 (by decide) k_0 (fun _ h9 => h9) f_xs_10 dX8_putBytes_22 ?_
  refine lv_iload_n hx hb dX8_putBytes_25 rfl (lv_at hl 2 rfl) ?_
  refine lv_iload_n hx hb dX8_putBytes_26 rfl (lv_at hl 0 rfl) ?_
  refine lv_iushr hx hb dX8_putBytes_27 rfl ?_
  refine lv_topi (fun v_4 ev_4 => ?_)
  refine lv_i2b hx hb dX8_putBytes_28 rfl ?_
  refine lv_topi (fun v_6 ev_6 => ?_)
  refine va_bast hx hb hK hP hD hS 1 0 rfl rfl (p1_in (i := 12) (n := 1600) (by decide)) dX8_putBytes_29 (fun H locs hP hD hS => ?_)
  have hP : va_P (dC, dI) vwCl [(x, .inr (7, xs)), (tp, .inl (cT, 1600, .inl (upd tf (12 : Int32).toNatClampNeg (vp_nar .byte v_6))))] H := hP
  have hD : va_D A [(x, .inr (7, xs)), (tp, .inl (cT, 1600, .inl (upd tf (12 : Int32).toNatClampNeg (vp_nar .byte v_6))))] := hD
  generalize eg_7 : (upd tf (12 : Int32).toNatClampNeg (vp_nar .byte v_6)) = g_7 at hP hD
  refine lv_aload_n hx hb dX8_putBytes_30 rfl (lv_at hl 1 rfl) ?_
  refine lv_dup hx hb dX8_putBytes_31 rfl ?_
  refine va_get (D := (dC, dI)) (ci := 7) (v := .int 12) (C := RX8) (T := TX8) (N := 14) hx hb hts i_X8 hown hK hP 0 rfl rfl 10 (by decide) k_0 (fun _ h9 => h9) f_xs_10 dX8_putBytes_32 ?_
  refine lv_iconst (v := 1) hx hb dX8_putBytes_35 (by decide) ?_
  refine lv_iadd hx hb dX8_putBytes_36 ?_
  refine lv_topi (fun v_8 ev_8 => ?_)
  obtain rfl : v_8 = 13 := ev_8.trans (by decide)
  refine va_put (D := (dC, dI)) (ci := 7) (v := .int 13) (ty := .int) (C := RX8) (T := TX8) (N := 14) hx hb hts i_X8 tyX8 tyX8_ok nmX8 hown hK hP hD hS 0 rfl rfl 10 (by decide) k_0 (fun _ h9 => h9) rfl (by decide +kernel) rfl rfl (by rw [l_xs]; decide) dX8_putBytes_37 (fun H locs hP hD hS => ?_)
  have hP : va_P (dC, dI) vwCl [(x, .inr (7, (xs.set 10 (.int 13)))), (tp, .inl (cT, 1600, .inl g_7))] H := hP
  have hD : va_D A [(x, .inr (7, (xs.set 10 (.int 13)))), (tp, .inl (cT, 1600, .inl g_7))] := hD
  generalize efs_9 : (xs.set 10 (.int 13)) = fs_9 at hP hD
  have lfs_9 : fs_9.length = 14 := by rw [← efs_9, List.length_set]; exact l_xs
  have ffs_9_0 : fs_9[0]? = some (.ref tp) := by rw [← efs_9]; exact p1_sn (by decide) f_xs_0
  have ffs_9_10 : fs_9[10]? = some (.int 13) := by rw [← efs_9]; exact p1_sa l_xs (by decide)
  refine lv_iinc (v := 16) (lv' := [(2, .int 16), (0, .ref x), (1, .int a1)]) hx hb dX8_putBytes_40 hl (k := 0) rfl (by decide) (by decide) rfl (fun ls hl => ?_)
  refine lv_goto (tgt := 3) hx hb dX8_putBytes_43 (by decide) ?_
  refine lv_iload_n hx hb dX8_putBytes_3 rfl (lv_at hl 0 rfl) ?_
  refine lv_if_lt (tgt := 46) hx hb dX8_putBytes_4 (by decide) (fun c9 => absurd c9 (by decide)) (fun _ => ?_)
  refine lv_aload_n hx hb dX8_putBytes_7 rfl (lv_at hl 1 rfl) ?_
  refine va_get (D := (dC, dI)) (ci := 7) (v := .int 13) (C := RX8) (T := TX8) (N := 14) hx hb hts i_X8 hown hK hP 0 rfl rfl 10 (by decide) k_0 (fun _ h9 => h9) ffs_9_10 dX8_putBytes_8 ?_
  refine lv_sipush (v := 1600) hx hb dX8_putBytes_11 (by decide) ?_
  refine lv_icmp_ge (tgt := 46) hx hb dX8_putBytes_14 (by decide) (fun c9 => absurd c9 (by decide)) (fun _ => ?_)
  refine lv_aload_n hx hb dX8_putBytes_17 rfl (lv_at hl 1 rfl) ?_
  refine va_get (D := (dC, dI)) (ci := 7) (v := .ref tp) (C := RX8) (T := TX8) (N := 14) hx hb hts i_X8 hown hK hP 0 rfl rfl 0 (by decide) k_1 (fun _ h9 => h9) ffs_9_0 dX8_putBytes_18 ?_
  refine lv_aload_n hx hb dX8_putBytes_21 rfl (lv_at hl 1 rfl) ?_
  refine va_get (D := (dC, dI)) (ci := 7) (v := .int 13) (C := RX8) (T := TX8) (N := 14) hx hb hts i_X8 hown hK hP 0 rfl rfl 10 (by decide) k_0 (fun _ h9 => h9) ffs_9_10 dX8_putBytes_22 ?_
  refine lv_iload_n hx hb dX8_putBytes_25 rfl (lv_at hl 2 rfl) ?_
  refine lv_iload_n hx hb dX8_putBytes_26 rfl (lv_at hl 0 rfl) ?_
  refine lv_iushr hx hb dX8_putBytes_27 rfl ?_
  refine lv_topi (fun v_13 ev_13 => ?_)
  refine lv_i2b hx hb dX8_putBytes_28 rfl ?_
  refine lv_topi (fun v_15 ev_15 => ?_)
  refine va_bast hx hb hK hP hD hS 1 0 rfl rfl (p1_in (i := 13) (n := 1600) (by decide)) dX8_putBytes_29 (fun H locs hP hD hS => ?_)
  have hP : va_P (dC, dI) vwCl [(x, .inr (7, fs_9)), (tp, .inl (cT, 1600, .inl (upd g_7 (13 : Int32).toNatClampNeg (vp_nar .byte v_15))))] H := hP
  have hD : va_D A [(x, .inr (7, fs_9)), (tp, .inl (cT, 1600, .inl (upd g_7 (13 : Int32).toNatClampNeg (vp_nar .byte v_15))))] := hD
  generalize eg_16 : (upd g_7 (13 : Int32).toNatClampNeg (vp_nar .byte v_15)) = g_16 at hP hD
  refine lv_aload_n hx hb dX8_putBytes_30 rfl (lv_at hl 1 rfl) ?_
  refine lv_dup hx hb dX8_putBytes_31 rfl ?_
  refine va_get (D := (dC, dI)) (ci := 7) (v := .int 13) (C := RX8) (T := TX8) (N := 14) hx hb hts i_X8 hown hK hP 0 rfl rfl 10 (by decide) k_0 (fun _ h9 => h9) ffs_9_10 dX8_putBytes_32 ?_
  refine lv_iconst (v := 1) hx hb dX8_putBytes_35 (by decide) ?_
  refine lv_iadd hx hb dX8_putBytes_36 ?_
  refine lv_topi (fun v_17 ev_17 => ?_)
  obtain rfl : v_17 = 14 := ev_17.trans (by decide)
  refine va_put (D := (dC, dI)) (ci := 7) (v := .int 14) (ty := .int) (C := RX8) (T := TX8) (N := 14) hx hb hts i_X8 tyX8 tyX8_ok nmX8 hown hK hP hD hS 0 rfl rfl 10 (by decide) k_0 (fun _ h9 => h9) rfl (by decide +kernel) rfl rfl (by rw [lfs_9]; decide) dX8_putBytes_37 (fun H locs hP hD hS => ?_)
  have hP : va_P (dC, dI) vwCl [(x, .inr (7, (fs_9.set 10 (.int 14)))), (tp, .inl (cT, 1600, .inl g_16))] H := hP
  have hD : va_D A [(x, .inr (7, (fs_9.set 10 (.int 14)))), (tp, .inl (cT, 1600, .inl g_16))] := hD
  generalize efs_18 : (fs_9.set 10 (.int 14)) = fs_18 at hP hD
  have lfs_18 : fs_18.length = 14 := by rw [← efs_18, List.length_set]; exact lfs_9
  have ffs_18_0 : fs_18[0]? = some (.ref tp) := by rw [← efs_18]; exact p1_sn (by decide) ffs_9_0
  have ffs_18_10 : fs_18[10]? = some (.int 14) := by rw [← efs_18]; exact p1_sa lfs_9 (by decide)
  refine lv_iinc (v := 8) (lv' := [(2, .int 8), (0, .ref x), (1, .int a1)]) hx hb dX8_putBytes_40 hl (k := 0) rfl (by decide) (by decide) rfl (fun ls hl => ?_)
  refine lv_goto (tgt := 3) hx hb dX8_putBytes_43 (by decide) ?_
  refine lv_iload_n hx hb dX8_putBytes_3 rfl (lv_at hl 0 rfl) ?_
  refine lv_if_lt (tgt := 46) hx hb dX8_putBytes_4 (by decide) (fun c9 => absurd c9 (by decide)) (fun _ => ?_)
  refine lv_aload_n hx hb dX8_putBytes_7 rfl (lv_at hl 1 rfl) ?_
  refine va_get (D := (dC, dI)) (ci := 7) (v := .int 14) (C := RX8) (T := TX8) (N := 14) hx hb hts i_X8 hown hK hP 0 rfl rfl 10 (by decide) k_0 (fun _ h9 => h9) ffs_18_10 dX8_putBytes_8 ?_
  refine lv_sipush (v := 1600) hx hb dX8_putBytes_11 (by decide) ?_
  refine lv_icmp_ge (tgt := 46) hx hb dX8_putBytes_14 (by decide) (fun c9 => absurd c9 (by decide)) (fun _ => ?_)
  refine lv_aload_n hx hb dX8_putBytes_17 rfl (lv_at hl 1 rfl) ?_
  refine va_get (D := (dC, dI)) (ci := 7) (v := .ref tp) (C := RX8) (T := TX8) (N := 14) hx hb hts i_X8 hown hK hP 0 rfl rfl 0 (by decide) k_1 (fun _ h9 => h9) ffs_18_0 dX8_putBytes_18 ?_
  refine lv_aload_n hx hb dX8_putBytes_21 rfl (lv_at hl 1 rfl) ?_
  refine va_get (D := (dC, dI)) (ci := 7) (v := .int 14) (C := RX8) (T := TX8) (N := 14) hx hb hts i_X8 hown hK hP 0 rfl rfl 10 (by decide) k_0 (fun _ h9 => h9) ffs_18_10 dX8_putBytes_22 ?_
  refine lv_iload_n hx hb dX8_putBytes_25 rfl (lv_at hl 2 rfl) ?_
  refine lv_iload_n hx hb dX8_putBytes_26 rfl (lv_at hl 0 rfl) ?_
  refine lv_iushr hx hb dX8_putBytes_27 rfl ?_
  refine lv_topi (fun v_22 ev_22 => ?_)
  refine lv_i2b hx hb dX8_putBytes_28 rfl ?_
  refine lv_topi (fun v_24 ev_24 => ?_)
  refine va_bast hx hb hK hP hD hS 1 0 rfl rfl (p1_in (i := 14) (n := 1600) (by decide)) dX8_putBytes_29 (fun H locs hP hD hS => ?_)
  have hP : va_P (dC, dI) vwCl [(x, .inr (7, fs_18)), (tp, .inl (cT, 1600, .inl (upd g_16 (14 : Int32).toNatClampNeg (vp_nar .byte v_24))))] H := hP
  have hD : va_D A [(x, .inr (7, fs_18)), (tp, .inl (cT, 1600, .inl (upd g_16 (14 : Int32).toNatClampNeg (vp_nar .byte v_24))))] := hD
  generalize eg_25 : (upd g_16 (14 : Int32).toNatClampNeg (vp_nar .byte v_24)) = g_25 at hP hD
  refine lv_aload_n hx hb dX8_putBytes_30 rfl (lv_at hl 1 rfl) ?_
  refine lv_dup hx hb dX8_putBytes_31 rfl ?_
  refine va_get (D := (dC, dI)) (ci := 7) (v := .int 14) (C := RX8) (T := TX8) (N := 14) hx hb hts i_X8 hown hK hP 0 rfl rfl 10 (by decide) k_0 (fun _ h9 => h9) ffs_18_10 dX8_putBytes_32 ?_
  refine lv_iconst (v := 1) hx hb dX8_putBytes_35 (by decide) ?_
  refine lv_iadd hx hb dX8_putBytes_36 ?_
  refine lv_topi (fun v_26 ev_26 => ?_)
  obtain rfl : v_26 = 15 := ev_26.trans (by decide)
  refine va_put (D := (dC, dI)) (ci := 7) (v := .int 15) (ty := .int) (C := RX8) (T := TX8) (N := 14) hx hb hts i_X8 tyX8 tyX8_ok nmX8 hown hK hP hD hS 0 rfl rfl 10 (by decide) k_0 (fun _ h9 => h9) rfl (by decide +kernel) rfl rfl (by rw [lfs_18]; decide) dX8_putBytes_37 (fun H locs hP hD hS => ?_)
  have hP : va_P (dC, dI) vwCl [(x, .inr (7, (fs_18.set 10 (.int 15)))), (tp, .inl (cT, 1600, .inl g_25))] H := hP
  have hD : va_D A [(x, .inr (7, (fs_18.set 10 (.int 15)))), (tp, .inl (cT, 1600, .inl g_25))] := hD
  generalize efs_27 : (fs_18.set 10 (.int 15)) = fs_27 at hP hD
  have lfs_27 : fs_27.length = 14 := by rw [← efs_27, List.length_set]; exact lfs_18
  have ffs_27_0 : fs_27[0]? = some (.ref tp) := by rw [← efs_27]; exact p1_sn (by decide) ffs_18_0
  have ffs_27_10 : fs_27[10]? = some (.int 15) := by rw [← efs_27]; exact p1_sa lfs_18 (by decide)
  refine lv_iinc (v := 0) (lv' := [(2, .int 0), (0, .ref x), (1, .int a1)]) hx hb dX8_putBytes_40 hl (k := 0) rfl (by decide) (by decide) rfl (fun ls hl => ?_)
  refine lv_goto (tgt := 3) hx hb dX8_putBytes_43 (by decide) ?_
  refine lv_iload_n hx hb dX8_putBytes_3 rfl (lv_at hl 0 rfl) ?_
  refine lv_if_lt (tgt := 46) hx hb dX8_putBytes_4 (by decide) (fun c9 => absurd c9 (by decide)) (fun _ => ?_)
  refine lv_aload_n hx hb dX8_putBytes_7 rfl (lv_at hl 1 rfl) ?_
  refine va_get (D := (dC, dI)) (ci := 7) (v := .int 15) (C := RX8) (T := TX8) (N := 14) hx hb hts i_X8 hown hK hP 0 rfl rfl 10 (by decide) k_0 (fun _ h9 => h9) ffs_27_10 dX8_putBytes_8 ?_
  refine lv_sipush (v := 1600) hx hb dX8_putBytes_11 (by decide) ?_
  refine lv_icmp_ge (tgt := 46) hx hb dX8_putBytes_14 (by decide) (fun c9 => absurd c9 (by decide)) (fun _ => ?_)
  refine lv_aload_n hx hb dX8_putBytes_17 rfl (lv_at hl 1 rfl) ?_
  refine va_get (D := (dC, dI)) (ci := 7) (v := .ref tp) (C := RX8) (T := TX8) (N := 14) hx hb hts i_X8 hown hK hP 0 rfl rfl 0 (by decide) k_1 (fun _ h9 => h9) ffs_27_0 dX8_putBytes_18 ?_
  refine lv_aload_n hx hb dX8_putBytes_21 rfl (lv_at hl 1 rfl) ?_
  refine va_get (D := (dC, dI)) (ci := 7) (v := .int 15) (C := RX8) (T := TX8) (N := 14) hx hb hts i_X8 hown hK hP 0 rfl rfl 10 (by decide) k_0 (fun _ h9 => h9) ffs_27_10 dX8_putBytes_22 ?_
  refine lv_iload_n hx hb dX8_putBytes_25 rfl (lv_at hl 2 rfl) ?_
  refine lv_iload_n hx hb dX8_putBytes_26 rfl (lv_at hl 0 rfl) ?_
  refine lv_iushr hx hb dX8_putBytes_27 rfl ?_
  refine lv_topi (fun v_31 ev_31 => ?_)
  refine lv_i2b hx hb dX8_putBytes_28 rfl ?_
  refine lv_topi (fun v_33 ev_33 => ?_)
  refine va_bast hx hb hK hP hD hS 1 0 rfl rfl (p1_in (i := 15) (n := 1600) (by decide)) dX8_putBytes_29 (fun H locs hP hD hS => ?_)
  have hP : va_P (dC, dI) vwCl [(x, .inr (7, fs_27)), (tp, .inl (cT, 1600, .inl (upd g_25 (15 : Int32).toNatClampNeg (vp_nar .byte v_33))))] H := hP
  have hD : va_D A [(x, .inr (7, fs_27)), (tp, .inl (cT, 1600, .inl (upd g_25 (15 : Int32).toNatClampNeg (vp_nar .byte v_33))))] := hD
  generalize eg_34 : (upd g_25 (15 : Int32).toNatClampNeg (vp_nar .byte v_33)) = g_34 at hP hD
  refine lv_aload_n hx hb dX8_putBytes_30 rfl (lv_at hl 1 rfl) ?_
  refine lv_dup hx hb dX8_putBytes_31 rfl ?_
  refine va_get (D := (dC, dI)) (ci := 7) (v := .int 15) (C := RX8) (T := TX8) (N := 14) hx hb hts i_X8 hown hK hP 0 rfl rfl 10 (by decide) k_0 (fun _ h9 => h9) ffs_27_10 dX8_putBytes_32 ?_
  refine lv_iconst (v := 1) hx hb dX8_putBytes_35 (by decide) ?_
  refine lv_iadd hx hb dX8_putBytes_36 ?_
  refine lv_topi (fun v_35 ev_35 => ?_)
  obtain rfl : v_35 = 16 := ev_35.trans (by decide)
  refine va_put (D := (dC, dI)) (ci := 7) (v := .int 16) (ty := .int) (C := RX8) (T := TX8) (N := 14) hx hb hts i_X8 tyX8 tyX8_ok nmX8 hown hK hP hD hS 0 rfl rfl 10 (by decide) k_0 (fun _ h9 => h9) rfl (by decide +kernel) rfl rfl (by rw [lfs_27]; decide) dX8_putBytes_37 (fun H locs hP hD hS => ?_)
  have hP : va_P (dC, dI) vwCl [(x, .inr (7, (fs_27.set 10 (.int 16)))), (tp, .inl (cT, 1600, .inl g_34))] H := hP
  have hD : va_D A [(x, .inr (7, (fs_27.set 10 (.int 16)))), (tp, .inl (cT, 1600, .inl g_34))] := hD
  generalize efs_36 : (fs_27.set 10 (.int 16)) = fs_36 at hP hD
  have lfs_36 : fs_36.length = 14 := by rw [← efs_36, List.length_set]; exact lfs_27
  have ffs_36_0 : fs_36[0]? = some (.ref tp) := by rw [← efs_36]; exact p1_sn (by decide) ffs_27_0
  have ffs_36_10 : fs_36[10]? = some (.int 16) := by rw [← efs_36]; exact p1_sa lfs_27 (by decide)
  refine lv_iinc (v := (-8)) (lv' := [(2, .int (-8)), (0, .ref x), (1, .int a1)]) hx hb dX8_putBytes_40 hl (k := 0) rfl (by decide) (by decide) rfl (fun ls hl => ?_)
  refine lv_goto (tgt := 3) hx hb dX8_putBytes_43 (by decide) ?_
  refine lv_iload_n hx hb dX8_putBytes_3 rfl (lv_at hl 0 rfl) ?_
  refine lv_if_lt (tgt := 46) hx hb dX8_putBytes_4 (by decide) (fun _ => ?_) (fun c9 => absurd c9 (by decide))
  have hP9 := hP.sub (ws' := [(x, .inr (7, fs_36)), (tp, .inl (cT, 1600, .inl g_34))]) [0, 1] rfl
  have hD9 := hD.sub (ws' := [(x, .inr (7, fs_36)), (tp, .inl (cT, 1600, .inl g_34))]) [0, 1] (by decide) rfl
  have hK9 := hK.sub (tys' := []) [] rfl
  exact W.vret hx hb hr (fun t ht hW => ⟨⟨(), rfl, trivial, fs_36, g_34, lfs_36, ffs_36_0, ffs_36_10, by rw [ht]; exact hP9, va_K.moved hW.alike hK9, hD9⟩, hS.F ht⟩) hS.2.2 dX8_putBytes_46
def zo_c_putBytes16 : List Cond := [.code yX8_putBytes cX8_putBytes 3 none, .fieldLink RX8 64 "BowWalk" "tapeLength" "I", .fieldLink RX8 9 "BowWalk" "tape" "[B"]
def zw_c_putBytes16 : List Cond := zo_c_putBytes16 ++ (wsX80 ++ [])
theorem gz_c_putBytes16 : zw_c_putBytes16.all goodWord = true := p1_ga (by decide +kernel) (p1_ga gk_X8 p1_g0)
theorem iz_c_putBytes16 : ∀ w ∈ zw_c_putBytes16, w ∈ lw_tbl := p1_ia (p1_all [549, 509, 499] (by decide +kernel)) (p1_ia ik_X8 p1_i0)
set_option maxHeartbeats 4000000 in
set_option maxRecDepth 100000 in
theorem c_putBytes16 (l : Launch) (dC : Nat → ClassId) (dI : Nat → Nat → Nat) (sz : Nat) (x : Nat) (xs : List Value) (tp : Nat) (cT : ClassId) (tf : Nat → Int32) (a1 : Int32) (f_xs_0 : xs[0]? = some (.ref tp)) (f_xs_10 : xs[10]? = some (.int 16)) (l_xs : xs.length = 14) : Met l yX8_putBytes zw_c_putBytes16 ({ frames := 0, cells := 0, slots := 0, locals := 0 }) (va_Pc [.ref x, .int a1] (fun U => U.heap.size = sz ∧ va_P (dC, dI) vwCl [(x, .inr (7, xs)), (tp, .inl (cT, 1600, .inl tf))] U.heap ∧ va_K (dC, dI) vwCl [(cT, .byte)] U ∧ va_D (fun _ => True) [(x, .inr (7, xs)), (tp, .inl (cT, 1600, .inl tf))])) (va_Qv (fun (_ : Unit) => True) (fun _ t => ∃ (xo : List Value) (to : Nat → Int32), xo.length = 14 ∧ xo[0]? = some (.ref tp) ∧ xo[10]? = some (.int 20) ∧ va_P (dC, dI) vwCl [(x, .inr (7, xo)), (tp, .inl (cT, 1600, .inl to))] t.heap ∧ va_K (dC, dI) vwCl [] t ∧ va_D (va_A [(x, .inr (7, xs)), (tp, .inl (cT, 1600, .inl tf))] sz) [(x, .inr (7, xo)), (tp, .inl (cT, 1600, .inl to))]) (va_A [(x, .inr (7, xs)), (tp, .inl (cT, 1600, .inl tf))] sz)) 0 0 (va_A [(x, .inr (7, xs)), (tp, .inl (cT, 1600, .inl tf))] sz) := by
  refine Met.ofW (cc := cX8_putBytes) (maxL := 3) (ret := none) (by decide) rfl ?_
  intro p e s m args below meth c s₁ B hml hv
  obtain ⟨rfl, hsz, hP, hK, hD0⟩ := hv
  have hx := B.exec
  have hb := B.bytes
  have hr := B.returns
  have hts := atoms_spec (ws := zw_c_putBytes16) B.pre
  have hown : s.vm.findClass RX8 = some m.cls := findClass_of_methodNamed B.named
  have hlocks := B.notSynchronized
  subst hsz
  have hD := hD0.self (sz := s.heap.size)
  generalize hAe : va_A [(x, .inr (7, xs)), (tp, .inl (cT, 1600, .inl tf))] s.heap.size = A at hD ⊢
  have hA : ∀ q : Nat, s.heap.size ≤ q → A q := fun q h => by rw [← hAe]; exact Or.inr h
  have hS : va_S A s.heap s.heap [] := va_S.rf
  have hP : va_P (dC, dI) vwCl [(x, .inr (7, xs)), (tp, .inl (cT, 1600, .inl tf))] s.heap := hP
  have m_0 : (.fieldLink RX8 64 "BowWalk" "tapeLength" "I" : Cond) ∈ zw_c_putBytes16 := List.mem_append_left _ (List.mem_of_getElem? (i := 1) rfl)
  have k_0 := hts _ m_0
  have m_1 : (.fieldLink RX8 9 "BowWalk" "tape" "[B" : Cond) ∈ zw_c_putBytes16 := List.mem_append_left _ (List.mem_of_getElem? (i := 2) rfl)
  have k_1 := hts _ m_1
  have i_X8 : ∀ w ∈ u_ws RX8 TX8 14, w ∈ zw_c_putBytes16 := fun w h => List.mem_append_right _ (List.mem_append_left _ h)
  have hl := lv_entry ([.ref x, .int a1]) (n := 3) (Nat.le_of_ble_eq_true rfl)
  rw [lg_entry_eq]
  generalize (lg_sl ([.ref x, .int a1]) ++ List.replicate (3 - (lg_sl ([.ref x, .int a1])).length) Slot.unset).toArray = ls at hl ⊢
  have hl : lv_has ls 3 [(0, .ref x), (1, .int a1)] := hl
  refine lv_bipush (v := 24) hx hb dX8_putBytes_0 (by decide) ?_
  refine lv_istore_n (lv' := [(2, .int 24), (0, .ref x), (1, .int a1)]) hx hb dX8_putBytes_2 rfl hl (by decide) rfl (fun ls hl => ?_)
  refine lv_iload_n hx hb dX8_putBytes_3 rfl (lv_at hl 0 rfl) ?_
  refine lv_if_lt (tgt := 46) hx hb dX8_putBytes_4 (by decide) (fun c9 => absurd c9 (by decide)) (fun _ => ?_)
  refine lv_aload_n hx hb dX8_putBytes_7 rfl (lv_at hl 1 rfl) ?_
  refine va_get (D := (dC, dI)) (ci := 7) (v := .int 16) (C := RX8) (T := TX8) (N := 14) hx hb hts i_X8 hown hK hP 0 rfl rfl 10 (by decide) k_0 (fun _ h9 => h9) f_xs_10 dX8_putBytes_8 ?_
  refine lv_sipush (v := 1600) hx hb dX8_putBytes_11 (by decide) ?_
  refine lv_icmp_ge (tgt := 46) hx hb dX8_putBytes_14 (by decide) (fun c9 => absurd c9 (by decide)) (fun _ => ?_)
  refine lv_aload_n hx hb dX8_putBytes_17 rfl (lv_at hl 1 rfl) ?_
  refine va_get (D := (dC, dI)) (ci := 7) (v := .ref tp) (C := RX8) (T := TX8) (N := 14) hx hb hts i_X8 hown hK hP 0 rfl rfl 0 (by decide) k_1 (fun _ h9 => h9) f_xs_0 dX8_putBytes_18 ?_
  refine lv_aload_n hx hb dX8_putBytes_21 rfl (lv_at hl 1 rfl) ?_
  refine va_get (D := (dC, dI)) (ci := 7) (v := .int 16) (C := RX8) (T := TX8) (N := 14) hx hb hts i_X8 hown hK hP 0 rfl rfl 10 (by decide) k_0 (fun _ h9 => h9) f_xs_10 dX8_putBytes_22 ?_
  refine lv_iload_n hx hb dX8_putBytes_25 rfl (lv_at hl 2 rfl) ?_
  refine lv_iload_n hx hb dX8_putBytes_26 rfl (lv_at hl 0 rfl) ?_
  refine lv_iushr hx hb dX8_putBytes_27 rfl ?_
  refine lv_topi (fun v_4 ev_4 => ?_)
  refine lv_i2b hx hb dX8_putBytes_28 rfl ?_
  refine lv_topi (fun v_6 ev_6 => ?_)
  refine va_bast hx hb hK hP hD hS 1 0 rfl rfl (p1_in (i := 16) (n := 1600) (by decide)) dX8_putBytes_29 (fun H locs hP hD hS => ?_)
  have hP : va_P (dC, dI) vwCl [(x, .inr (7, xs)), (tp, .inl (cT, 1600, .inl (upd tf (16 : Int32).toNatClampNeg (vp_nar .byte v_6))))] H := hP
  have hD : va_D A [(x, .inr (7, xs)), (tp, .inl (cT, 1600, .inl (upd tf (16 : Int32).toNatClampNeg (vp_nar .byte v_6))))] := hD
  generalize eg_7 : (upd tf (16 : Int32).toNatClampNeg (vp_nar .byte v_6)) = g_7 at hP hD
  refine lv_aload_n hx hb dX8_putBytes_30 rfl (lv_at hl 1 rfl) ?_
  refine lv_dup hx hb dX8_putBytes_31 rfl ?_
  refine va_get (D := (dC, dI)) (ci := 7) (v := .int 16) (C := RX8) (T := TX8) (N := 14) hx hb hts i_X8 hown hK hP 0 rfl rfl 10 (by decide) k_0 (fun _ h9 => h9) f_xs_10 dX8_putBytes_32 ?_
  refine lv_iconst (v := 1) hx hb dX8_putBytes_35 (by decide) ?_
  refine lv_iadd hx hb dX8_putBytes_36 ?_
  refine lv_topi (fun v_8 ev_8 => ?_)
  obtain rfl : v_8 = 17 := ev_8.trans (by decide)
  refine va_put (D := (dC, dI)) (ci := 7) (v := .int 17) (ty := .int) (C := RX8) (T := TX8) (N := 14) hx hb hts i_X8 tyX8 tyX8_ok nmX8 hown hK hP hD hS 0 rfl rfl 10 (by decide) k_0 (fun _ h9 => h9) rfl (by decide +kernel) rfl rfl (by rw [l_xs]; decide) dX8_putBytes_37 (fun H locs hP hD hS => ?_)
  have hP : va_P (dC, dI) vwCl [(x, .inr (7, (xs.set 10 (.int 17)))), (tp, .inl (cT, 1600, .inl g_7))] H := hP
  have hD : va_D A [(x, .inr (7, (xs.set 10 (.int 17)))), (tp, .inl (cT, 1600, .inl g_7))] := hD
  generalize efs_9 : (xs.set 10 (.int 17)) = fs_9 at hP hD
  have lfs_9 : fs_9.length = 14 := by rw [← efs_9, List.length_set]; exact l_xs
  have ffs_9_0 : fs_9[0]? = some (.ref tp) := by rw [← efs_9]; exact p1_sn (by decide) f_xs_0
  have ffs_9_10 : fs_9[10]? = some (.int 17) := by rw [← efs_9]; exact p1_sa l_xs (by decide)
  refine lv_iinc (v := 16) (lv' := [(2, .int 16), (0, .ref x), (1, .int a1)]) hx hb dX8_putBytes_40 hl (k := 0) rfl (by decide) (by decide) rfl (fun ls hl => ?_)
  refine lv_goto (tgt := 3) hx hb dX8_putBytes_43 (by decide) ?_
  refine lv_iload_n hx hb dX8_putBytes_3 rfl (lv_at hl 0 rfl) ?_
  refine lv_if_lt (tgt := 46) hx hb dX8_putBytes_4 (by decide) (fun c9 => absurd c9 (by decide)) (fun _ => ?_)
  refine lv_aload_n hx hb dX8_putBytes_7 rfl (lv_at hl 1 rfl) ?_
  refine va_get (D := (dC, dI)) (ci := 7) (v := .int 17) (C := RX8) (T := TX8) (N := 14) hx hb hts i_X8 hown hK hP 0 rfl rfl 10 (by decide) k_0 (fun _ h9 => h9) ffs_9_10 dX8_putBytes_8 ?_
  refine lv_sipush (v := 1600) hx hb dX8_putBytes_11 (by decide) ?_
  refine lv_icmp_ge (tgt := 46) hx hb dX8_putBytes_14 (by decide) (fun c9 => absurd c9 (by decide)) (fun _ => ?_)
  refine lv_aload_n hx hb dX8_putBytes_17 rfl (lv_at hl 1 rfl) ?_
  refine va_get (D := (dC, dI)) (ci := 7) (v := .ref tp) (C := RX8) (T := TX8) (N := 14) hx hb hts i_X8 hown hK hP 0 rfl rfl 0 (by decide) k_1 (fun _ h9 => h9) ffs_9_0 dX8_putBytes_18 ?_
  refine lv_aload_n hx hb dX8_putBytes_21 rfl (lv_at hl 1 rfl) ?_
  refine va_get (D := (dC, dI)) (ci := 7) (v := .int 17) (C := RX8) (T := TX8) (N := 14) hx hb hts i_X8 hown hK hP 0 rfl rfl 10 (by decide) k_0 (fun _ h9 => h9) ffs_9_10 dX8_putBytes_22 ?_
  refine lv_iload_n hx hb dX8_putBytes_25 rfl (lv_at hl 2 rfl) ?_
  refine lv_iload_n hx hb dX8_putBytes_26 rfl (lv_at hl 0 rfl) ?_
  refine lv_iushr hx hb dX8_putBytes_27 rfl ?_
  refine lv_topi (fun v_13 ev_13 => ?_)
  refine lv_i2b hx hb dX8_putBytes_28 rfl ?_
  refine lv_topi (fun v_15 ev_15 => ?_)
  refine va_bast hx hb hK hP hD hS 1 0 rfl rfl (p1_in (i := 17) (n := 1600) (by decide)) dX8_putBytes_29 (fun H locs hP hD hS => ?_)
  have hP : va_P (dC, dI) vwCl [(x, .inr (7, fs_9)), (tp, .inl (cT, 1600, .inl (upd g_7 (17 : Int32).toNatClampNeg (vp_nar .byte v_15))))] H := hP
  have hD : va_D A [(x, .inr (7, fs_9)), (tp, .inl (cT, 1600, .inl (upd g_7 (17 : Int32).toNatClampNeg (vp_nar .byte v_15))))] := hD
  generalize eg_16 : (upd g_7 (17 : Int32).toNatClampNeg (vp_nar .byte v_15)) = g_16 at hP hD
  refine lv_aload_n hx hb dX8_putBytes_30 rfl (lv_at hl 1 rfl) ?_
  refine lv_dup hx hb dX8_putBytes_31 rfl ?_
  refine va_get (D := (dC, dI)) (ci := 7) (v := .int 17) (C := RX8) (T := TX8) (N := 14) hx hb hts i_X8 hown hK hP 0 rfl rfl 10 (by decide) k_0 (fun _ h9 => h9) ffs_9_10 dX8_putBytes_32 ?_
  refine lv_iconst (v := 1) hx hb dX8_putBytes_35 (by decide) ?_
  refine lv_iadd hx hb dX8_putBytes_36 ?_
  refine lv_topi (fun v_17 ev_17 => ?_)
  obtain rfl : v_17 = 18 := ev_17.trans (by decide)
  refine va_put (D := (dC, dI)) (ci := 7) (v := .int 18) (ty := .int) (C := RX8) (T := TX8) (N := 14) hx hb hts i_X8 tyX8 tyX8_ok nmX8 hown hK hP hD hS 0 rfl rfl 10 (by decide) k_0 (fun _ h9 => h9) rfl (by decide +kernel) rfl rfl (by rw [lfs_9]; decide) dX8_putBytes_37 (fun H locs hP hD hS => ?_)
  have hP : va_P (dC, dI) vwCl [(x, .inr (7, (fs_9.set 10 (.int 18)))), (tp, .inl (cT, 1600, .inl g_16))] H := hP
  have hD : va_D A [(x, .inr (7, (fs_9.set 10 (.int 18)))), (tp, .inl (cT, 1600, .inl g_16))] := hD
  generalize efs_18 : (fs_9.set 10 (.int 18)) = fs_18 at hP hD
  have lfs_18 : fs_18.length = 14 := by rw [← efs_18, List.length_set]; exact lfs_9
  have ffs_18_0 : fs_18[0]? = some (.ref tp) := by rw [← efs_18]; exact p1_sn (by decide) ffs_9_0
  have ffs_18_10 : fs_18[10]? = some (.int 18) := by rw [← efs_18]; exact p1_sa lfs_9 (by decide)
  refine lv_iinc (v := 8) (lv' := [(2, .int 8), (0, .ref x), (1, .int a1)]) hx hb dX8_putBytes_40 hl (k := 0) rfl (by decide) (by decide) rfl (fun ls hl => ?_)
  refine lv_goto (tgt := 3) hx hb dX8_putBytes_43 (by decide) ?_
  refine lv_iload_n hx hb dX8_putBytes_3 rfl (lv_at hl 0 rfl) ?_
  refine lv_if_lt (tgt := 46) hx hb dX8_putBytes_4 (by decide) (fun c9 => absurd c9 (by decide)) (fun _ => ?_)
  refine lv_aload_n hx hb dX8_putBytes_7 rfl (lv_at hl 1 rfl) ?_
  refine va_get (D := (dC, dI)) (ci := 7) (v := .int 18) (C := RX8) (T := TX8) (N := 14) hx hb hts i_X8 hown hK hP 0 rfl rfl 10 (by decide) k_0 (fun _ h9 => h9) ffs_18_10 dX8_putBytes_8 ?_
  refine lv_sipush (v := 1600) hx hb dX8_putBytes_11 (by decide) ?_
  refine lv_icmp_ge (tgt := 46) hx hb dX8_putBytes_14 (by decide) (fun c9 => absurd c9 (by decide)) (fun _ => ?_)
  refine lv_aload_n hx hb dX8_putBytes_17 rfl (lv_at hl 1 rfl) ?_
  refine va_get (D := (dC, dI)) (ci := 7) (v := .ref tp) (C := RX8) (T := TX8) (N := 14) hx hb hts i_X8 hown hK hP 0 rfl rfl 0 (by decide) k_1 (fun _ h9 => h9) ffs_18_0 dX8_putBytes_18 ?_
  refine lv_aload_n hx hb dX8_putBytes_21 rfl (lv_at hl 1 rfl) ?_
  refine va_get (D := (dC, dI)) (ci := 7) (v := .int 18) (C := RX8) (T := TX8) (N := 14) hx hb hts i_X8 hown hK hP 0 rfl rfl 10 (by decide) k_0 (fun _ h9 => h9) ffs_18_10 dX8_putBytes_22 ?_
  refine lv_iload_n hx hb dX8_putBytes_25 rfl (lv_at hl 2 rfl) ?_
  refine lv_iload_n hx hb dX8_putBytes_26 rfl (lv_at hl 0 rfl) ?_
  refine lv_iushr hx hb dX8_putBytes_27 rfl ?_
  refine lv_topi (fun v_22 ev_22 => ?_)
  refine lv_i2b hx hb dX8_putBytes_28 rfl ?_
  refine lv_topi (fun v_24 ev_24 => ?_)
  refine va_bast hx hb hK hP hD hS 1 0 rfl rfl (p1_in (i := 18) (n := 1600) (by decide)) dX8_putBytes_29 (fun H locs hP hD hS => ?_)
  have hP : va_P (dC, dI) vwCl [(x, .inr (7, fs_18)), (tp, .inl (cT, 1600, .inl (upd g_16 (18 : Int32).toNatClampNeg (vp_nar .byte v_24))))] H := hP
  have hD : va_D A [(x, .inr (7, fs_18)), (tp, .inl (cT, 1600, .inl (upd g_16 (18 : Int32).toNatClampNeg (vp_nar .byte v_24))))] := hD
  generalize eg_25 : (upd g_16 (18 : Int32).toNatClampNeg (vp_nar .byte v_24)) = g_25 at hP hD
  refine lv_aload_n hx hb dX8_putBytes_30 rfl (lv_at hl 1 rfl) ?_
  refine lv_dup hx hb dX8_putBytes_31 rfl ?_
  refine va_get (D := (dC, dI)) (ci := 7) (v := .int 18) (C := RX8) (T := TX8) (N := 14) hx hb hts i_X8 hown hK hP 0 rfl rfl 10 (by decide) k_0 (fun _ h9 => h9) ffs_18_10 dX8_putBytes_32 ?_
  refine lv_iconst (v := 1) hx hb dX8_putBytes_35 (by decide) ?_
  refine lv_iadd hx hb dX8_putBytes_36 ?_
  refine lv_topi (fun v_26 ev_26 => ?_)
  obtain rfl : v_26 = 19 := ev_26.trans (by decide)
  refine va_put (D := (dC, dI)) (ci := 7) (v := .int 19) (ty := .int) (C := RX8) (T := TX8) (N := 14) hx hb hts i_X8 tyX8 tyX8_ok nmX8 hown hK hP hD hS 0 rfl rfl 10 (by decide) k_0 (fun _ h9 => h9) rfl (by decide +kernel) rfl rfl (by rw [lfs_18]; decide) dX8_putBytes_37 (fun H locs hP hD hS => ?_)
  have hP : va_P (dC, dI) vwCl [(x, .inr (7, (fs_18.set 10 (.int 19)))), (tp, .inl (cT, 1600, .inl g_25))] H := hP
  have hD : va_D A [(x, .inr (7, (fs_18.set 10 (.int 19)))), (tp, .inl (cT, 1600, .inl g_25))] := hD
  generalize efs_27 : (fs_18.set 10 (.int 19)) = fs_27 at hP hD
  have lfs_27 : fs_27.length = 14 := by rw [← efs_27, List.length_set]; exact lfs_18
  have ffs_27_0 : fs_27[0]? = some (.ref tp) := by rw [← efs_27]; exact p1_sn (by decide) ffs_18_0
  have ffs_27_10 : fs_27[10]? = some (.int 19) := by rw [← efs_27]; exact p1_sa lfs_18 (by decide)
  refine lv_iinc (v := 0) (lv' := [(2, .int 0), (0, .ref x), (1, .int a1)]) hx hb dX8_putBytes_40 hl (k := 0) rfl (by decide) (by decide) rfl (fun ls hl => ?_)
  refine lv_goto (tgt := 3) hx hb dX8_putBytes_43 (by decide) ?_
  refine lv_iload_n hx hb dX8_putBytes_3 rfl (lv_at hl 0 rfl) ?_
  refine lv_if_lt (tgt := 46) hx hb dX8_putBytes_4 (by decide) (fun c9 => absurd c9 (by decide)) (fun _ => ?_)
  refine lv_aload_n hx hb dX8_putBytes_7 rfl (lv_at hl 1 rfl) ?_
  refine va_get (D := (dC, dI)) (ci := 7) (v := .int 19) (C := RX8) (T := TX8) (N := 14) hx hb hts i_X8 hown hK hP 0 rfl rfl 10 (by decide) k_0 (fun _ h9 => h9) ffs_27_10 dX8_putBytes_8 ?_
  refine lv_sipush (v := 1600) hx hb dX8_putBytes_11 (by decide) ?_
  refine lv_icmp_ge (tgt := 46) hx hb dX8_putBytes_14 (by decide) (fun c9 => absurd c9 (by decide)) (fun _ => ?_)
  refine lv_aload_n hx hb dX8_putBytes_17 rfl (lv_at hl 1 rfl) ?_
  refine va_get (D := (dC, dI)) (ci := 7) (v := .ref tp) (C := RX8) (T := TX8) (N := 14) hx hb hts i_X8 hown hK hP 0 rfl rfl 0 (by decide) k_1 (fun _ h9 => h9) ffs_27_0 dX8_putBytes_18 ?_
  refine lv_aload_n hx hb dX8_putBytes_21 rfl (lv_at hl 1 rfl) ?_
  refine va_get (D := (dC, dI)) (ci := 7) (v := .int 19) (C := RX8) (T := TX8) (N := 14) hx hb hts i_X8 hown hK hP 0 rfl rfl 10 (by decide) k_0 (fun _ h9 => h9) ffs_27_10 dX8_putBytes_22 ?_
  refine lv_iload_n hx hb dX8_putBytes_25 rfl (lv_at hl 2 rfl) ?_
  refine lv_iload_n hx hb dX8_putBytes_26 rfl (lv_at hl 0 rfl) ?_
  refine lv_iushr hx hb dX8_putBytes_27 rfl ?_
  refine lv_topi (fun v_31 ev_31 => ?_)
  refine lv_i2b hx hb dX8_putBytes_28 rfl ?_
  refine lv_topi (fun v_33 ev_33 => ?_)
  refine va_bast hx hb hK hP hD hS 1 0 rfl rfl (p1_in (i := 19) (n := 1600) (by decide)) dX8_putBytes_29 (fun H locs hP hD hS => ?_)
  have hP : va_P (dC, dI) vwCl [(x, .inr (7, fs_27)), (tp, .inl (cT, 1600, .inl (upd g_25 (19 : Int32).toNatClampNeg (vp_nar .byte v_33))))] H := hP
  have hD : va_D A [(x, .inr (7, fs_27)), (tp, .inl (cT, 1600, .inl (upd g_25 (19 : Int32).toNatClampNeg (vp_nar .byte v_33))))] := hD
  generalize eg_34 : (upd g_25 (19 : Int32).toNatClampNeg (vp_nar .byte v_33)) = g_34 at hP hD
  refine lv_aload_n hx hb dX8_putBytes_30 rfl (lv_at hl 1 rfl) ?_
  refine lv_dup hx hb dX8_putBytes_31 rfl ?_
  refine va_get (D := (dC, dI)) (ci := 7) (v := .int 19) (C := RX8) (T := TX8) (N := 14) hx hb hts i_X8 hown hK hP 0 rfl rfl 10 (by decide) k_0 (fun _ h9 => h9) ffs_27_10 dX8_putBytes_32 ?_
  refine lv_iconst (v := 1) hx hb dX8_putBytes_35 (by decide) ?_
  refine lv_iadd hx hb dX8_putBytes_36 ?_
  refine lv_topi (fun v_35 ev_35 => ?_)
  obtain rfl : v_35 = 20 := ev_35.trans (by decide)
  refine va_put (D := (dC, dI)) (ci := 7) (v := .int 20) (ty := .int) (C := RX8) (T := TX8) (N := 14) hx hb hts i_X8 tyX8 tyX8_ok nmX8 hown hK hP hD hS 0 rfl rfl 10 (by decide) k_0 (fun _ h9 => h9) rfl (by decide +kernel) rfl rfl (by rw [lfs_27]; decide) dX8_putBytes_37 (fun H locs hP hD hS => ?_)
  have hP : va_P (dC, dI) vwCl [(x, .inr (7, (fs_27.set 10 (.int 20)))), (tp, .inl (cT, 1600, .inl g_34))] H := hP
  have hD : va_D A [(x, .inr (7, (fs_27.set 10 (.int 20)))), (tp, .inl (cT, 1600, .inl g_34))] := hD
  generalize efs_36 : (fs_27.set 10 (.int 20)) = fs_36 at hP hD
  have lfs_36 : fs_36.length = 14 := by rw [← efs_36, List.length_set]; exact lfs_27
  have ffs_36_0 : fs_36[0]? = some (.ref tp) := by rw [← efs_36]; exact p1_sn (by decide) ffs_27_0
  have ffs_36_10 : fs_36[10]? = some (.int 20) := by rw [← efs_36]; exact p1_sa lfs_27 (by decide)
  refine lv_iinc (v := (-8)) (lv' := [(2, .int (-8)), (0, .ref x), (1, .int a1)]) hx hb dX8_putBytes_40 hl (k := 0) rfl (by decide) (by decide) rfl (fun ls hl => ?_)
  refine lv_goto (tgt := 3) hx hb dX8_putBytes_43 (by decide) ?_
  refine lv_iload_n hx hb dX8_putBytes_3 rfl (lv_at hl 0 rfl) ?_
  refine lv_if_lt (tgt := 46) hx hb dX8_putBytes_4 (by decide) (fun _ => ?_) (fun c9 => absurd c9 (by decide))
  have hP9 := hP.sub (ws' := [(x, .inr (7, fs_36)), (tp, .inl (cT, 1600, .inl g_34))]) [0, 1] rfl
  have hD9 := hD.sub (ws' := [(x, .inr (7, fs_36)), (tp, .inl (cT, 1600, .inl g_34))]) [0, 1] (by decide) rfl
  have hK9 := hK.sub (tys' := []) [] rfl
  exact W.vret hx hb hr (fun t ht hW => ⟨⟨(), rfl, trivial, fs_36, g_34, lfs_36, ffs_36_0, ffs_36_10, by rw [ht]; exact hP9, va_K.moved hW.alike hK9, hD9⟩, hS.F ht⟩) hS.2.2 dX8_putBytes_46
def zo_x_feed : List Cond := [.code yX8_feed cX8_feed 6 (some .int), .fieldLink RX8 64 "BowWalk" "tapeLength" "I", .methodLink RX8 79 yX8_putBytes, .instanceMethod yX8_putBytes, .selects RX8 yX8_putBytes yX8_putBytes, .initialized RX8]
def zw_x_feed : List Cond := zo_x_feed ++ (zw_c_putBytes0 ++ (zw_c_putBytes4 ++ (zw_c_putBytes8 ++ (zw_c_putBytes12 ++ (zw_c_putBytes16 ++ (wsX80 ++ []))))))
theorem gz_x_feed : zw_x_feed.all goodWord = true := p1_ga (by decide +kernel) (p1_ga gz_c_putBytes0 (p1_ga gz_c_putBytes4 (p1_ga gz_c_putBytes8 (p1_ga gz_c_putBytes12 (p1_ga gz_c_putBytes16 (p1_ga gk_X8 p1_g0))))))
theorem iz_x_feed : ∀ w ∈ zw_x_feed, w ∈ lw_tbl := p1_ia (p1_all [545, 509, 546, 548, 0, 104] (by decide +kernel)) (p1_ia iz_c_putBytes0 (p1_ia iz_c_putBytes4 (p1_ia iz_c_putBytes8 (p1_ia iz_c_putBytes12 (p1_ia iz_c_putBytes16 (p1_ia ik_X8 p1_i0))))))
set_option maxHeartbeats 4000000 in
set_option maxRecDepth 100000 in
theorem x_feed (l : Launch) (dC : Nat → ClassId) (dI : Nat → Nat → Nat) (sz : Nat) (x : Nat) (xs : List Value) (tp : Nat) (cT : ClassId) (tf : Nat → Int32) (a1 : Int32) (a2 : Int32) (a3 : Int32) (a4 : Int32) (a5 : Int32) (f_xs_0 : xs[0]? = some (.ref tp)) (f_xs_10 : xs[10]? = some (.int 0)) (l_xs : xs.length = 14) : Met l yX8_feed zw_x_feed ({ frames := 1, cells := 0, slots := 0, locals := 22 }) (va_Pc [.ref x, .int a1, .int a2, .int a3, .int a4, .int a5] (fun U => U.heap.size = sz ∧ va_P (dC, dI) vwCl [(x, .inr (7, xs)), (tp, .inl (cT, 1600, .inl tf))] U.heap ∧ va_K (dC, dI) vwCl [(cT, .byte)] U ∧ va_D (fun _ => True) [(x, .inr (7, xs)), (tp, .inl (cT, 1600, .inl tf))])) (va_Qi (fun (r : Int32) (_ : Unit) => r = 20) (fun _ t => va_P (dC, dI) vwCl [] t.heap ∧ va_K (dC, dI) vwCl [] t ∧ va_D (va_A [(x, .inr (7, xs)), (tp, .inl (cT, 1600, .inl tf))] sz) []) (va_A [(x, .inr (7, xs)), (tp, .inl (cT, 1600, .inl tf))] sz)) 0 0 (va_A [(x, .inr (7, xs)), (tp, .inl (cT, 1600, .inl tf))] sz) := by
  refine Met.ofW (cc := cX8_feed) (maxL := 6) (ret := (some .int)) (by decide) rfl ?_
  intro p e s m args below meth c s₁ B hml hv
  obtain ⟨rfl, hsz, hP, hK, hD0⟩ := hv
  have hx := B.exec
  have hb := B.bytes
  have hr := B.returns
  have hts := atoms_spec (ws := zw_x_feed) B.pre
  have hown : s.vm.findClass RX8 = some m.cls := findClass_of_methodNamed B.named
  have hlocks := B.notSynchronized
  subst hsz
  have hD := hD0.self (sz := s.heap.size)
  generalize hAe : va_A [(x, .inr (7, xs)), (tp, .inl (cT, 1600, .inl tf))] s.heap.size = A at hD ⊢
  have hA : ∀ q : Nat, s.heap.size ≤ q → A q := fun q h => by rw [← hAe]; exact Or.inr h
  have hS : va_S A s.heap s.heap [] := va_S.rf
  have hP : va_P (dC, dI) vwCl [(x, .inr (7, xs)), (tp, .inl (cT, 1600, .inl tf))] s.heap := hP
  have m_0 : (.fieldLink RX8 64 "BowWalk" "tapeLength" "I" : Cond) ∈ zw_x_feed := List.mem_append_left _ (List.mem_of_getElem? (i := 1) rfl)
  have k_0 := hts _ m_0
  have m_1 : (.methodLink RX8 79 yX8_putBytes : Cond) ∈ zw_x_feed := List.mem_append_left _ (List.mem_of_getElem? (i := 2) rfl)
  have k_1 := hts _ m_1
  have m_2 : (.instanceMethod yX8_putBytes : Cond) ∈ zw_x_feed := List.mem_append_left _ (List.mem_of_getElem? (i := 3) rfl)
  have k_2 := hts _ m_2
  have m_3 : (.selects RX8 yX8_putBytes yX8_putBytes : Cond) ∈ zw_x_feed := List.mem_append_left _ (List.mem_of_getElem? (i := 4) rfl)
  have k_3 := hts _ m_3
  have m_4 : (.initialized RX8 : Cond) ∈ zw_x_feed := List.mem_append_left _ (List.mem_of_getElem? (i := 5) rfl)
  have k_4 := hts _ m_4
  have g_c_putBytes0 : ∀ w ∈ zw_c_putBytes0, w ∈ zw_x_feed := fun w h => List.mem_append_right _ (List.mem_append_left _ h)
  have g_c_putBytes4 : ∀ w ∈ zw_c_putBytes4, w ∈ zw_x_feed := fun w h => List.mem_append_right _ (List.mem_append_right _ (List.mem_append_left _ h))
  have g_c_putBytes8 : ∀ w ∈ zw_c_putBytes8, w ∈ zw_x_feed := fun w h => List.mem_append_right _ (List.mem_append_right _ (List.mem_append_right _ (List.mem_append_left _ h)))
  have g_c_putBytes12 : ∀ w ∈ zw_c_putBytes12, w ∈ zw_x_feed := fun w h => List.mem_append_right _ (List.mem_append_right _ (List.mem_append_right _ (List.mem_append_right _ (List.mem_append_left _ h))))
  have g_c_putBytes16 : ∀ w ∈ zw_c_putBytes16, w ∈ zw_x_feed := fun w h => List.mem_append_right _ (List.mem_append_right _ (List.mem_append_right _ (List.mem_append_right _ (List.mem_append_right _ (List.mem_append_left _ h)))))
  have i_X8 : ∀ w ∈ u_ws RX8 TX8 14, w ∈ zw_x_feed := fun w h => List.mem_append_right _ (List.mem_append_right _ (List.mem_append_right _ (List.mem_append_right _ (List.mem_append_right _ (List.mem_append_right _ (List.mem_append_left _ h))))))
  have hl := lv_entry ([.ref x, .int a1, .int a2, .int a3, .int a4, .int a5]) (n := 6) (Nat.le_of_ble_eq_true rfl)
  rw [lg_entry_eq]
  generalize (lg_sl ([.ref x, .int a1, .int a2, .int a3, .int a4, .int a5]) ++ List.replicate (6 - (lg_sl ([.ref x, .int a1, .int a2, .int a3, .int a4, .int a5])).length) Slot.unset).toArray = ls at hl ⊢
  have hl : lv_has ls 6 [(0, .ref x), (1, .int a1), (2, .int a2), (3, .int a3), (4, .int a4), (5, .int a5)] := hl
  refine lv_aload_n hx hb dX8_feed_0 rfl (lv_at hl 0 rfl) ?_
  refine va_get (D := (dC, dI)) (ci := 7) (v := .int 0) (C := RX8) (T := TX8) (N := 14) hx hb hts i_X8 hown hK hP 0 rfl rfl 10 (by decide) k_0 (fun _ h9 => h9) f_xs_10 dX8_feed_1 ?_
  refine lv_bipush (v := 20) hx hb dX8_feed_4 (by decide) ?_
  refine lv_iadd hx hb dX8_feed_6 ?_
  refine lv_topi (fun v_1 ev_1 => ?_)
  obtain rfl : v_1 = 20 := ev_1.trans (by decide)
  refine lv_sipush (v := 1600) hx hb dX8_feed_7 (by decide) ?_
  refine lv_icmp_le (tgt := 15) hx hb dX8_feed_10 (by decide) (fun _ => ?_) (fun c9 => absurd c9 (by decide))
  refine lv_aload_n hx hb dX8_feed_15 rfl (lv_at hl 0 rfl) ?_
  refine lv_iload_n hx hb dX8_feed_16 rfl (lv_at hl 1 rfl) ?_
  have hPc := hP.sub (ws' := [(x, .inr (7, xs)), (tp, .inl (cT, 1600, .inl tf))]) [0, 1] rfl
  have hDc := hD.sub (ws' := [(x, .inr (7, xs)), (tp, .inl (cT, 1600, .inl tf))]) [0, 1] (by decide) rfl
  have hKc := hK.sub (tys' := [(cT, .byte)]) [0] rfl
  have hFc := va_free (wc := [(x, .inr (7, xs)), (tp, .inl (cT, 1600, .inl tf))]) hD hS hA [0, 1] rfl
  refine va_callv (va_runV (As := [.int a1]) (rest := []) ⟨hx, hb, hml, hown, hts⟩ (c_putBytes0 l dC dI s.heap.size x xs tp cT tf a1 f_xs_0 f_xs_10 l_xs) (cwV 1 hts (p1_gV m_1 m_2 m_3 m_4 g_c_putBytes0 gz_c_putBytes0) rfl rfl rfl (by decide +kernel) ⟨by decide, by decide⟩) ⟨fun a U g mk q => by obtain ⟨q0, q1, qP, qK, qD⟩ := q; exact ⟨q0, q1, qP, va_K.moved (u := U) (U := U.calling g mk a) (Vm.Alike.refl U.vm) qK, qD⟩, va_recv hKc hPc (ci := 7) (q0 := 0) rfl rfl, fun U hU hW => ⟨rfl, by rw [hU], by rw [hU]; exact hPc, va_K.moved hW.alike hKc, hDc.weaken (fun _ _ _ _ => trivial)⟩⟩ rfl rfl hl.1 rfl (lv_room (Nat.le_of_ble_eq_true rfl)) dX8_feed_17 ⟨by decide, by decide⟩) hS (fun q _ h => hFc q h) hFc (fun u t H1 locs ht hvm hw hB hz1 hk1 hS => ?_)
  obtain ⟨xo_3, to_4, z_5, z_6, z_7, hP1, hK1, hD1⟩ := hB
  rw [ht] at hP1
  obtain ⟨hP, hD⟩ := va_join (wr := []) (w1 := [(x, .inr (7, xo_3)), (tp, .inl (cT, 1600, .inl to_4))]) hP hD [0, 1] [] rfl rfl (by decide) (by decide) hk1 hFc hP1 hD1
  generalize H1 = H at hP hS ⊢
  have hP : va_P (dC, dI) vwCl [(x, .inr (7, xo_3)), (tp, .inl (cT, 1600, .inl to_4))] H := hP
  have hD : va_D A [(x, .inr (7, xo_3)), (tp, .inl (cT, 1600, .inl to_4))] := hD
  try dsimp only at hw
  refine lv_aload_n hx hb dX8_feed_20 rfl (lv_at hl 0 rfl) ?_
  refine lv_iload_n hx hb dX8_feed_21 rfl (lv_at hl 2 rfl) ?_
  have hPc := hP.sub (ws' := [(x, .inr (7, xo_3)), (tp, .inl (cT, 1600, .inl to_4))]) [0, 1] rfl
  have hDc := hD.sub (ws' := [(x, .inr (7, xo_3)), (tp, .inl (cT, 1600, .inl to_4))]) [0, 1] (by decide) rfl
  have hKc := hK.sub (tys' := [(cT, .byte)]) [0] rfl
  have hFc := va_free (wc := [(x, .inr (7, xo_3)), (tp, .inl (cT, 1600, .inl to_4))]) hD hS hA [0, 1] rfl
  refine va_callv (va_runV (As := [.int a2]) (rest := []) ⟨hx, hb, hml, hown, hts⟩ (c_putBytes4 l dC dI H.size x xo_3 tp cT to_4 a2 z_6 z_7 z_5) (cwV 1 hts (p1_gV m_1 m_2 m_3 m_4 g_c_putBytes4 gz_c_putBytes4) rfl rfl rfl (by decide +kernel) ⟨by decide, by decide⟩) ⟨fun a U g mk q => by obtain ⟨q0, q1, qP, qK, qD⟩ := q; exact ⟨q0, q1, qP, va_K.moved (u := U) (U := U.calling g mk a) (Vm.Alike.refl U.vm) qK, qD⟩, va_recv hKc hPc (ci := 7) (q0 := 0) rfl rfl, fun U hU hW => ⟨rfl, by rw [hU], by rw [hU]; exact hPc, va_K.moved hW.alike hKc, hDc.weaken (fun _ _ _ _ => trivial)⟩⟩ rfl rfl hl.1 rfl (lv_room (Nat.le_of_ble_eq_true rfl)) dX8_feed_22 ⟨by decide, by decide⟩) hS (fun q _ h => hFc q h) hFc (fun u t H1 locs ht hvm hw hB hz1 hk1 hS => ?_)
  obtain ⟨xo_9, to_10, z_11, z_12, z_13, hP1, hK1, hD1⟩ := hB
  rw [ht] at hP1
  obtain ⟨hP, hD⟩ := va_join (wr := []) (w1 := [(x, .inr (7, xo_9)), (tp, .inl (cT, 1600, .inl to_10))]) hP hD [0, 1] [] rfl rfl (by decide) (by decide) hk1 hFc hP1 hD1
  generalize H1 = H at hP hS ⊢
  have hP : va_P (dC, dI) vwCl [(x, .inr (7, xo_9)), (tp, .inl (cT, 1600, .inl to_10))] H := hP
  have hD : va_D A [(x, .inr (7, xo_9)), (tp, .inl (cT, 1600, .inl to_10))] := hD
  try dsimp only at hw
  refine lv_aload_n hx hb dX8_feed_25 rfl (lv_at hl 0 rfl) ?_
  refine lv_iload_n hx hb dX8_feed_26 rfl (lv_at hl 3 rfl) ?_
  have hPc := hP.sub (ws' := [(x, .inr (7, xo_9)), (tp, .inl (cT, 1600, .inl to_10))]) [0, 1] rfl
  have hDc := hD.sub (ws' := [(x, .inr (7, xo_9)), (tp, .inl (cT, 1600, .inl to_10))]) [0, 1] (by decide) rfl
  have hKc := hK.sub (tys' := [(cT, .byte)]) [0] rfl
  have hFc := va_free (wc := [(x, .inr (7, xo_9)), (tp, .inl (cT, 1600, .inl to_10))]) hD hS hA [0, 1] rfl
  refine va_callv (va_runV (As := [.int a3]) (rest := []) ⟨hx, hb, hml, hown, hts⟩ (c_putBytes8 l dC dI H.size x xo_9 tp cT to_10 a3 z_12 z_13 z_11) (cwV 1 hts (p1_gV m_1 m_2 m_3 m_4 g_c_putBytes8 gz_c_putBytes8) rfl rfl rfl (by decide +kernel) ⟨by decide, by decide⟩) ⟨fun a U g mk q => by obtain ⟨q0, q1, qP, qK, qD⟩ := q; exact ⟨q0, q1, qP, va_K.moved (u := U) (U := U.calling g mk a) (Vm.Alike.refl U.vm) qK, qD⟩, va_recv hKc hPc (ci := 7) (q0 := 0) rfl rfl, fun U hU hW => ⟨rfl, by rw [hU], by rw [hU]; exact hPc, va_K.moved hW.alike hKc, hDc.weaken (fun _ _ _ _ => trivial)⟩⟩ rfl rfl hl.1 rfl (lv_room (Nat.le_of_ble_eq_true rfl)) dX8_feed_27 ⟨by decide, by decide⟩) hS (fun q _ h => hFc q h) hFc (fun u t H1 locs ht hvm hw hB hz1 hk1 hS => ?_)
  obtain ⟨xo_15, to_16, z_17, z_18, z_19, hP1, hK1, hD1⟩ := hB
  rw [ht] at hP1
  obtain ⟨hP, hD⟩ := va_join (wr := []) (w1 := [(x, .inr (7, xo_15)), (tp, .inl (cT, 1600, .inl to_16))]) hP hD [0, 1] [] rfl rfl (by decide) (by decide) hk1 hFc hP1 hD1
  generalize H1 = H at hP hS ⊢
  have hP : va_P (dC, dI) vwCl [(x, .inr (7, xo_15)), (tp, .inl (cT, 1600, .inl to_16))] H := hP
  have hD : va_D A [(x, .inr (7, xo_15)), (tp, .inl (cT, 1600, .inl to_16))] := hD
  try dsimp only at hw
  refine lv_aload_n hx hb dX8_feed_30 rfl (lv_at hl 0 rfl) ?_
  refine lv_iload hx hb dX8_feed_31 (lv_at hl 4 rfl) ?_
  have hPc := hP.sub (ws' := [(x, .inr (7, xo_15)), (tp, .inl (cT, 1600, .inl to_16))]) [0, 1] rfl
  have hDc := hD.sub (ws' := [(x, .inr (7, xo_15)), (tp, .inl (cT, 1600, .inl to_16))]) [0, 1] (by decide) rfl
  have hKc := hK.sub (tys' := [(cT, .byte)]) [0] rfl
  have hFc := va_free (wc := [(x, .inr (7, xo_15)), (tp, .inl (cT, 1600, .inl to_16))]) hD hS hA [0, 1] rfl
  refine va_callv (va_runV (As := [.int a4]) (rest := []) ⟨hx, hb, hml, hown, hts⟩ (c_putBytes12 l dC dI H.size x xo_15 tp cT to_16 a4 z_18 z_19 z_17) (cwV 1 hts (p1_gV m_1 m_2 m_3 m_4 g_c_putBytes12 gz_c_putBytes12) rfl rfl rfl (by decide +kernel) ⟨by decide, by decide⟩) ⟨fun a U g mk q => by obtain ⟨q0, q1, qP, qK, qD⟩ := q; exact ⟨q0, q1, qP, va_K.moved (u := U) (U := U.calling g mk a) (Vm.Alike.refl U.vm) qK, qD⟩, va_recv hKc hPc (ci := 7) (q0 := 0) rfl rfl, fun U hU hW => ⟨rfl, by rw [hU], by rw [hU]; exact hPc, va_K.moved hW.alike hKc, hDc.weaken (fun _ _ _ _ => trivial)⟩⟩ rfl rfl hl.1 rfl (lv_room (Nat.le_of_ble_eq_true rfl)) dX8_feed_33 ⟨by decide, by decide⟩) hS (fun q _ h => hFc q h) hFc (fun u t H1 locs ht hvm hw hB hz1 hk1 hS => ?_)
  obtain ⟨xo_21, to_22, z_23, z_24, z_25, hP1, hK1, hD1⟩ := hB
  rw [ht] at hP1
  obtain ⟨hP, hD⟩ := va_join (wr := []) (w1 := [(x, .inr (7, xo_21)), (tp, .inl (cT, 1600, .inl to_22))]) hP hD [0, 1] [] rfl rfl (by decide) (by decide) hk1 hFc hP1 hD1
  generalize H1 = H at hP hS ⊢
  have hP : va_P (dC, dI) vwCl [(x, .inr (7, xo_21)), (tp, .inl (cT, 1600, .inl to_22))] H := hP
  have hD : va_D A [(x, .inr (7, xo_21)), (tp, .inl (cT, 1600, .inl to_22))] := hD
  try dsimp only at hw
  refine lv_aload_n hx hb dX8_feed_36 rfl (lv_at hl 0 rfl) ?_
  refine lv_iload hx hb dX8_feed_37 (lv_at hl 5 rfl) ?_
  have hPc := hP.sub (ws' := [(x, .inr (7, xo_21)), (tp, .inl (cT, 1600, .inl to_22))]) [0, 1] rfl
  have hDc := hD.sub (ws' := [(x, .inr (7, xo_21)), (tp, .inl (cT, 1600, .inl to_22))]) [0, 1] (by decide) rfl
  have hKc := hK.sub (tys' := [(cT, .byte)]) [0] rfl
  have hFc := va_free (wc := [(x, .inr (7, xo_21)), (tp, .inl (cT, 1600, .inl to_22))]) hD hS hA [0, 1] rfl
  refine va_callv (va_runV (As := [.int a5]) (rest := []) ⟨hx, hb, hml, hown, hts⟩ (c_putBytes16 l dC dI H.size x xo_21 tp cT to_22 a5 z_24 z_25 z_23) (cwV 1 hts (p1_gV m_1 m_2 m_3 m_4 g_c_putBytes16 gz_c_putBytes16) rfl rfl rfl (by decide +kernel) ⟨by decide, by decide⟩) ⟨fun a U g mk q => by obtain ⟨q0, q1, qP, qK, qD⟩ := q; exact ⟨q0, q1, qP, va_K.moved (u := U) (U := U.calling g mk a) (Vm.Alike.refl U.vm) qK, qD⟩, va_recv hKc hPc (ci := 7) (q0 := 0) rfl rfl, fun U hU hW => ⟨rfl, by rw [hU], by rw [hU]; exact hPc, va_K.moved hW.alike hKc, hDc.weaken (fun _ _ _ _ => trivial)⟩⟩ rfl rfl hl.1 rfl (lv_room (Nat.le_of_ble_eq_true rfl)) dX8_feed_39 ⟨by decide, by decide⟩) hS (fun q _ h => hFc q h) hFc (fun u t H1 locs ht hvm hw hB hz1 hk1 hS => ?_)
  obtain ⟨xo_27, to_28, z_29, z_30, z_31, hP1, hK1, hD1⟩ := hB
  rw [ht] at hP1
  obtain ⟨hP, hD⟩ := va_join (wr := []) (w1 := [(x, .inr (7, xo_27)), (tp, .inl (cT, 1600, .inl to_28))]) hP hD [0, 1] [] rfl rfl (by decide) (by decide) hk1 hFc hP1 hD1
  generalize H1 = H at hP hS ⊢
  have hP : va_P (dC, dI) vwCl [(x, .inr (7, xo_27)), (tp, .inl (cT, 1600, .inl to_28))] H := hP
  have hD : va_D A [(x, .inr (7, xo_27)), (tp, .inl (cT, 1600, .inl to_28))] := hD
  try dsimp only at hw
  refine lv_aload_n hx hb dX8_feed_42 rfl (lv_at hl 0 rfl) ?_
  refine va_get (D := (dC, dI)) (ci := 7) (v := .int 20) (C := RX8) (T := TX8) (N := 14) hx hb hts i_X8 hown hK hP 0 rfl rfl 10 (by decide) k_0 (fun _ h9 => h9) z_31 dX8_feed_43 ?_
  have hP9 := hP.sub (ws' := []) [] rfl
  have hD9 := hD.sub (ws' := []) [] (by decide) rfl
  have hK9 := hK.sub (tys' := []) [] rfl
  exact W.iret (v := 20) hx hb hr (fun t ht hW => ⟨⟨20, (), rfl, rfl, by rw [ht]; exact hP9, va_K.moved hW.alike hK9, hD9⟩, hS.F ht⟩) hS.2.2 dX8_feed_46
