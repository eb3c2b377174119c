def zo_n_Bow : List Cond := [.code yX0_init cX0_init 1 none, .methodLink RX0 3 objectInit, .instanceMethod objectInit, .code objectInit ⟨#[0xb1]⟩ 1 none, .arrayClass .int, .fieldLink RX0 11 "BowWalk$Bow" "tight" "[I", .fieldLink RX0 17 "BowWalk$Bow" "ends" "[I", .fieldLink RX0 20 "BowWalk$Bow" "crossings" "I", .fieldLink RX0 24 "BowWalk$Bow" "left" "I", .fieldLink RX0 27 "BowWalk$Bow" "steps" "I", .fieldLink RX0 30 "BowWalk$Bow" "slipped" "I", .fieldLink RX0 33 "BowWalk$Bow" "walk" "I", .fieldLink RX0 36 "BowWalk$Bow" "nextStep" "I", .fieldLink RX0 39 "BowWalk$Bow" "sides" "I", .fieldLink RX0 42 "BowWalk$Bow" "likes" "I", .fieldLink RX0 45 "BowWalk$Bow" "smooth" "I", .fieldLink RX0 48 "BowWalk$Bow" "weight" "I", .fieldLink RX0 51 "BowWalk$Bow" "length" "I", .fieldLink RX0 54 "BowWalk$Bow" "strike" "I", .fieldLink RX0 57 "BowWalk$Bow" "swing" "I"]
def zw_n_Bow : List Cond := zo_n_Bow ++ (wsX00 ++ [])
theorem gz_n_Bow : zw_n_Bow.all goodWord = true := p1_ga (by decide +kernel) (p1_ga gk_X0 p1_g0)
theorem iz_n_Bow : ∀ w ∈ zw_n_Bow, w ∈ lw_tbl := p1_ia (p1_all [348, 349, 126, 127, 173, 350, 352, 355, 357, 360, 362, 364, 366, 368, 369, 370, 371, 372, 373, 374] (by decide +kernel)) (p1_ia ik_X0 p1_i0)
set_option maxHeartbeats 4000000 in
set_option maxRecDepth 100000 in
theorem n_Bow (l : Launch) (dC : Nat → ClassId) (dI : Nat → Nat → Nat) (sz : Nat) (h0 : Nat) (fs : List Value) (l_fs : fs.length = 15) : Met l yX0_init zw_n_Bow ({ frames := 1, cells := 2, slots := 14, locals := 20 }) (va_Pc [.ref h0] (fun U => U.heap.size = sz ∧ va_P (dC, dI) vwCl [(h0, .inr (0, fs))] U.heap ∧ va_K (dC, dI) vwCl [] U ∧ va_D (fun _ => True) [(h0, .inr (0, fs))])) (va_Qv (fun (_ : Unit) => True) (fun _ t => va_P (dC, dI) vwCl [] t.heap ∧ va_K (dC, dI) vwCl [] t ∧ va_D (va_A [(h0, .inr (0, fs))] sz) []) (va_A [(h0, .inr (0, fs))] sz)) 2 14 (va_A [(h0, .inr (0, fs))] sz) := by
  refine Met.ofW (cc := cX0_init) (maxL := 1) (ret := none) (by decide) rfl ?_
  intro p e s m args below meth c s₁ B hml hv
  obtain ⟨rfl, hsz, hP, hK, hD0⟩ := hv
  have hx := B.exec
  have hb := B.bytes
  have hr := B.returns
  have hts := atoms_spec (ws := zw_n_Bow) B.pre
  have hown : s.vm.findClass RX0 = some m.cls := findClass_of_methodNamed B.named
  have hlocks := B.notSynchronized
  have hin : meth.name = "<init>" := (name_of_methodNamed B.named B.method).1
  subst hsz
  have hD := hD0.self (sz := s.heap.size)
  generalize hAe : va_A [(h0, .inr (0, fs))] s.heap.size = A at hD ⊢
  have hA : ∀ q : Nat, s.heap.size ≤ q → A q := fun q h => by rw [← hAe]; exact Or.inr h
  have hS : va_S A s.heap s.heap [] := va_S.rf
  have hP : va_P (dC, dI) vwCl [(h0, .inr (0, fs))] s.heap := hP
  have m_0 : (.methodLink RX0 3 objectInit : Cond) ∈ zw_n_Bow := List.mem_append_left _ (List.mem_of_getElem? (i := 1) rfl)
  have k_0 := hts _ m_0
  have m_1 : (.instanceMethod objectInit : Cond) ∈ zw_n_Bow := List.mem_append_left _ (List.mem_of_getElem? (i := 2) rfl)
  have k_1 := hts _ m_1
  have m_2 : (.code objectInit ⟨#[0xb1]⟩ 1 none : Cond) ∈ zw_n_Bow := List.mem_append_left _ (List.mem_of_getElem? (i := 3) rfl)
  have k_2 := hts _ m_2
  have m_3 : (.arrayClass .int : Cond) ∈ zw_n_Bow := List.mem_append_left _ (List.mem_of_getElem? (i := 4) rfl)
  have k_3 := hts _ m_3
  have m_4 : (.fieldLink RX0 11 "BowWalk$Bow" "tight" "[I" : Cond) ∈ zw_n_Bow := List.mem_append_left _ (List.mem_of_getElem? (i := 5) rfl)
  have k_4 := hts _ m_4
  have m_5 : (.fieldLink RX0 17 "BowWalk$Bow" "ends" "[I" : Cond) ∈ zw_n_Bow := List.mem_append_left _ (List.mem_of_getElem? (i := 6) rfl)
  have k_5 := hts _ m_5
  have m_6 : (.fieldLink RX0 20 "BowWalk$Bow" "crossings" "I" : Cond) ∈ zw_n_Bow := List.mem_append_left _ (List.mem_of_getElem? (i := 7) rfl)
  have k_6 := hts _ m_6
  have m_7 : (.fieldLink RX0 24 "BowWalk$Bow" "left" "I" : Cond) ∈ zw_n_Bow := List.mem_append_left _ (List.mem_of_getElem? (i := 8) rfl)
  have k_7 := hts _ m_7
  have m_8 : (.fieldLink RX0 27 "BowWalk$Bow" "steps" "I" : Cond) ∈ zw_n_Bow := List.mem_append_left _ (List.mem_of_getElem? (i := 9) rfl)
  have k_8 := hts _ m_8
  have m_9 : (.fieldLink RX0 30 "BowWalk$Bow" "slipped" "I" : Cond) ∈ zw_n_Bow := List.mem_append_left _ (List.mem_of_getElem? (i := 10) rfl)
  have k_9 := hts _ m_9
  have m_10 : (.fieldLink RX0 33 "BowWalk$Bow" "walk" "I" : Cond) ∈ zw_n_Bow := List.mem_append_left _ (List.mem_of_getElem? (i := 11) rfl)
  have k_10 := hts _ m_10
  have m_11 : (.fieldLink RX0 36 "BowWalk$Bow" "nextStep" "I" : Cond) ∈ zw_n_Bow := List.mem_append_left _ (List.mem_of_getElem? (i := 12) rfl)
  have k_11 := hts _ m_11
  have m_12 : (.fieldLink RX0 39 "BowWalk$Bow" "sides" "I" : Cond) ∈ zw_n_Bow := List.mem_append_left _ (List.mem_of_getElem? (i := 13) rfl)
  have k_12 := hts _ m_12
  have m_13 : (.fieldLink RX0 42 "BowWalk$Bow" "likes" "I" : Cond) ∈ zw_n_Bow := List.mem_append_left _ (List.mem_of_getElem? (i := 14) rfl)
  have k_13 := hts _ m_13
  have m_14 : (.fieldLink RX0 45 "BowWalk$Bow" "smooth" "I" : Cond) ∈ zw_n_Bow := List.mem_append_left _ (List.mem_of_getElem? (i := 15) rfl)
  have k_14 := hts _ m_14
  have m_15 : (.fieldLink RX0 48 "BowWalk$Bow" "weight" "I" : Cond) ∈ zw_n_Bow := List.mem_append_left _ (List.mem_of_getElem? (i := 16) rfl)
  have k_15 := hts _ m_15
  have m_16 : (.fieldLink RX0 51 "BowWalk$Bow" "length" "I" : Cond) ∈ zw_n_Bow := List.mem_append_left _ (List.mem_of_getElem? (i := 17) rfl)
  have k_16 := hts _ m_16
  have m_17 : (.fieldLink RX0 54 "BowWalk$Bow" "strike" "I" : Cond) ∈ zw_n_Bow := List.mem_append_left _ (List.mem_of_getElem? (i := 18) rfl)
  have k_17 := hts _ m_17
  have m_18 : (.fieldLink RX0 57 "BowWalk$Bow" "swing" "I" : Cond) ∈ zw_n_Bow := List.mem_append_left _ (List.mem_of_getElem? (i := 19) rfl)
  have k_18 := hts _ m_18
  have i_X0 : ∀ w ∈ u_ws RX0 TX0 15, w ∈ zw_n_Bow := fun w h => List.mem_append_right _ (List.mem_append_left _ h)
  have hl := lv_entry ([.ref h0]) (n := 1) (Nat.le_of_ble_eq_true rfl)
  rw [lg_entry_eq]
  generalize (lg_sl ([.ref h0]) ++ List.replicate (1 - (lg_sl ([.ref h0])).length) Slot.unset).toArray = ls at hl ⊢
  have hl : lv_has ls 1 [(0, .ref h0)] := hl
  refine lv_aload_n hx hb dX0_init_0 rfl (lv_at hl 0 rfl) ?_
  refine W.objInit hx hb hown k_0 k_1 k_2 rfl (by rw [hml]; exact hl.1) rfl dX0_init_1 (Nat.le_of_ble_eq_true rfl) (Nat.le_of_ble_eq_true rfl) ?_
  refine W.eq (g2 := F0 m 4 ls []) rfl ?_
  refine lv_aload_n hx hb dX0_init_4 rfl (lv_at hl 0 rfl) ?_
  refine lv_bipush (v := 12) hx hb dX0_init_5 (by decide) ?_
  refine va_newa (atype := .int) (ty := .int) (N' := 12) (a0 := (12, .inl (fun _ => 0))) hx hb k_3 rfl hK hP hD hS hA (fun _ => rfl) (by decide) rfl (by decide) (by decide) (by decide) dX0_init_7 (fun q_1 cA_2 H hK hP hD hS => ?_)
  have hP : va_P (dC, dI) vwCl [(h0, .inr (0, fs)), (q_1, .inl (cA_2, 12, .inl (fun _ => 0)))] H := hP
  have hD : va_D A [(h0, .inr (0, fs)), (q_1, .inl (cA_2, 12, .inl (fun _ => 0)))] := hD
  have hK : va_K (dC, dI) vwCl [(cA_2, .int)] s := hK
  refine W.widen (k := 1) (n := 12) (by decide) (by decide) ?_
  refine va_putF (D := (dC, dI)) (ci := 0) (v := .ref q_1) (ty := .array .int) (C := RX0) (T := TX0) (N := 15) hx hb hts i_X0 tyX0 tyX0_ok nmX0 hown hK hP hD hS 0 rfl rfl 0 (by decide) k_4 (fun _ h9 => h9) rfl hin rfl (by decide +kernel) rfl rfl (by rw [l_fs]; decide) dX0_init_9 (fun H locs hP hD hS => ?_)
  have hP : va_P (dC, dI) vwCl [(h0, .inr (0, (fs.set 0 (.ref q_1)))), (q_1, .inl (cA_2, 12, .inl (fun _ => 0)))] H := hP
  have hD : va_D A [(h0, .inr (0, (fs.set 0 (.ref q_1)))), (q_1, .inl (cA_2, 12, .inl (fun _ => 0)))] := hD
  generalize efs_3 : (fs.set 0 (.ref q_1)) = fs_3 at hP hD
  have lfs_3 : fs_3.length = 15 := by rw [← efs_3, List.length_set]; exact l_fs
  have ffs_3_0 : fs_3[0]? = some (.ref q_1) := by rw [← efs_3]; exact p1_sa l_fs (by decide)
  have hP := hP.sub (ws' := [(h0, .inr (0, fs_3))]) [0] rfl
  have hD := hD.sub (ws' := [(h0, .inr (0, fs_3))]) [0] (by decide) rfl
  have hK := hK.sub (tys' := []) [] rfl
  refine lv_aload_n hx hb dX0_init_12 rfl (lv_at hl 0 rfl) ?_
  refine lv_iconst (v := 2) hx hb dX0_init_13 (by decide) ?_
  refine va_newa (atype := .int) (ty := .int) (N' := 2) (a0 := (2, .inl (fun _ => 0))) hx hb k_3 rfl hK hP hD hS hA (fun _ => rfl) (by decide) rfl (by decide) (by decide) (by decide) dX0_init_14 (fun q_4 cA_5 H hK hP hD hS => ?_)
  have hP : va_P (dC, dI) vwCl [(h0, .inr (0, fs_3)), (q_4, .inl (cA_5, 2, .inl (fun _ => 0)))] H := hP
  have hD : va_D A [(h0, .inr (0, fs_3)), (q_4, .inl (cA_5, 2, .inl (fun _ => 0)))] := hD
  have hK : va_K (dC, dI) vwCl [(cA_5, .int)] s := hK
  refine W.widen (k := 2) (n := 14) (by decide) (by decide) ?_
  refine va_putF (D := (dC, dI)) (ci := 0) (v := .ref q_4) (ty := .array .int) (C := RX0) (T := TX0) (N := 15) hx hb hts i_X0 tyX0 tyX0_ok nmX0 hown hK hP hD hS 0 rfl rfl 1 (by decide) k_5 (fun _ h9 => h9) rfl hin rfl (by decide +kernel) rfl rfl (by rw [lfs_3]; decide) dX0_init_16 (fun H locs hP hD hS => ?_)
  have hP : va_P (dC, dI) vwCl [(h0, .inr (0, (fs_3.set 1 (.ref q_4)))), (q_4, .inl (cA_5, 2, .inl (fun _ => 0)))] H := hP
  have hD : va_D A [(h0, .inr (0, (fs_3.set 1 (.ref q_4)))), (q_4, .inl (cA_5, 2, .inl (fun _ => 0)))] := hD
  generalize efs_6 : (fs_3.set 1 (.ref q_4)) = fs_6 at hP hD
  have lfs_6 : fs_6.length = 15 := by rw [← efs_6, List.length_set]; exact lfs_3
  have ffs_6_1 : fs_6[1]? = some (.ref q_4) := by rw [← efs_6]; exact p1_sa lfs_3 (by decide)
  have hP := hP.sub (ws' := [(h0, .inr (0, fs_6))]) [0] rfl
  have hD := hD.sub (ws' := [(h0, .inr (0, fs_6))]) [0] (by decide) rfl
  have hK := hK.sub (tys' := []) [] rfl
  refine lv_aload_n hx hb dX0_init_19 rfl (lv_at hl 0 rfl) ?_
  refine lv_iconst (v := 0) hx hb dX0_init_20 (by decide) ?_
  refine va_put (D := (dC, dI)) (ci := 0) (v := .int 0) (ty := .int) (C := RX0) (T := TX0) (N := 15) hx hb hts i_X0 tyX0 tyX0_ok nmX0 hown hK hP hD hS 0 rfl rfl 2 (by decide) k_6 (fun _ h9 => h9) rfl (by decide +kernel) rfl rfl (by rw [lfs_6]; decide) dX0_init_21 (fun H locs hP hD hS => ?_)
  have hP : va_P (dC, dI) vwCl [(h0, .inr (0, (fs_6.set 2 (.int 0))))] H := hP
  have hD : va_D A [(h0, .inr (0, (fs_6.set 2 (.int 0))))] := hD
  generalize efs_7 : (fs_6.set 2 (.int 0)) = fs_7 at hP hD
  have lfs_7 : fs_7.length = 15 := by rw [← efs_7, List.length_set]; exact lfs_6
  have ffs_7_2 : fs_7[2]? = some (.int 0) := by rw [← efs_7]; exact p1_sa lfs_6 (by decide)
  refine lv_aload_n hx hb dX0_init_24 rfl (lv_at hl 0 rfl) ?_
  refine lv_iconst (v := 0) hx hb dX0_init_25 (by decide) ?_
  refine va_put (D := (dC, dI)) (ci := 0) (v := .int 0) (ty := .int) (C := RX0) (T := TX0) (N := 15) hx hb hts i_X0 tyX0 tyX0_ok nmX0 hown hK hP hD hS 0 rfl rfl 3 (by decide) k_7 (fun _ h9 => h9) rfl (by decide +kernel) rfl rfl (by rw [lfs_7]; decide) dX0_init_26 (fun H locs hP hD hS => ?_)
  have hP : va_P (dC, dI) vwCl [(h0, .inr (0, (fs_7.set 3 (.int 0))))] H := hP
  have hD : va_D A [(h0, .inr (0, (fs_7.set 3 (.int 0))))] := hD
  generalize efs_8 : (fs_7.set 3 (.int 0)) = fs_8 at hP hD
  have lfs_8 : fs_8.length = 15 := by rw [← efs_8, List.length_set]; exact lfs_7
  have ffs_8_3 : fs_8[3]? = some (.int 0) := by rw [← efs_8]; exact p1_sa lfs_7 (by decide)
  refine lv_aload_n hx hb dX0_init_29 rfl (lv_at hl 0 rfl) ?_
  refine lv_iconst (v := 0) hx hb dX0_init_30 (by decide) ?_
  refine va_put (D := (dC, dI)) (ci := 0) (v := .int 0) (ty := .int) (C := RX0) (T := TX0) (N := 15) hx hb hts i_X0 tyX0 tyX0_ok nmX0 hown hK hP hD hS 0 rfl rfl 4 (by decide) k_8 (fun _ h9 => h9) rfl (by decide +kernel) rfl rfl (by rw [lfs_8]; decide) dX0_init_31 (fun H locs hP hD hS => ?_)
  have hP : va_P (dC, dI) vwCl [(h0, .inr (0, (fs_8.set 4 (.int 0))))] H := hP
  have hD : va_D A [(h0, .inr (0, (fs_8.set 4 (.int 0))))] := hD
  generalize efs_9 : (fs_8.set 4 (.int 0)) = fs_9 at hP hD
  have lfs_9 : fs_9.length = 15 := by rw [← efs_9, List.length_set]; exact lfs_8
  have ffs_9_4 : fs_9[4]? = some (.int 0) := by rw [← efs_9]; exact p1_sa lfs_8 (by decide)
  refine lv_aload_n hx hb dX0_init_34 rfl (lv_at hl 0 rfl) ?_
  refine lv_iconst (v := 0) hx hb dX0_init_35 (by decide) ?_
  refine va_put (D := (dC, dI)) (ci := 0) (v := .int 0) (ty := .int) (C := RX0) (T := TX0) (N := 15) hx hb hts i_X0 tyX0 tyX0_ok nmX0 hown hK hP hD hS 0 rfl rfl 5 (by decide) k_9 (fun _ h9 => h9) rfl (by decide +kernel) rfl rfl (by rw [lfs_9]; decide) dX0_init_36 (fun H locs hP hD hS => ?_)
  have hP : va_P (dC, dI) vwCl [(h0, .inr (0, (fs_9.set 5 (.int 0))))] H := hP
  have hD : va_D A [(h0, .inr (0, (fs_9.set 5 (.int 0))))] := hD
  generalize efs_10 : (fs_9.set 5 (.int 0)) = fs_10 at hP hD
  have lfs_10 : fs_10.length = 15 := by rw [← efs_10, List.length_set]; exact lfs_9
  have ffs_10_5 : fs_10[5]? = some (.int 0) := by rw [← efs_10]; exact p1_sa lfs_9 (by decide)
  refine lv_aload_n hx hb dX0_init_39 rfl (lv_at hl 0 rfl) ?_
  refine lv_iconst (v := (-1)) hx hb dX0_init_40 (by decide) ?_
  refine va_put (D := (dC, dI)) (ci := 0) (v := .int (-1)) (ty := .int) (C := RX0) (T := TX0) (N := 15) hx hb hts i_X0 tyX0 tyX0_ok nmX0 hown hK hP hD hS 0 rfl rfl 6 (by decide) k_10 (fun _ h9 => h9) rfl (by decide +kernel) rfl rfl (by rw [lfs_10]; decide) dX0_init_41 (fun H locs hP hD hS => ?_)
  have hP : va_P (dC, dI) vwCl [(h0, .inr (0, (fs_10.set 6 (.int (-1)))))] H := hP
  have hD : va_D A [(h0, .inr (0, (fs_10.set 6 (.int (-1)))))] := hD
  generalize efs_11 : (fs_10.set 6 (.int (-1))) = fs_11 at hP hD
  have lfs_11 : fs_11.length = 15 := by rw [← efs_11, List.length_set]; exact lfs_10
  have ffs_11_6 : fs_11[6]? = some (.int (-1)) := by rw [← efs_11]; exact p1_sa lfs_10 (by decide)
  refine lv_aload_n hx hb dX0_init_44 rfl (lv_at hl 0 rfl) ?_
  refine lv_iconst (v := 0) hx hb dX0_init_45 (by decide) ?_
  refine va_put (D := (dC, dI)) (ci := 0) (v := .int 0) (ty := .int) (C := RX0) (T := TX0) (N := 15) hx hb hts i_X0 tyX0 tyX0_ok nmX0 hown hK hP hD hS 0 rfl rfl 7 (by decide) k_11 (fun _ h9 => h9) rfl (by decide +kernel) rfl rfl (by rw [lfs_11]; decide) dX0_init_46 (fun H locs hP hD hS => ?_)
  have hP : va_P (dC, dI) vwCl [(h0, .inr (0, (fs_11.set 7 (.int 0))))] H := hP
  have hD : va_D A [(h0, .inr (0, (fs_11.set 7 (.int 0))))] := hD
  generalize efs_12 : (fs_11.set 7 (.int 0)) = fs_12 at hP hD
  have lfs_12 : fs_12.length = 15 := by rw [← efs_12, List.length_set]; exact lfs_11
  have ffs_12_7 : fs_12[7]? = some (.int 0) := by rw [← efs_12]; exact p1_sa lfs_11 (by decide)
  refine lv_aload_n hx hb dX0_init_49 rfl (lv_at hl 0 rfl) ?_
  refine lv_iconst (v := 0) hx hb dX0_init_50 (by decide) ?_
  refine va_put (D := (dC, dI)) (ci := 0) (v := .int 0) (ty := .int) (C := RX0) (T := TX0) (N := 15) hx hb hts i_X0 tyX0 tyX0_ok nmX0 hown hK hP hD hS 0 rfl rfl 8 (by decide) k_12 (fun _ h9 => h9) rfl (by decide +kernel) rfl rfl (by rw [lfs_12]; decide) dX0_init_51 (fun H locs hP hD hS => ?_)
  have hP : va_P (dC, dI) vwCl [(h0, .inr (0, (fs_12.set 8 (.int 0))))] H := hP
  have hD : va_D A [(h0, .inr (0, (fs_12.set 8 (.int 0))))] := hD
  generalize efs_13 : (fs_12.set 8 (.int 0)) = fs_13 at hP hD
  have lfs_13 : fs_13.length = 15 := by rw [← efs_13, List.length_set]; exact lfs_12
  have ffs_13_8 : fs_13[8]? = some (.int 0) := by rw [← efs_13]; exact p1_sa lfs_12 (by decide)
  refine lv_aload_n hx hb dX0_init_54 rfl (lv_at hl 0 rfl) ?_
  refine lv_iconst (v := 0) hx hb dX0_init_55 (by decide) ?_
  refine va_put (D := (dC, dI)) (ci := 0) (v := .int 0) (ty := .int) (C := RX0) (T := TX0) (N := 15) hx hb hts i_X0 tyX0 tyX0_ok nmX0 hown hK hP hD hS 0 rfl rfl 9 (by decide) k_13 (fun _ h9 => h9) rfl (by decide +kernel) rfl rfl (by rw [lfs_13]; decide) dX0_init_56 (fun H locs hP hD hS => ?_)
  have hP : va_P (dC, dI) vwCl [(h0, .inr (0, (fs_13.set 9 (.int 0))))] H := hP
  have hD : va_D A [(h0, .inr (0, (fs_13.set 9 (.int 0))))] := hD
  generalize efs_14 : (fs_13.set 9 (.int 0)) = fs_14 at hP hD
  have lfs_14 : fs_14.length = 15 := by rw [← efs_14, List.length_set]; exact lfs_13
  have ffs_14_9 : fs_14[9]? = some (.int 0) := by rw [← efs_14]; exact p1_sa lfs_13 (by decide)
  refine lv_aload_n hx hb dX0_init_59 rfl (lv_at hl 0 rfl) ?_
  refine lv_iconst (v := 0) hx hb dX0_init_60 (by decide) ?_
  refine va_put (D := (dC, dI)) (ci := 0) (v := .int 0) (ty := .int) (C := RX0) (T := TX0) (N := 15) hx hb hts i_X0 tyX0 tyX0_ok nmX0 hown hK hP hD hS 0 rfl rfl 10 (by decide) k_14 (fun _ h9 => h9) rfl (by decide +kernel) rfl rfl (by rw [lfs_14]; decide) dX0_init_61 (fun H locs hP hD hS => ?_)
  have hP : va_P (dC, dI) vwCl [(h0, .inr (0, (fs_14.set 10 (.int 0))))] H := hP
  have hD : va_D A [(h0, .inr (0, (fs_14.set 10 (.int 0))))] := hD
  generalize efs_15 : (fs_14.set 10 (.int 0)) = fs_15 at hP hD
  have lfs_15 : fs_15.length = 15 := by rw [← efs_15, List.length_set]; exact lfs_14
  have ffs_15_10 : fs_15[10]? = some (.int 0) := by rw [← efs_15]; exact p1_sa lfs_14 (by decide)
  refine lv_aload_n hx hb dX0_init_64 rfl (lv_at hl 0 rfl) ?_
  refine lv_iconst (v := 0) hx hb dX0_init_65 (by decide) ?_
  refine va_put (D := (dC, dI)) (ci := 0) (v := .int 0) (ty := .int) (C := RX0) (T := TX0) (N := 15) hx hb hts i_X0 tyX0 tyX0_ok nmX0 hown hK hP hD hS 0 rfl rfl 11 (by decide) k_15 (fun _ h9 => h9) rfl (by decide +kernel) rfl rfl (by rw [lfs_15]; decide) dX0_init_66 (fun H locs hP hD hS => ?_)
  have hP : va_P (dC, dI) vwCl [(h0, .inr (0, (fs_15.set 11 (.int 0))))] H := hP
  have hD : va_D A [(h0, .inr (0, (fs_15.set 11 (.int 0))))] := hD
  generalize efs_16 : (fs_15.set 11 (.int 0)) = fs_16 at hP hD
  have lfs_16 : fs_16.length = 15 := by rw [← efs_16, List.length_set]; exact lfs_15
  have ffs_16_11 : fs_16[11]? = some (.int 0) := by rw [← efs_16]; exact p1_sa lfs_15 (by decide)
  refine lv_aload_n hx hb dX0_init_69 rfl (lv_at hl 0 rfl) ?_
  refine lv_iconst (v := 0) hx hb dX0_init_70 (by decide) ?_
  refine va_put (D := (dC, dI)) (ci := 0) (v := .int 0) (ty := .int) (C := RX0) (T := TX0) (N := 15) hx hb hts i_X0 tyX0 tyX0_ok nmX0 hown hK hP hD hS 0 rfl rfl 12 (by decide) k_16 (fun _ h9 => h9) rfl (by decide +kernel) rfl rfl (by rw [lfs_16]; decide) dX0_init_71 (fun H locs hP hD hS => ?_)
  have hP : va_P (dC, dI) vwCl [(h0, .inr (0, (fs_16.set 12 (.int 0))))] H := hP
  have hD : va_D A [(h0, .inr (0, (fs_16.set 12 (.int 0))))] := hD
  generalize efs_17 : (fs_16.set 12 (.int 0)) = fs_17 at hP hD
  have lfs_17 : fs_17.length = 15 := by rw [← efs_17, List.length_set]; exact lfs_16
  have ffs_17_12 : fs_17[12]? = some (.int 0) := by rw [← efs_17]; exact p1_sa lfs_16 (by decide)
  refine lv_aload_n hx hb dX0_init_74 rfl (lv_at hl 0 rfl) ?_
  refine lv_iconst (v := 0) hx hb dX0_init_75 (by decide) ?_
  refine va_put (D := (dC, dI)) (ci := 0) (v := .int 0) (ty := .int) (C := RX0) (T := TX0) (N := 15) hx hb hts i_X0 tyX0 tyX0_ok nmX0 hown hK hP hD hS 0 rfl rfl 13 (by decide) k_17 (fun _ h9 => h9) rfl (by decide +kernel) rfl rfl (by rw [lfs_17]; decide) dX0_init_76 (fun H locs hP hD hS => ?_)
  have hP : va_P (dC, dI) vwCl [(h0, .inr (0, (fs_17.set 13 (.int 0))))] H := hP
  have hD : va_D A [(h0, .inr (0, (fs_17.set 13 (.int 0))))] := hD
  generalize efs_18 : (fs_17.set 13 (.int 0)) = fs_18 at hP hD
  have lfs_18 : fs_18.length = 15 := by rw [← efs_18, List.length_set]; exact lfs_17
  have ffs_18_13 : fs_18[13]? = some (.int 0) := by rw [← efs_18]; exact p1_sa lfs_17 (by decide)
  refine lv_aload_n hx hb dX0_init_79 rfl (lv_at hl 0 rfl) ?_
  refine lv_iconst (v := 0) hx hb dX0_init_80 (by decide) ?_
  refine va_put (D := (dC, dI)) (ci := 0) (v := .int 0) (ty := .int) (C := RX0) (T := TX0) (N := 15) hx hb hts i_X0 tyX0 tyX0_ok nmX0 hown hK hP hD hS 0 rfl rfl 14 (by decide) k_18 (fun _ h9 => h9) rfl (by decide +kernel) rfl rfl (by rw [lfs_18]; decide) dX0_init_81 (fun H locs hP hD hS => ?_)
  have hP : va_P (dC, dI) vwCl [(h0, .inr (0, (fs_18.set 14 (.int 0))))] H := hP
  have hD : va_D A [(h0, .inr (0, (fs_18.set 14 (.int 0))))] := hD
  generalize efs_19 : (fs_18.set 14 (.int 0)) = fs_19 at hP hD
  have lfs_19 : fs_19.length = 15 := by rw [← efs_19, List.length_set]; exact lfs_18
  have ffs_19_14 : fs_19[14]? = some (.int 0) := by rw [← efs_19]; exact p1_sa lfs_18 (by decide)
  have hP9 := hP.sub (ws' := []) [] rfl
  have hD9 := hD.sub (ws' := []) [] (by decide) rfl
  have hK9 := hK.sub (tys' := []) [] rfl
  exact W.vret hx hb hr (fun t ht hW => ⟨⟨(), rfl, trivial, by rw [ht]; exact hP9, va_K.moved hW.alike hK9, hD9⟩, hS.F ht⟩) hS.2.2 dX0_init_84
def zo_n_Films : List Cond := [.code yX2_init cX2_init 1 none, .methodLink RX2 1 objectInit, .instanceMethod objectInit, .code objectInit ⟨#[0xb1]⟩ 1 none, .arrayClass .int, .fieldLink RX2 9 "BowWalk$Films" "knot" "[I", .fieldLink RX2 13 "BowWalk$Films" "walk" "[I", .fieldLink RX2 16 "BowWalk$Films" "steps" "[I", .fieldLink RX2 19 "BowWalk$Films" "lets" "[I", .arrayClass .boolean, .fieldLink RX2 22 "BowWalk$Films" "untold" "[Z", .fieldLink RX2 26 "BowWalk$Films" "untoldAt" "[I", .fieldLink RX2 29 "BowWalk$Films" "toldAt" "[I", .fieldLink RX2 32 "BowWalk$Films" "count" "I"]
def zw_n_Films : List Cond := zo_n_Films ++ (wsX20 ++ [])
theorem gz_n_Films : zw_n_Films.all goodWord = true := p1_ga (by decide +kernel) (p1_ga gk_X2 p1_g0)
theorem iz_n_Films : ∀ w ∈ zw_n_Films, w ∈ lw_tbl := p1_ia (p1_all [441, 442, 126, 127, 173, 443, 445, 447, 449, 253, 451, 453, 455, 456] (by decide +kernel)) (p1_ia ik_X2 p1_i0)
set_option maxHeartbeats 4000000 in
set_option maxRecDepth 100000 in
theorem n_Films (l : Launch) (dC : Nat → ClassId) (dI : Nat → Nat → Nat) (sz : Nat) (h0 : Nat) (fs : List Value) (l_fs : fs.length = 8) : Met l yX2_init zw_n_Films ({ frames := 1, cells := 7, slots := 280, locals := 20 }) (va_Pc [.ref h0] (fun U => U.heap.size = sz ∧ va_P (dC, dI) vwCl [(h0, .inr (2, fs))] U.heap ∧ va_K (dC, dI) vwCl [] U ∧ va_D (fun _ => True) [(h0, .inr (2, fs))])) (va_Qv (fun (_ : Unit) => True) (fun _ t => ∃ (fo : List Value), fo.length = 8 ∧ fo[7]? = some (.int 0) ∧ va_P (dC, dI) vwCl [(h0, .inr (2, fo))] t.heap ∧ va_K (dC, dI) vwCl [] t ∧ va_D (va_A [(h0, .inr (2, fs))] sz) [(h0, .inr (2, fo))]) (va_A [(h0, .inr (2, fs))] sz)) 7 280 (va_A [(h0, .inr (2, fs))] sz) := by
  refine Met.ofW (cc := cX2_init) (maxL := 1) (ret := none) (by decide) rfl ?_
  intro p e s m args below meth c s₁ B hml hv
  obtain ⟨rfl, hsz, hP, hK, hD0⟩ := hv
  have hx := B.exec
  have hb := B.bytes
  have hr := B.returns
  have hts := atoms_spec (ws := zw_n_Films) B.pre
  have hown : s.vm.findClass RX2 = some m.cls := findClass_of_methodNamed B.named
  have hlocks := B.notSynchronized
  have hin : meth.name = "<init>" := (name_of_methodNamed B.named B.method).1
  subst hsz
  have hD := hD0.self (sz := s.heap.size)
  generalize hAe : va_A [(h0, .inr (2, fs))] s.heap.size = A at hD ⊢
  have hA : ∀ q : Nat, s.heap.size ≤ q → A q := fun q h => by rw [← hAe]; exact Or.inr h
  have hS : va_S A s.heap s.heap [] := va_S.rf
  have hP : va_P (dC, dI) vwCl [(h0, .inr (2, fs))] s.heap := hP
  have m_0 : (.methodLink RX2 1 objectInit : Cond) ∈ zw_n_Films := List.mem_append_left _ (List.mem_of_getElem? (i := 1) rfl)
  have k_0 := hts _ m_0
  have m_1 : (.instanceMethod objectInit : Cond) ∈ zw_n_Films := List.mem_append_left _ (List.mem_of_getElem? (i := 2) rfl)
  have k_1 := hts _ m_1
  have m_2 : (.code objectInit ⟨#[0xb1]⟩ 1 none : Cond) ∈ zw_n_Films := List.mem_append_left _ (List.mem_of_getElem? (i := 3) rfl)
  have k_2 := hts _ m_2
  have m_3 : (.arrayClass .int : Cond) ∈ zw_n_Films := List.mem_append_left _ (List.mem_of_getElem? (i := 4) rfl)
  have k_3 := hts _ m_3
  have m_4 : (.fieldLink RX2 9 "BowWalk$Films" "knot" "[I" : Cond) ∈ zw_n_Films := List.mem_append_left _ (List.mem_of_getElem? (i := 5) rfl)
  have k_4 := hts _ m_4
  have m_5 : (.fieldLink RX2 13 "BowWalk$Films" "walk" "[I" : Cond) ∈ zw_n_Films := List.mem_append_left _ (List.mem_of_getElem? (i := 6) rfl)
  have k_5 := hts _ m_5
  have m_6 : (.fieldLink RX2 16 "BowWalk$Films" "steps" "[I" : Cond) ∈ zw_n_Films := List.mem_append_left _ (List.mem_of_getElem? (i := 7) rfl)
  have k_6 := hts _ m_6
  have m_7 : (.fieldLink RX2 19 "BowWalk$Films" "lets" "[I" : Cond) ∈ zw_n_Films := List.mem_append_left _ (List.mem_of_getElem? (i := 8) rfl)
  have k_7 := hts _ m_7
  have m_8 : (.arrayClass .boolean : Cond) ∈ zw_n_Films := List.mem_append_left _ (List.mem_of_getElem? (i := 9) rfl)
  have k_8 := hts _ m_8
  have m_9 : (.fieldLink RX2 22 "BowWalk$Films" "untold" "[Z" : Cond) ∈ zw_n_Films := List.mem_append_left _ (List.mem_of_getElem? (i := 10) rfl)
  have k_9 := hts _ m_9
  have m_10 : (.fieldLink RX2 26 "BowWalk$Films" "untoldAt" "[I" : Cond) ∈ zw_n_Films := List.mem_append_left _ (List.mem_of_getElem? (i := 11) rfl)
  have k_10 := hts _ m_10
  have m_11 : (.fieldLink RX2 29 "BowWalk$Films" "toldAt" "[I" : Cond) ∈ zw_n_Films := List.mem_append_left _ (List.mem_of_getElem? (i := 12) rfl)
  have k_11 := hts _ m_11
  have m_12 : (.fieldLink RX2 32 "BowWalk$Films" "count" "I" : Cond) ∈ zw_n_Films := List.mem_append_left _ (List.mem_of_getElem? (i := 13) rfl)
  have k_12 := hts _ m_12
  have i_X2 : ∀ w ∈ u_ws RX2 TX2 8, w ∈ zw_n_Films := fun w h => List.mem_append_right _ (List.mem_append_left _ h)
  have hl := lv_entry ([.ref h0]) (n := 1) (Nat.le_of_ble_eq_true rfl)
  rw [lg_entry_eq]
  generalize (lg_sl ([.ref h0]) ++ List.replicate (1 - (lg_sl ([.ref h0])).length) Slot.unset).toArray = ls at hl ⊢
  have hl : lv_has ls 1 [(0, .ref h0)] := hl
  refine lv_aload_n hx hb dX2_init_0 rfl (lv_at hl 0 rfl) ?_
  refine W.objInit hx hb hown k_0 k_1 k_2 rfl (by rw [hml]; exact hl.1) rfl dX2_init_1 (Nat.le_of_ble_eq_true rfl) (Nat.le_of_ble_eq_true rfl) ?_
  refine W.eq (g2 := F0 m 4 ls []) rfl ?_
  refine lv_aload_n hx hb dX2_init_4 rfl (lv_at hl 0 rfl) ?_
  refine lv_bipush (v := 40) hx hb dX2_init_5 (by decide) ?_
  refine va_newa (atype := .int) (ty := .int) (N' := 40) (a0 := (40, .inl (fun _ => 0))) hx hb k_3 rfl hK hP hD hS hA (fun _ => rfl) (by decide) rfl (by decide) (by decide) (by decide) dX2_init_7 (fun q_1 cA_2 H hK hP hD hS => ?_)
  have hP : va_P (dC, dI) vwCl [(h0, .inr (2, fs)), (q_1, .inl (cA_2, 40, .inl (fun _ => 0)))] H := hP
  have hD : va_D A [(h0, .inr (2, fs)), (q_1, .inl (cA_2, 40, .inl (fun _ => 0)))] := hD
  have hK : va_K (dC, dI) vwCl [(cA_2, .int)] s := hK
  refine W.widen (k := 1) (n := 40) (by decide) (by decide) ?_
  refine va_putF (D := (dC, dI)) (ci := 2) (v := .ref q_1) (ty := .array .int) (C := RX2) (T := TX2) (N := 8) hx hb hts i_X2 tyX2 tyX2_ok nmX2 hown hK hP hD hS 0 rfl rfl 0 (by decide) k_4 (fun _ h9 => h9) rfl hin rfl (by decide +kernel) rfl rfl (by rw [l_fs]; decide) dX2_init_9 (fun H locs hP hD hS => ?_)
  have hP : va_P (dC, dI) vwCl [(h0, .inr (2, (fs.set 0 (.ref q_1)))), (q_1, .inl (cA_2, 40, .inl (fun _ => 0)))] H := hP
  have hD : va_D A [(h0, .inr (2, (fs.set 0 (.ref q_1)))), (q_1, .inl (cA_2, 40, .inl (fun _ => 0)))] := hD
  generalize efs_3 : (fs.set 0 (.ref q_1)) = fs_3 at hP hD
  have lfs_3 : fs_3.length = 8 := by rw [← efs_3, List.length_set]; exact l_fs
  have ffs_3_0 : fs_3[0]? = some (.ref q_1) := by rw [← efs_3]; exact p1_sa l_fs (by decide)
  have hP := hP.sub (ws' := [(h0, .inr (2, fs_3))]) [0] rfl
  have hD := hD.sub (ws' := [(h0, .inr (2, fs_3))]) [0] (by decide) rfl
  have hK := hK.sub (tys' := []) [] rfl
  refine lv_aload_n hx hb dX2_init_12 rfl (lv_at hl 0 rfl) ?_
  refine lv_bipush (v := 40) hx hb dX2_init_13 (by decide) ?_
  refine va_newa (atype := .int) (ty := .int) (N' := 40) (a0 := (40, .inl (fun _ => 0))) hx hb k_3 rfl hK hP hD hS hA (fun _ => rfl) (by decide) rfl (by decide) (by decide) (by decide) dX2_init_15 (fun q_4 cA_5 H hK hP hD hS => ?_)
  have hP : va_P (dC, dI) vwCl [(h0, .inr (2, fs_3)), (q_4, .inl (cA_5, 40, .inl (fun _ => 0)))] H := hP
  have hD : va_D A [(h0, .inr (2, fs_3)), (q_4, .inl (cA_5, 40, .inl (fun _ => 0)))] := hD
  have hK : va_K (dC, dI) vwCl [(cA_5, .int)] s := hK
  refine W.widen (k := 2) (n := 80) (by decide) (by decide) ?_
  refine va_putF (D := (dC, dI)) (ci := 2) (v := .ref q_4) (ty := .array .int) (C := RX2) (T := TX2) (N := 8) hx hb hts i_X2 tyX2 tyX2_ok nmX2 hown hK hP hD hS 0 rfl rfl 1 (by decide) k_5 (fun _ h9 => h9) rfl hin rfl (by decide +kernel) rfl rfl (by rw [lfs_3]; decide) dX2_init_17 (fun H locs hP hD hS => ?_)
  have hP : va_P (dC, dI) vwCl [(h0, .inr (2, (fs_3.set 1 (.ref q_4)))), (q_4, .inl (cA_5, 40, .inl (fun _ => 0)))] H := hP
  have hD : va_D A [(h0, .inr (2, (fs_3.set 1 (.ref q_4)))), (q_4, .inl (cA_5, 40, .inl (fun _ => 0)))] := hD
  generalize efs_6 : (fs_3.set 1 (.ref q_4)) = fs_6 at hP hD
  have lfs_6 : fs_6.length = 8 := by rw [← efs_6, List.length_set]; exact lfs_3
  have ffs_6_1 : fs_6[1]? = some (.ref q_4) := by rw [← efs_6]; exact p1_sa lfs_3 (by decide)
  have hP := hP.sub (ws' := [(h0, .inr (2, fs_6))]) [0] rfl
  have hD := hD.sub (ws' := [(h0, .inr (2, fs_6))]) [0] (by decide) rfl
  have hK := hK.sub (tys' := []) [] rfl
  refine lv_aload_n hx hb dX2_init_20 rfl (lv_at hl 0 rfl) ?_
  refine lv_bipush (v := 40) hx hb dX2_init_21 (by decide) ?_
  refine va_newa (atype := .int) (ty := .int) (N' := 40) (a0 := (40, .inl (fun _ => 0))) hx hb k_3 rfl hK hP hD hS hA (fun _ => rfl) (by decide) rfl (by decide) (by decide) (by decide) dX2_init_23 (fun q_7 cA_8 H hK hP hD hS => ?_)
  have hP : va_P (dC, dI) vwCl [(h0, .inr (2, fs_6)), (q_7, .inl (cA_8, 40, .inl (fun _ => 0)))] H := hP
  have hD : va_D A [(h0, .inr (2, fs_6)), (q_7, .inl (cA_8, 40, .inl (fun _ => 0)))] := hD
  have hK : va_K (dC, dI) vwCl [(cA_8, .int)] s := hK
  refine W.widen (k := 3) (n := 120) (by decide) (by decide) ?_
  refine va_putF (D := (dC, dI)) (ci := 2) (v := .ref q_7) (ty := .array .int) (C := RX2) (T := TX2) (N := 8) hx hb hts i_X2 tyX2 tyX2_ok nmX2 hown hK hP hD hS 0 rfl rfl 2 (by decide) k_6 (fun _ h9 => h9) rfl hin rfl (by decide +kernel) rfl rfl (by rw [lfs_6]; decide) dX2_init_25 (fun H locs hP hD hS => ?_)
  have hP : va_P (dC, dI) vwCl [(h0, .inr (2, (fs_6.set 2 (.ref q_7)))), (q_7, .inl (cA_8, 40, .inl (fun _ => 0)))] H := hP
  have hD : va_D A [(h0, .inr (2, (fs_6.set 2 (.ref q_7)))), (q_7, .inl (cA_8, 40, .inl (fun _ => 0)))] := hD
  generalize efs_9 : (fs_6.set 2 (.ref q_7)) = fs_9 at hP hD
  have lfs_9 : fs_9.length = 8 := by rw [← efs_9, List.length_set]; exact lfs_6
  have ffs_9_2 : fs_9[2]? = some (.ref q_7) := by rw [← efs_9]; exact p1_sa lfs_6 (by decide)
  have hP := hP.sub (ws' := [(h0, .inr (2, fs_9))]) [0] rfl
  have hD := hD.sub (ws' := [(h0, .inr (2, fs_9))]) [0] (by decide) rfl
  have hK := hK.sub (tys' := []) [] rfl
  refine lv_aload_n hx hb dX2_init_28 rfl (lv_at hl 0 rfl) ?_
  refine lv_bipush (v := 40) hx hb dX2_init_29 (by decide) ?_
  refine va_newa (atype := .int) (ty := .int) (N' := 40) (a0 := (40, .inl (fun _ => 0))) hx hb k_3 rfl hK hP hD hS hA (fun _ => rfl) (by decide) rfl (by decide) (by decide) (by decide) dX2_init_31 (fun q_10 cA_11 H hK hP hD hS => ?_)
  have hP : va_P (dC, dI) vwCl [(h0, .inr (2, fs_9)), (q_10, .inl (cA_11, 40, .inl (fun _ => 0)))] H := hP
  have hD : va_D A [(h0, .inr (2, fs_9)), (q_10, .inl (cA_11, 40, .inl (fun _ => 0)))] := hD
  have hK : va_K (dC, dI) vwCl [(cA_11, .int)] s := hK
  refine W.widen (k := 4) (n := 160) (by decide) (by decide) ?_
  refine va_putF (D := (dC, dI)) (ci := 2) (v := .ref q_10) (ty := .array .int) (C := RX2) (T := TX2) (N := 8) hx hb hts i_X2 tyX2 tyX2_ok nmX2 hown hK hP hD hS 0 rfl rfl 3 (by decide) k_7 (fun _ h9 => h9) rfl hin rfl (by decide +kernel) rfl rfl (by rw [lfs_9]; decide) dX2_init_33 (fun H locs hP hD hS => ?_)
  have hP : va_P (dC, dI) vwCl [(h0, .inr (2, (fs_9.set 3 (.ref q_10)))), (q_10, .inl (cA_11, 40, .inl (fun _ => 0)))] H := hP
  have hD : va_D A [(h0, .inr (2, (fs_9.set 3 (.ref q_10)))), (q_10, .inl (cA_11, 40, .inl (fun _ => 0)))] := hD
  generalize efs_12 : (fs_9.set 3 (.ref q_10)) = fs_12 at hP hD
  have lfs_12 : fs_12.length = 8 := by rw [← efs_12, List.length_set]; exact lfs_9
  have ffs_12_3 : fs_12[3]? = some (.ref q_10) := by rw [← efs_12]; exact p1_sa lfs_9 (by decide)
  have hP := hP.sub (ws' := [(h0, .inr (2, fs_12))]) [0] rfl
  have hD := hD.sub (ws' := [(h0, .inr (2, fs_12))]) [0] (by decide) rfl
  have hK := hK.sub (tys' := []) [] rfl
  refine lv_aload_n hx hb dX2_init_36 rfl (lv_at hl 0 rfl) ?_
  refine lv_bipush (v := 40) hx hb dX2_init_37 (by decide) ?_
  refine va_newa (atype := .boolean) (ty := .boolean) (N' := 40) (a0 := (40, .inl (fun _ => 0))) hx hb k_8 rfl hK hP hD hS hA (fun _ => rfl) (by decide) rfl (by decide) (by decide) (by decide) dX2_init_39 (fun q_13 cA_14 H hK hP hD hS => ?_)
  have hP : va_P (dC, dI) vwCl [(h0, .inr (2, fs_12)), (q_13, .inl (cA_14, 40, .inl (fun _ => 0)))] H := hP
  have hD : va_D A [(h0, .inr (2, fs_12)), (q_13, .inl (cA_14, 40, .inl (fun _ => 0)))] := hD
  have hK : va_K (dC, dI) vwCl [(cA_14, .boolean)] s := hK
  refine W.widen (k := 5) (n := 200) (by decide) (by decide) ?_
  refine va_putF (D := (dC, dI)) (ci := 2) (v := .ref q_13) (ty := .array .boolean) (C := RX2) (T := TX2) (N := 8) hx hb hts i_X2 tyX2 tyX2_ok nmX2 hown hK hP hD hS 0 rfl rfl 4 (by decide) k_9 (fun _ h9 => h9) rfl hin rfl (by decide +kernel) rfl rfl (by rw [lfs_12]; decide) dX2_init_41 (fun H locs hP hD hS => ?_)
  have hP : va_P (dC, dI) vwCl [(h0, .inr (2, (fs_12.set 4 (.ref q_13)))), (q_13, .inl (cA_14, 40, .inl (fun _ => 0)))] H := hP
  have hD : va_D A [(h0, .inr (2, (fs_12.set 4 (.ref q_13)))), (q_13, .inl (cA_14, 40, .inl (fun _ => 0)))] := hD
  generalize efs_15 : (fs_12.set 4 (.ref q_13)) = fs_15 at hP hD
  have lfs_15 : fs_15.length = 8 := by rw [← efs_15, List.length_set]; exact lfs_12
  have ffs_15_4 : fs_15[4]? = some (.ref q_13) := by rw [← efs_15]; exact p1_sa lfs_12 (by decide)
  have hP := hP.sub (ws' := [(h0, .inr (2, fs_15))]) [0] rfl
  have hD := hD.sub (ws' := [(h0, .inr (2, fs_15))]) [0] (by decide) rfl
  have hK := hK.sub (tys' := []) [] rfl
  refine lv_aload_n hx hb dX2_init_44 rfl (lv_at hl 0 rfl) ?_
  refine lv_bipush (v := 40) hx hb dX2_init_45 (by decide) ?_
  refine va_newa (atype := .int) (ty := .int) (N' := 40) (a0 := (40, .inl (fun _ => 0))) hx hb k_3 rfl hK hP hD hS hA (fun _ => rfl) (by decide) rfl (by decide) (by decide) (by decide) dX2_init_47 (fun q_16 cA_17 H hK hP hD hS => ?_)
  have hP : va_P (dC, dI) vwCl [(h0, .inr (2, fs_15)), (q_16, .inl (cA_17, 40, .inl (fun _ => 0)))] H := hP
  have hD : va_D A [(h0, .inr (2, fs_15)), (q_16, .inl (cA_17, 40, .inl (fun _ => 0)))] := hD
  have hK : va_K (dC, dI) vwCl [(cA_17, .int)] s := hK
  refine W.widen (k := 6) (n := 240) (by decide) (by decide) ?_
  refine va_putF (D := (dC, dI)) (ci := 2) (v := .ref q_16) (ty := .array .int) (C := RX2) (T := TX2) (N := 8) hx hb hts i_X2 tyX2 tyX2_ok nmX2 hown hK hP hD hS 0 rfl rfl 5 (by decide) k_10 (fun _ h9 => h9) rfl hin rfl (by decide +kernel) rfl rfl (by rw [lfs_15]; decide) dX2_init_49 (fun H locs hP hD hS => ?_)
  have hP : va_P (dC, dI) vwCl [(h0, .inr (2, (fs_15.set 5 (.ref q_16)))), (q_16, .inl (cA_17, 40, .inl (fun _ => 0)))] H := hP
  have hD : va_D A [(h0, .inr (2, (fs_15.set 5 (.ref q_16)))), (q_16, .inl (cA_17, 40, .inl (fun _ => 0)))] := hD
  generalize efs_18 : (fs_15.set 5 (.ref q_16)) = fs_18 at hP hD
  have lfs_18 : fs_18.length = 8 := by rw [← efs_18, List.length_set]; exact lfs_15
  have ffs_18_5 : fs_18[5]? = some (.ref q_16) := by rw [← efs_18]; exact p1_sa lfs_15 (by decide)
  have hP := hP.sub (ws' := [(h0, .inr (2, fs_18))]) [0] rfl
  have hD := hD.sub (ws' := [(h0, .inr (2, fs_18))]) [0] (by decide) rfl
  have hK := hK.sub (tys' := []) [] rfl
  refine lv_aload_n hx hb dX2_init_52 rfl (lv_at hl 0 rfl) ?_
  refine lv_bipush (v := 40) hx hb dX2_init_53 (by decide) ?_
  refine va_newa (atype := .int) (ty := .int) (N' := 40) (a0 := (40, .inl (fun _ => 0))) hx hb k_3 rfl hK hP hD hS hA (fun _ => rfl) (by decide) rfl (by decide) (by decide) (by decide) dX2_init_55 (fun q_19 cA_20 H hK hP hD hS => ?_)
  have hP : va_P (dC, dI) vwCl [(h0, .inr (2, fs_18)), (q_19, .inl (cA_20, 40, .inl (fun _ => 0)))] H := hP
  have hD : va_D A [(h0, .inr (2, fs_18)), (q_19, .inl (cA_20, 40, .inl (fun _ => 0)))] := hD
  have hK : va_K (dC, dI) vwCl [(cA_20, .int)] s := hK
  refine W.widen (k := 7) (n := 280) (by decide) (by decide) ?_
  refine va_putF (D := (dC, dI)) (ci := 2) (v := .ref q_19) (ty := .array .int) (C := RX2) (T := TX2) (N := 8) hx hb hts i_X2 tyX2 tyX2_ok nmX2 hown hK hP hD hS 0 rfl rfl 6 (by decide) k_11 (fun _ h9 => h9) rfl hin rfl (by decide +kernel) rfl rfl (by rw [lfs_18]; decide) dX2_init_57 (fun H locs hP hD hS => ?_)
  have hP : va_P (dC, dI) vwCl [(h0, .inr (2, (fs_18.set 6 (.ref q_19)))), (q_19, .inl (cA_20, 40, .inl (fun _ => 0)))] H := hP
  have hD : va_D A [(h0, .inr (2, (fs_18.set 6 (.ref q_19)))), (q_19, .inl (cA_20, 40, .inl (fun _ => 0)))] := hD
  generalize efs_21 : (fs_18.set 6 (.ref q_19)) = fs_21 at hP hD
  have lfs_21 : fs_21.length = 8 := by rw [← efs_21, List.length_set]; exact lfs_18
  have ffs_21_6 : fs_21[6]? = some (.ref q_19) := by rw [← efs_21]; exact p1_sa lfs_18 (by decide)
  have hP := hP.sub (ws' := [(h0, .inr (2, fs_21))]) [0] rfl
  have hD := hD.sub (ws' := [(h0, .inr (2, fs_21))]) [0] (by decide) rfl
  have hK := hK.sub (tys' := []) [] rfl
  refine lv_aload_n hx hb dX2_init_60 rfl (lv_at hl 0 rfl) ?_
  refine lv_iconst (v := 0) hx hb dX2_init_61 (by decide) ?_
  refine va_put (D := (dC, dI)) (ci := 2) (v := .int 0) (ty := .int) (C := RX2) (T := TX2) (N := 8) hx hb hts i_X2 tyX2 tyX2_ok nmX2 hown hK hP hD hS 0 rfl rfl 7 (by decide) k_12 (fun _ h9 => h9) rfl (by decide +kernel) rfl rfl (by rw [lfs_21]; decide) dX2_init_62 (fun H locs hP hD hS => ?_)
  have hP : va_P (dC, dI) vwCl [(h0, .inr (2, (fs_21.set 7 (.int 0))))] H := hP
  have hD : va_D A [(h0, .inr (2, (fs_21.set 7 (.int 0))))] := hD
  generalize efs_22 : (fs_21.set 7 (.int 0)) = fs_22 at hP hD
  have lfs_22 : fs_22.length = 8 := by rw [← efs_22, List.length_set]; exact lfs_21
  have ffs_22_7 : fs_22[7]? = some (.int 0) := by rw [← efs_22]; exact p1_sa lfs_21 (by decide)
  have hP9 := hP.sub (ws' := [(h0, .inr (2, fs_22))]) [0] rfl
  have hD9 := hD.sub (ws' := [(h0, .inr (2, fs_22))]) [0] (by decide) rfl
  have hK9 := hK.sub (tys' := []) [] rfl
  exact W.vret hx hb hr (fun t ht hW => ⟨⟨(), rfl, trivial, fs_22, lfs_22, ffs_22_7, by rw [ht]; exact hP9, va_K.moved hW.alike hK9, hD9⟩, hS.F ht⟩) hS.2.2 dX2_init_65
def zo_n_Laws : List Cond := [.code yX3_init cX3_init 1 none, .methodLink RX3 1 objectInit, .instanceMethod objectInit, .code objectInit ⟨#[0xb1]⟩ 1 none, .arrayClass .int, .fieldLink RX3 9 "BowWalk$Laws" "code" "[I", .fieldLink RX3 15 "BowWalk$Laws" "behind" "[I", .fieldLink RX3 18 "BowWalk$Laws" "stack" "[I", .fieldLink RX3 21 "BowWalk$Laws" "used" "I", .fieldLink RX3 25 "BowWalk$Laws" "rows" "I", .fieldLink RX3 28 "BowWalk$Laws" "units" "I"]
def zw_n_Laws : List Cond := zo_n_Laws ++ (wsX30 ++ [])
theorem gz_n_Laws : zw_n_Laws.all goodWord = true := p1_ga (by decide +kernel) (p1_ga gk_X3 p1_g0)
theorem iz_n_Laws : ∀ w ∈ zw_n_Laws, w ∈ lw_tbl := p1_ia (p1_all [148, 149, 126, 127, 173, 150, 151, 152, 153, 154, 155] (by decide +kernel)) (p1_ia ik_X3 p1_i0)
set_option maxHeartbeats 4000000 in
set_option maxRecDepth 100000 in
theorem n_Laws (l : Launch) (dC : Nat → ClassId) (dI : Nat → Nat → Nat) (sz : Nat) (h0 : Nat) (fs : List Value) (l_fs : fs.length = 6) : Met l yX3_init zw_n_Laws ({ frames := 1, cells := 3, slots := 666, locals := 20 }) (va_Pc [.ref h0] (fun U => U.heap.size = sz ∧ va_P (dC, dI) vwCl [(h0, .inr (3, fs))] U.heap ∧ va_K (dC, dI) vwCl [] U ∧ va_D (fun _ => True) [(h0, .inr (3, fs))])) (va_Qv (fun (_ : Unit) => True) (fun _ t => ∃ (fo : List Value) (lc : Nat) (lb : Nat) (cc1 : ClassId) (cb1 : ClassId), fo.length = 6 ∧ fo[0]? = some (.ref lc) ∧ fo[1]? = some (.ref lb) ∧ fo[3]? = some (.int 0) ∧ fo[4]? = some (.int 0) ∧ fo[5]? = some (.int 0) ∧ va_P (dC, dI) vwCl [(h0, .inr (3, fo)), (lc, .inl (cc1, 600, .inl (fun _ => 0))), (lb, .inl (cb1, 6, .inl (fun _ => 0)))] t.heap ∧ va_K (dC, dI) vwCl [(cc1, .int), (cb1, .int)] t ∧ va_D (va_A [(h0, .inr (3, fs))] sz) [(h0, .inr (3, fo)), (lc, .inl (cc1, 600, .inl (fun _ => 0))), (lb, .inl (cb1, 6, .inl (fun _ => 0)))]) (va_A [(h0, .inr (3, fs))] sz)) 3 666 (va_A [(h0, .inr (3, fs))] sz) := by
  refine Met.ofW (cc := cX3_init) (maxL := 1) (ret := none) (by decide) rfl ?_
  intro p e s m args below meth c s₁ B hml hv
  obtain ⟨rfl, hsz, hP, hK, hD0⟩ := hv
  have hx := B.exec
  have hb := B.bytes
  have hr := B.returns
  have hts := atoms_spec (ws := zw_n_Laws) B.pre
  have hown : s.vm.findClass RX3 = some m.cls := findClass_of_methodNamed B.named
  have hlocks := B.notSynchronized
  have hin : meth.name = "<init>" := (name_of_methodNamed B.named B.method).1
  subst hsz
  have hD := hD0.self (sz := s.heap.size)
  generalize hAe : va_A [(h0, .inr (3, fs))] s.heap.size = A at hD ⊢
  have hA : ∀ q : Nat, s.heap.size ≤ q → A q := fun q h => by rw [← hAe]; exact Or.inr h
  have hS : va_S A s.heap s.heap [] := va_S.rf
  have hP : va_P (dC, dI) vwCl [(h0, .inr (3, fs))] s.heap := hP
  have m_0 : (.methodLink RX3 1 objectInit : Cond) ∈ zw_n_Laws := List.mem_append_left _ (List.mem_of_getElem? (i := 1) rfl)
  have k_0 := hts _ m_0
  have m_1 : (.instanceMethod objectInit : Cond) ∈ zw_n_Laws := List.mem_append_left _ (List.mem_of_getElem? (i := 2) rfl)
  have k_1 := hts _ m_1
  have m_2 : (.code objectInit ⟨#[0xb1]⟩ 1 none : Cond) ∈ zw_n_Laws := List.mem_append_left _ (List.mem_of_getElem? (i := 3) rfl)
  have k_2 := hts _ m_2
  have m_3 : (.arrayClass .int : Cond) ∈ zw_n_Laws := List.mem_append_left _ (List.mem_of_getElem? (i := 4) rfl)
  have k_3 := hts _ m_3
  have m_4 : (.fieldLink RX3 9 "BowWalk$Laws" "code" "[I" : Cond) ∈ zw_n_Laws := List.mem_append_left _ (List.mem_of_getElem? (i := 5) rfl)
  have k_4 := hts _ m_4
  have m_5 : (.fieldLink RX3 15 "BowWalk$Laws" "behind" "[I" : Cond) ∈ zw_n_Laws := List.mem_append_left _ (List.mem_of_getElem? (i := 6) rfl)
  have k_5 := hts _ m_5
  have m_6 : (.fieldLink RX3 18 "BowWalk$Laws" "stack" "[I" : Cond) ∈ zw_n_Laws := List.mem_append_left _ (List.mem_of_getElem? (i := 7) rfl)
  have k_6 := hts _ m_6
  have m_7 : (.fieldLink RX3 21 "BowWalk$Laws" "used" "I" : Cond) ∈ zw_n_Laws := List.mem_append_left _ (List.mem_of_getElem? (i := 8) rfl)
  have k_7 := hts _ m_7
  have m_8 : (.fieldLink RX3 25 "BowWalk$Laws" "rows" "I" : Cond) ∈ zw_n_Laws := List.mem_append_left _ (List.mem_of_getElem? (i := 9) rfl)
  have k_8 := hts _ m_8
  have m_9 : (.fieldLink RX3 28 "BowWalk$Laws" "units" "I" : Cond) ∈ zw_n_Laws := List.mem_append_left _ (List.mem_of_getElem? (i := 10) rfl)
  have k_9 := hts _ m_9
  have i_X3 : ∀ w ∈ u_ws RX3 TX3 6, w ∈ zw_n_Laws := fun w h => List.mem_append_right _ (List.mem_append_left _ h)
  have hl := lv_entry ([.ref h0]) (n := 1) (Nat.le_of_ble_eq_true rfl)
  rw [lg_entry_eq]
  generalize (lg_sl ([.ref h0]) ++ List.replicate (1 - (lg_sl ([.ref h0])).length) Slot.unset).toArray = ls at hl ⊢
  have hl : lv_has ls 1 [(0, .ref h0)] := hl
  refine lv_aload_n hx hb dX3_init_0 rfl (lv_at hl 0 rfl) ?_
  refine W.objInit hx hb hown k_0 k_1 k_2 rfl (by rw [hml]; exact hl.1) rfl dX3_init_1 (Nat.le_of_ble_eq_true rfl) (Nat.le_of_ble_eq_true rfl) ?_
  refine W.eq (g2 := F0 m 4 ls []) rfl ?_
  refine lv_aload_n hx hb dX3_init_4 rfl (lv_at hl 0 rfl) ?_
  refine lv_sipush (v := 600) hx hb dX3_init_5 (by decide) ?_
  refine va_newa (atype := .int) (ty := .int) (N' := 600) (a0 := (600, .inl (fun _ => 0))) hx hb k_3 rfl hK hP hD hS hA (fun _ => rfl) (by decide) rfl (by decide) (by decide) (by decide) dX3_init_8 (fun q_1 cA_2 H hK hP hD hS => ?_)
  have hP : va_P (dC, dI) vwCl [(h0, .inr (3, fs)), (q_1, .inl (cA_2, 600, .inl (fun _ => 0)))] H := hP
  have hD : va_D A [(h0, .inr (3, fs)), (q_1, .inl (cA_2, 600, .inl (fun _ => 0)))] := hD
  have hK : va_K (dC, dI) vwCl [(cA_2, .int)] s := hK
  refine W.widen (k := 1) (n := 600) (by decide) (by decide) ?_
  refine va_putF (D := (dC, dI)) (ci := 3) (v := .ref q_1) (ty := .array .int) (C := RX3) (T := TX3) (N := 6) hx hb hts i_X3 tyX3 tyX3_ok nmX3 hown hK hP hD hS 0 rfl rfl 0 (by decide) k_4 (fun _ h9 => h9) rfl hin rfl (by decide +kernel) rfl rfl (by rw [l_fs]; decide) dX3_init_10 (fun H locs hP hD hS => ?_)
  have hP : va_P (dC, dI) vwCl [(h0, .inr (3, (fs.set 0 (.ref q_1)))), (q_1, .inl (cA_2, 600, .inl (fun _ => 0)))] H := hP
  have hD : va_D A [(h0, .inr (3, (fs.set 0 (.ref q_1)))), (q_1, .inl (cA_2, 600, .inl (fun _ => 0)))] := hD
  generalize efs_3 : (fs.set 0 (.ref q_1)) = fs_3 at hP hD
  have lfs_3 : fs_3.length = 6 := by rw [← efs_3, List.length_set]; exact l_fs
  have ffs_3_0 : fs_3[0]? = some (.ref q_1) := by rw [← efs_3]; exact p1_sa l_fs (by decide)
  refine lv_aload_n hx hb dX3_init_13 rfl (lv_at hl 0 rfl) ?_
  refine lv_bipush (v := 6) hx hb dX3_init_14 (by decide) ?_
  refine va_newa (atype := .int) (ty := .int) (N' := 6) (a0 := (6, .inl (fun _ => 0))) hx hb k_3 rfl hK hP hD hS hA (fun _ => rfl) (by decide) rfl (by decide) (by decide) (by decide) dX3_init_16 (fun q_4 cA_5 H hK hP hD hS => ?_)
  have hP : va_P (dC, dI) vwCl [(h0, .inr (3, fs_3)), (q_1, .inl (cA_2, 600, .inl (fun _ => 0))), (q_4, .inl (cA_5, 6, .inl (fun _ => 0)))] H := hP
  have hD : va_D A [(h0, .inr (3, fs_3)), (q_1, .inl (cA_2, 600, .inl (fun _ => 0))), (q_4, .inl (cA_5, 6, .inl (fun _ => 0)))] := hD
  have hK : va_K (dC, dI) vwCl [(cA_2, .int), (cA_5, .int)] s := hK
  refine W.widen (k := 2) (n := 606) (by decide) (by decide) ?_
  refine va_putF (D := (dC, dI)) (ci := 3) (v := .ref q_4) (ty := .array .int) (C := RX3) (T := TX3) (N := 6) hx hb hts i_X3 tyX3 tyX3_ok nmX3 hown hK hP hD hS 0 rfl rfl 1 (by decide) k_5 (fun _ h9 => h9) rfl hin rfl (by decide +kernel) rfl rfl (by rw [lfs_3]; decide) dX3_init_18 (fun H locs hP hD hS => ?_)
  have hP : va_P (dC, dI) vwCl [(h0, .inr (3, (fs_3.set 1 (.ref q_4)))), (q_1, .inl (cA_2, 600, .inl (fun _ => 0))), (q_4, .inl (cA_5, 6, .inl (fun _ => 0)))] H := hP
  have hD : va_D A [(h0, .inr (3, (fs_3.set 1 (.ref q_4)))), (q_1, .inl (cA_2, 600, .inl (fun _ => 0))), (q_4, .inl (cA_5, 6, .inl (fun _ => 0)))] := hD
  generalize efs_6 : (fs_3.set 1 (.ref q_4)) = fs_6 at hP hD
  have lfs_6 : fs_6.length = 6 := by rw [← efs_6, List.length_set]; exact lfs_3
  have ffs_6_0 : fs_6[0]? = some (.ref q_1) := by rw [← efs_6]; exact p1_sn (by decide) ffs_3_0
  have ffs_6_1 : fs_6[1]? = some (.ref q_4) := by rw [← efs_6]; exact p1_sa lfs_3 (by decide)
  refine lv_aload_n hx hb dX3_init_21 rfl (lv_at hl 0 rfl) ?_
  refine lv_bipush (v := 60) hx hb dX3_init_22 (by decide) ?_
  refine va_newa (atype := .int) (ty := .int) (N' := 60) (a0 := (60, .inl (fun _ => 0))) hx hb k_3 rfl hK hP hD hS hA (fun _ => rfl) (by decide) rfl (by decide) (by decide) (by decide) dX3_init_24 (fun q_7 cA_8 H hK hP hD hS => ?_)
  have hP : va_P (dC, dI) vwCl [(h0, .inr (3, fs_6)), (q_1, .inl (cA_2, 600, .inl (fun _ => 0))), (q_4, .inl (cA_5, 6, .inl (fun _ => 0))), (q_7, .inl (cA_8, 60, .inl (fun _ => 0)))] H := hP
  have hD : va_D A [(h0, .inr (3, fs_6)), (q_1, .inl (cA_2, 600, .inl (fun _ => 0))), (q_4, .inl (cA_5, 6, .inl (fun _ => 0))), (q_7, .inl (cA_8, 60, .inl (fun _ => 0)))] := hD
  have hK : va_K (dC, dI) vwCl [(cA_2, .int), (cA_5, .int), (cA_8, .int)] s := hK
  refine W.widen (k := 3) (n := 666) (by decide) (by decide) ?_
  refine va_putF (D := (dC, dI)) (ci := 3) (v := .ref q_7) (ty := .array .int) (C := RX3) (T := TX3) (N := 6) hx hb hts i_X3 tyX3 tyX3_ok nmX3 hown hK hP hD hS 0 rfl rfl 2 (by decide) k_6 (fun _ h9 => h9) rfl hin rfl (by decide +kernel) rfl rfl (by rw [lfs_6]; decide) dX3_init_26 (fun H locs hP hD hS => ?_)
  have hP : va_P (dC, dI) vwCl [(h0, .inr (3, (fs_6.set 2 (.ref q_7)))), (q_1, .inl (cA_2, 600, .inl (fun _ => 0))), (q_4, .inl (cA_5, 6, .inl (fun _ => 0))), (q_7, .inl (cA_8, 60, .inl (fun _ => 0)))] H := hP
  have hD : va_D A [(h0, .inr (3, (fs_6.set 2 (.ref q_7)))), (q_1, .inl (cA_2, 600, .inl (fun _ => 0))), (q_4, .inl (cA_5, 6, .inl (fun _ => 0))), (q_7, .inl (cA_8, 60, .inl (fun _ => 0)))] := hD
  generalize efs_9 : (fs_6.set 2 (.ref q_7)) = fs_9 at hP hD
  have lfs_9 : fs_9.length = 6 := by rw [← efs_9, List.length_set]; exact lfs_6
  have ffs_9_0 : fs_9[0]? = some (.ref q_1) := by rw [← efs_9]; exact p1_sn (by decide) ffs_6_0
  have ffs_9_1 : fs_9[1]? = some (.ref q_4) := by rw [← efs_9]; exact p1_sn (by decide) ffs_6_1
  have ffs_9_2 : fs_9[2]? = some (.ref q_7) := by rw [← efs_9]; exact p1_sa lfs_6 (by decide)
  have hP := hP.sub (ws' := [(h0, .inr (3, fs_9)), (q_1, .inl (cA_2, 600, .inl (fun _ => 0))), (q_4, .inl (cA_5, 6, .inl (fun _ => 0)))]) [0, 1, 2] rfl
  have hD := hD.sub (ws' := [(h0, .inr (3, fs_9)), (q_1, .inl (cA_2, 600, .inl (fun _ => 0))), (q_4, .inl (cA_5, 6, .inl (fun _ => 0)))]) [0, 1, 2] (by decide) rfl
  have hK := hK.sub (tys' := [(cA_2, .int), (cA_5, .int)]) [0, 1] rfl
  refine lv_aload_n hx hb dX3_init_29 rfl (lv_at hl 0 rfl) ?_
  refine lv_iconst (v := 0) hx hb dX3_init_30 (by decide) ?_
  refine va_put (D := (dC, dI)) (ci := 3) (v := .int 0) (ty := .int) (C := RX3) (T := TX3) (N := 6) hx hb hts i_X3 tyX3 tyX3_ok nmX3 hown hK hP hD hS 0 rfl rfl 3 (by decide) k_7 (fun _ h9 => h9) rfl (by decide +kernel) rfl rfl (by rw [lfs_9]; decide) dX3_init_31 (fun H locs hP hD hS => ?_)
  have hP : va_P (dC, dI) vwCl [(h0, .inr (3, (fs_9.set 3 (.int 0)))), (q_1, .inl (cA_2, 600, .inl (fun _ => 0))), (q_4, .inl (cA_5, 6, .inl (fun _ => 0)))] H := hP
  have hD : va_D A [(h0, .inr (3, (fs_9.set 3 (.int 0)))), (q_1, .inl (cA_2, 600, .inl (fun _ => 0))), (q_4, .inl (cA_5, 6, .inl (fun _ => 0)))] := hD
  generalize efs_10 : (fs_9.set 3 (.int 0)) = fs_10 at hP hD
  have lfs_10 : fs_10.length = 6 := by rw [← efs_10, List.length_set]; exact lfs_9
  have ffs_10_0 : fs_10[0]? = some (.ref q_1) := by rw [← efs_10]; exact p1_sn (by decide) ffs_9_0
  have ffs_10_1 : fs_10[1]? = some (.ref q_4) := by rw [← efs_10]; exact p1_sn (by decide) ffs_9_1
  have ffs_10_2 : fs_10[2]? = some (.ref q_7) := by rw [← efs_10]; exact p1_sn (by decide) ffs_9_2
  have ffs_10_3 : fs_10[3]? = some (.int 0) := by rw [← efs_10]; exact p1_sa lfs_9 (by decide)
  refine lv_aload_n hx hb dX3_init_34 rfl (lv_at hl 0 rfl) ?_
  refine lv_iconst (v := 0) hx hb dX3_init_35 (by decide) ?_
  refine va_put (D := (dC, dI)) (ci := 3) (v := .int 0) (ty := .int) (C := RX3) (T := TX3) (N := 6) hx hb hts i_X3 tyX3 tyX3_ok nmX3 hown hK hP hD hS 0 rfl rfl 4 (by decide) k_8 (fun _ h9 => h9) rfl (by decide +kernel) rfl rfl (by rw [lfs_10]; decide) dX3_init_36 (fun H locs hP hD hS => ?_)
  have hP : va_P (dC, dI) vwCl [(h0, .inr (3, (fs_10.set 4 (.int 0)))), (q_1, .inl (cA_2, 600, .inl (fun _ => 0))), (q_4, .inl (cA_5, 6, .inl (fun _ => 0)))] H := hP
  have hD : va_D A [(h0, .inr (3, (fs_10.set 4 (.int 0)))), (q_1, .inl (cA_2, 600, .inl (fun _ => 0))), (q_4, .inl (cA_5, 6, .inl (fun _ => 0)))] := hD
  generalize efs_11 : (fs_10.set 4 (.int 0)) = fs_11 at hP hD
  have lfs_11 : fs_11.length = 6 := by rw [← efs_11, List.length_set]; exact lfs_10
  have ffs_11_0 : fs_11[0]? = some (.ref q_1) := by rw [← efs_11]; exact p1_sn (by decide) ffs_10_0
  have ffs_11_1 : fs_11[1]? = some (.ref q_4) := by rw [← efs_11]; exact p1_sn (by decide) ffs_10_1
  have ffs_11_2 : fs_11[2]? = some (.ref q_7) := by rw [← efs_11]; exact p1_sn (by decide) ffs_10_2
  have ffs_11_3 : fs_11[3]? = some (.int 0) := by rw [← efs_11]; exact p1_sn (by decide) ffs_10_3
  have ffs_11_4 : fs_11[4]? = some (.int 0) := by rw [← efs_11]; exact p1_sa lfs_10 (by decide)
  refine lv_aload_n hx hb dX3_init_39 rfl (lv_at hl 0 rfl) ?_
  refine lv_iconst (v := 0) hx hb dX3_init_40 (by decide) ?_
  refine va_put (D := (dC, dI)) (ci := 3) (v := .int 0) (ty := .int) (C := RX3) (T := TX3) (N := 6) hx hb hts i_X3 tyX3 tyX3_ok nmX3 hown hK hP hD hS 0 rfl rfl 5 (by decide) k_9 (fun _ h9 => h9) rfl (by decide +kernel) rfl rfl (by rw [lfs_11]; decide) dX3_init_41 (fun H locs hP hD hS => ?_)
  have hP : va_P (dC, dI) vwCl [(h0, .inr (3, (fs_11.set 5 (.int 0)))), (q_1, .inl (cA_2, 600, .inl (fun _ => 0))), (q_4, .inl (cA_5, 6, .inl (fun _ => 0)))] H := hP
  have hD : va_D A [(h0, .inr (3, (fs_11.set 5 (.int 0)))), (q_1, .inl (cA_2, 600, .inl (fun _ => 0))), (q_4, .inl (cA_5, 6, .inl (fun _ => 0)))] := hD
  generalize efs_12 : (fs_11.set 5 (.int 0)) = fs_12 at hP hD
  have lfs_12 : fs_12.length = 6 := by rw [← efs_12, List.length_set]; exact lfs_11
  have ffs_12_0 : fs_12[0]? = some (.ref q_1) := by rw [← efs_12]; exact p1_sn (by decide) ffs_11_0
  have ffs_12_1 : fs_12[1]? = some (.ref q_4) := by rw [← efs_12]; exact p1_sn (by decide) ffs_11_1
  have ffs_12_2 : fs_12[2]? = some (.ref q_7) := by rw [← efs_12]; exact p1_sn (by decide) ffs_11_2
  have ffs_12_3 : fs_12[3]? = some (.int 0) := by rw [← efs_12]; exact p1_sn (by decide) ffs_11_3
  have ffs_12_4 : fs_12[4]? = some (.int 0) := by rw [← efs_12]; exact p1_sn (by decide) ffs_11_4
  have ffs_12_5 : fs_12[5]? = some (.int 0) := by rw [← efs_12]; exact p1_sa lfs_11 (by decide)
  have hP9 := hP.sub (ws' := [(h0, .inr (3, fs_12)), (q_1, .inl (cA_2, 600, .inl (fun _ => 0))), (q_4, .inl (cA_5, 6, .inl (fun _ => 0)))]) [0, 1, 2] rfl
  have hD9 := hD.sub (ws' := [(h0, .inr (3, fs_12)), (q_1, .inl (cA_2, 600, .inl (fun _ => 0))), (q_4, .inl (cA_5, 6, .inl (fun _ => 0)))]) [0, 1, 2] (by decide) rfl
  have hK9 := hK.sub (tys' := [(cA_2, .int), (cA_5, .int)]) [0, 1] rfl
  exact W.vret hx hb hr (fun t ht hW => ⟨⟨(), rfl, trivial, fs_12, q_1, q_4, cA_2, cA_5, lfs_12, ffs_12_0, ffs_12_1, ffs_12_3, ffs_12_4, ffs_12_5, by rw [ht]; exact hP9, va_K.moved hW.alike hK9, hD9⟩, hS.F ht⟩) hS.2.2 dX3_init_44
def zo_n_Box : List Cond := [.code yX1_init cX1_init 1 none, .methodLink RX1 1 objectInit, .instanceMethod objectInit, .code objectInit ⟨#[0xb1]⟩ 1 none, .classLink RX1 7 RX0, .instantiable RX0 15, .initialized RX0, .instanceMethod yX0_init, .fieldLink RX1 10 "BowWalk$Box" "bow" "LBowWalk$Bow;", .fieldLink RX1 16 "BowWalk$Box" "w" "I", .fieldLink RX1 20 "BowWalk$Box" "full" "Z"]
def zw_n_Box : List Cond := zo_n_Box ++ (zw_n_Bow ++ (wsX00 ++ (wsX10 ++ [])))
theorem gz_n_Box : zw_n_Box.all goodWord = true := p1_ga (by decide +kernel) (p1_ga gz_n_Bow (p1_ga gk_X0 (p1_ga gk_X1 p1_g0)))
theorem iz_n_Box : ∀ w ∈ zw_n_Box, w ∈ lw_tbl := p1_ia (p1_all [482, 483, 126, 127, 484, 345, 112, 347, 486, 488, 490] (by decide +kernel)) (p1_ia iz_n_Bow (p1_ia ik_X0 (p1_ia ik_X1 p1_i0)))
set_option maxHeartbeats 4000000 in
set_option maxRecDepth 100000 in
theorem n_Box (l : Launch) (dC : Nat → ClassId) (dI : Nat → Nat → Nat) (sz : Nat) (h0 : Nat) (fs : List Value) (l_fs : fs.length = 3) : Met l yX1_init zw_n_Box ({ frames := 2, cells := 3, slots := 29, locals := 40 }) (va_Pc [.ref h0] (fun U => U.heap.size = sz ∧ va_P (dC, dI) vwCl [(h0, .inr (1, fs))] U.heap ∧ va_K (dC, dI) vwCl [] U ∧ va_D (fun _ => True) [(h0, .inr (1, fs))] ∧ p1_ex (va_A [(h0, .inr (1, fs))] sz) U U.heap)) (va_Qv (fun (_ : Unit) => True) (fun _ t => ∃ (fo : List Value), fo.length = 3 ∧ fo[2]? = some (.int 0) ∧ va_P (dC, dI) vwCl [(h0, .inr (1, fo))] t.heap ∧ va_K (dC, dI) vwCl [] t ∧ va_D (va_A [(h0, .inr (1, fs))] sz) [(h0, .inr (1, fo))]) (va_A [(h0, .inr (1, fs))] sz)) 3 29 (va_A [(h0, .inr (1, fs))] sz) := by
  refine Met.ofW (cc := cX1_init) (maxL := 1) (ret := none) (by decide) rfl ?_
  intro p e s m args below meth c s₁ B hml hv
  obtain ⟨rfl, hsz, hP, hK, hD0, hE⟩ := hv
  have hx := B.exec
  have hb := B.bytes
  have hr := B.returns
  have hts := atoms_spec (ws := zw_n_Box) B.pre
  have hown : s.vm.findClass RX1 = some m.cls := findClass_of_methodNamed B.named
  have hlocks := B.notSynchronized
  have hin : meth.name = "<init>" := (name_of_methodNamed B.named B.method).1
  subst hsz
  have hD := hD0.self (sz := s.heap.size)
  generalize hAe : va_A [(h0, .inr (1, fs))] s.heap.size = A at hD hE ⊢
  have hA : ∀ q : Nat, s.heap.size ≤ q → A q := fun q h => by rw [← hAe]; exact Or.inr h
  have hS : va_S A s.heap s.heap [] := va_S.rf
  have hP : va_P (dC, dI) vwCl [(h0, .inr (1, fs))] s.heap := hP
  obtain ⟨sK, sV, ru, pu, sf, rf, pf, ⟨n1, n2, n3, n4, n5, n6, n7, n8, n9⟩, ⟨o1, o2, o3⟩, r1, ⟨t1, t2, t3, t4⟩, z1, z2, ⟨y1, y2⟩, ⟨w1, w2⟩⟩ := id hE
  have m_0 : (.methodLink RX1 1 objectInit : Cond) ∈ zw_n_Box := List.mem_append_left _ (List.mem_of_getElem? (i := 1) rfl)
  have k_0 := hts _ m_0
  have m_1 : (.instanceMethod objectInit : Cond) ∈ zw_n_Box := List.mem_append_left _ (List.mem_of_getElem? (i := 2) rfl)
  have k_1 := hts _ m_1
  have m_2 : (.code objectInit ⟨#[0xb1]⟩ 1 none : Cond) ∈ zw_n_Box := List.mem_append_left _ (List.mem_of_getElem? (i := 3) rfl)
  have k_2 := hts _ m_2
  have m_3 : (.classLink RX1 7 RX0 : Cond) ∈ zw_n_Box := List.mem_append_left _ (List.mem_of_getElem? (i := 4) rfl)
  have k_3 := hts _ m_3
  have m_4 : (.instantiable RX0 15 : Cond) ∈ zw_n_Box := List.mem_append_left _ (List.mem_of_getElem? (i := 5) rfl)
  have k_4 := hts _ m_4
  have m_5 : (.initialized RX0 : Cond) ∈ zw_n_Box := List.mem_append_left _ (List.mem_of_getElem? (i := 6) rfl)
  have k_5 := hts _ m_5
  have m_6 : (.instanceMethod yX0_init : Cond) ∈ zw_n_Box := List.mem_append_left _ (List.mem_of_getElem? (i := 7) rfl)
  have k_6 := hts _ m_6
  have m_7 : (.fieldLink RX1 10 "BowWalk$Box" "bow" "LBowWalk$Bow;" : Cond) ∈ zw_n_Box := List.mem_append_left _ (List.mem_of_getElem? (i := 8) rfl)
  have k_7 := hts _ m_7
  have m_8 : (.fieldLink RX1 16 "BowWalk$Box" "w" "I" : Cond) ∈ zw_n_Box := List.mem_append_left _ (List.mem_of_getElem? (i := 9) rfl)
  have k_8 := hts _ m_8
  have m_9 : (.fieldLink RX1 20 "BowWalk$Box" "full" "Z" : Cond) ∈ zw_n_Box := List.mem_append_left _ (List.mem_of_getElem? (i := 10) rfl)
  have k_9 := hts _ m_9
  have g_n_Bow : ∀ w ∈ zw_n_Bow, w ∈ zw_n_Box := fun w h => List.mem_append_right _ (List.mem_append_left _ h)
  have i_X0 : ∀ w ∈ u_ws RX0 TX0 15, w ∈ zw_n_Box := fun w h => List.mem_append_right _ (List.mem_append_right _ (List.mem_append_left _ h))
  have i_X1 : ∀ w ∈ u_ws RX1 TX1 3, w ∈ zw_n_Box := fun w h => List.mem_append_right _ (List.mem_append_right _ (List.mem_append_right _ (List.mem_append_left _ h)))
  have hl := lv_entry ([.ref h0]) (n := 1) (Nat.le_of_ble_eq_true rfl)
  rw [lg_entry_eq]
  generalize (lg_sl ([.ref h0]) ++ List.replicate (1 - (lg_sl ([.ref h0])).length) Slot.unset).toArray = ls at hl ⊢
  have hl : lv_has ls 1 [(0, .ref h0)] := hl
  refine lv_aload_n hx hb dX1_init_0 rfl (lv_at hl 0 rfl) ?_
  refine W.objInit hx hb hown k_0 k_1 k_2 rfl (by rw [hml]; exact hl.1) rfl dX1_init_1 (Nat.le_of_ble_eq_true rfl) (Nat.le_of_ble_eq_true rfl) ?_
  refine W.eq (g2 := F0 m 4 ls []) rfl ?_
  refine lv_aload_n hx hb dX1_init_4 rfl (lv_at hl 0 rfl) ?_
  refine va_new (ci := 0) (fs := [.null, .null, .int 0, .int 0, .int 0, .int 0, .int 0, .int 0, .int 0, .int 0, .int 0, .int 0, .int 0, .int 0, .int 0]) (C := RX0) (T := TX0) (N := 15) hx hb hts i_X0 tyX0 tyX0_ok hown k_3 k_4 k_5 hK hP hD hS hA rfl (by decide) (by decide) (by decide) dX1_init_5 (fun q_1 H hP hD hS => ?_)
  have hP : va_P (dC, dI) vwCl [(h0, .inr (1, fs)), (q_1, .inr (0, [.null, .null, .int 0, .int 0, .int 0, .int 0, .int 0, .int 0, .int 0, .int 0, .int 0, .int 0, .int 0, .int 0, .int 0]))] H := hP
  have hD : va_D A [(h0, .inr (1, fs)), (q_1, .inr (0, [.null, .null, .int 0, .int 0, .int 0, .int 0, .int 0, .int 0, .int 0, .int 0, .int 0, .int 0, .int 0, .int 0, .int 0]))] := hD
  refine W.widen (k := 1) (n := 15) (by decide) (by decide) ?_
  refine lv_dup hx hb dX1_init_8 rfl ?_
  have hPc := hP.sub (ws' := [(q_1, .inr (0, [.null, .null, .int 0, .int 0, .int 0, .int 0, .int 0, .int 0, .int 0, .int 0, .int 0, .int 0, .int 0, .int 0, .int 0]))]) [1] rfl
  have hDc := hD.sub (ws' := [(q_1, .inr (0, [.null, .null, .int 0, .int 0, .int 0, .int 0, .int 0, .int 0, .int 0, .int 0, .int 0, .int 0, .int 0, .int 0, .int 0]))]) [1] (by decide) rfl
  have hKc := hK.sub (tys' := []) [] rfl
  have hFc := va_free (wc := [(q_1, .inr (0, [.null, .null, .int 0, .int 0, .int 0, .int 0, .int 0, .int 0, .int 0, .int 0, .int 0, .int 0, .int 0, .int 0, .int 0]))]) hD hS hA [1] rfl
  refine va_callv (va_runIN (As := []) (rest := [.ref q_1, .ref h0]) ⟨hx, hb, hml, hown, hts⟩ (n_Bow l dC dI H.size q_1 ([.null, .null, .int 0, .int 0, .int 0, .int 0, .int 0, .int 0, .int 0, .int 0, .int 0, .int 0, .int 0, .int 0, .int 0]) ((show [.null, .null, .int 0, .int 0, .int 0, .int 0, .int 0, .int 0, .int 0, .int 0, .int 0, .int 0, .int 0, .int 0, .int 0].length = 15 from rfl))) ⟨va_cnB 0 hts (goodIn_sub g_n_Bow gz_n_Bow) rfl rfl rfl n9 k_5 (by decide +kernel) ⟨by decide, by decide⟩, rfl, k_6⟩ ⟨fun a U g mk q => by obtain ⟨q0, q1, qP, qK, qD⟩ := q; exact ⟨q0, q1, qP, va_K.moved (u := U) (U := U.calling g mk a) (Vm.Alike.refl U.vm) qK, qD⟩, fun U hU hW => ⟨rfl, by rw [hU], by rw [hU]; exact hPc, va_K.moved hW.alike hKc, hDc.weaken (fun _ _ _ _ => trivial)⟩⟩ rfl rfl hl.1 rfl (lv_room (Nat.le_of_ble_eq_true rfl)) dX1_init_9 ⟨by decide, by decide⟩) hS (fun q _ h => hFc q h) hFc (fun u t H1 locs ht hvm hw hB hz1 hk1 hS => ?_)
  obtain ⟨hP1, hK1, hD1⟩ := hB
  rw [ht] at hP1
  obtain ⟨hP, hD⟩ := va_join (wr := [(h0, .inr (1, fs))]) (w1 := []) hP hD [1] [0] rfl rfl (by decide) (by decide) hk1 hFc hP1 hD1
  generalize H1 = H at hP hS ⊢
  have hP : va_P (dC, dI) vwCl [(h0, .inr (1, fs))] H := hP
  have hD : va_D A [(h0, .inr (1, fs))] := hD
  refine W.widen (k := 3) (n := 29) (by decide) (by decide) ?_
  try dsimp only at hw
  refine va_putF (D := (dC, dI)) (ci := 1) (v := .ref q_1) (ty := .object "BowWalk$Bow") (C := RX1) (T := TX1) (N := 3) hx hb hts i_X1 tyX1 tyX1_ok nmX1 hown hK hP hD hS 0 rfl rfl 0 (by decide) k_7 (fun _ h9 => h9) rfl hin rfl (by decide +kernel) rfl rfl (by rw [l_fs]; decide) dX1_init_12 (fun H locs hP hD hS => ?_)
  have hP : va_P (dC, dI) vwCl [(h0, .inr (1, (fs.set 0 (.ref q_1))))] H := hP
  have hD : va_D A [(h0, .inr (1, (fs.set 0 (.ref q_1))))] := hD
  generalize efs_3 : (fs.set 0 (.ref q_1)) = fs_3 at hP hD
  have lfs_3 : fs_3.length = 3 := by rw [← efs_3, List.length_set]; exact l_fs
  have ffs_3_0 : fs_3[0]? = some (.ref q_1) := by rw [← efs_3]; exact p1_sa l_fs (by decide)
  refine lv_aload_n hx hb dX1_init_15 rfl (lv_at hl 0 rfl) ?_
  refine lv_iconst (v := 0) hx hb dX1_init_16 (by decide) ?_
  refine va_put (D := (dC, dI)) (ci := 1) (v := .int 0) (ty := .int) (C := RX1) (T := TX1) (N := 3) hx hb hts i_X1 tyX1 tyX1_ok nmX1 hown hK hP hD hS 0 rfl rfl 1 (by decide) k_8 (fun _ h9 => h9) rfl (by decide +kernel) rfl rfl (by rw [lfs_3]; decide) dX1_init_17 (fun H locs hP hD hS => ?_)
  have hP : va_P (dC, dI) vwCl [(h0, .inr (1, (fs_3.set 1 (.int 0))))] H := hP
  have hD : va_D A [(h0, .inr (1, (fs_3.set 1 (.int 0))))] := hD
  generalize efs_4 : (fs_3.set 1 (.int 0)) = fs_4 at hP hD
  have lfs_4 : fs_4.length = 3 := by rw [← efs_4, List.length_set]; exact lfs_3
  have ffs_4_1 : fs_4[1]? = some (.int 0) := by rw [← efs_4]; exact p1_sa lfs_3 (by decide)
  refine lv_aload_n hx hb dX1_init_20 rfl (lv_at hl 0 rfl) ?_
  refine lv_iconst (v := 0) hx hb dX1_init_21 (by decide) ?_
  refine va_put (D := (dC, dI)) (ci := 1) (v := .int 0) (ty := .boolean) (C := RX1) (T := TX1) (N := 3) hx hb hts i_X1 tyX1 tyX1_ok nmX1 hown hK hP hD hS 0 rfl rfl 2 (by decide) k_9 (fun _ h9 => h9) rfl (by decide +kernel) rfl rfl (by rw [lfs_4]; decide) dX1_init_22 (fun H locs hP hD hS => ?_)
  have hP : va_P (dC, dI) vwCl [(h0, .inr (1, (fs_4.set 2 (.int 0))))] H := hP
  have hD : va_D A [(h0, .inr (1, (fs_4.set 2 (.int 0))))] := hD
  generalize efs_5 : (fs_4.set 2 (.int 0)) = fs_5 at hP hD
  have lfs_5 : fs_5.length = 3 := by rw [← efs_5, List.length_set]; exact lfs_4
  have ffs_5_2 : fs_5[2]? = some (.int 0) := by rw [← efs_5]; exact p1_sa lfs_4 (by decide)
  have hP9 := hP.sub (ws' := [(h0, .inr (1, fs_5))]) [0] rfl
  have hD9 := hD.sub (ws' := [(h0, .inr (1, fs_5))]) [0] (by decide) rfl
  have hK9 := hK.sub (tys' := []) [] rfl
  exact W.vret hx hb hr (fun t ht hW => ⟨⟨(), rfl, trivial, fs_5, lfs_5, ffs_5_2, by rw [ht]; exact hP9, va_K.moved hW.alike hK9, hD9⟩, hS.F ht⟩) hS.2.2 dX1_init_25
def zo_n_Trial : List Cond := [.code yX7_init cX7_init 1 none, .methodLink RX7 3 objectInit, .instanceMethod objectInit, .code objectInit ⟨#[0xb1]⟩ 1 none, .classLink RX7 9 RX0, .instantiable RX0 15, .initialized RX0, .instanceMethod yX0_init, .fieldLink RX7 12 "BowWalk$Trial" "bow" "LBowWalk$Bow;", .arrayClass .int, .fieldLink RX7 20 "BowWalk$Trial" "strikes" "[I", .fieldLink RX7 24 "BowWalk$Trial" "swings" "[I", .fieldLink RX7 27 "BowWalk$Trial" "law" "I", .fieldLink RX7 31 "BowWalk$Trial" "walkSteps" "I", .fieldLink RX7 34 "BowWalk$Trial" "at" "I"]
def zw_n_Trial : List Cond := zo_n_Trial ++ (zw_n_Bow ++ (wsX00 ++ (wsX70 ++ [])))
theorem gz_n_Trial : zw_n_Trial.all goodWord = true := p1_ga (by decide +kernel) (p1_ga gz_n_Bow (p1_ga gk_X0 (p1_ga gk_X7 p1_g0)))
theorem iz_n_Trial : ∀ w ∈ zw_n_Trial, w ∈ lw_tbl := p1_ia (p1_all [410, 411, 126, 127, 412, 345, 112, 347, 414, 173, 416, 418, 420, 422, 423] (by decide +kernel)) (p1_ia iz_n_Bow (p1_ia ik_X0 (p1_ia ik_X7 p1_i0)))
set_option maxHeartbeats 4000000 in
set_option maxRecDepth 100000 in
theorem n_Trial (l : Launch) (dC : Nat → ClassId) (dI : Nat → Nat → Nat) (sz : Nat) (h0 : Nat) (fs : List Value) (l_fs : fs.length = 6) : Met l yX7_init zw_n_Trial ({ frames := 2, cells := 5, slots := 45, locals := 40 }) (va_Pc [.ref h0] (fun U => U.heap.size = sz ∧ va_P (dC, dI) vwCl [(h0, .inr (6, fs))] U.heap ∧ va_K (dC, dI) vwCl [] U ∧ va_D (fun _ => True) [(h0, .inr (6, fs))] ∧ p1_ex (va_A [(h0, .inr (6, fs))] sz) U U.heap)) (va_Qv (fun (_ : Unit) => True) (fun _ t => va_P (dC, dI) vwCl [] t.heap ∧ va_K (dC, dI) vwCl [] t ∧ va_D (va_A [(h0, .inr (6, fs))] sz) []) (va_A [(h0, .inr (6, fs))] sz)) 5 45 (va_A [(h0, .inr (6, fs))] sz) := by
  refine Met.ofW (cc := cX7_init) (maxL := 1) (ret := none) (by decide) rfl ?_
  intro p e s m args below meth c s₁ B hml hv
  obtain ⟨rfl, hsz, hP, hK, hD0, hE⟩ := hv
  have hx := B.exec
  have hb := B.bytes
  have hr := B.returns
  have hts := atoms_spec (ws := zw_n_Trial) B.pre
  have hown : s.vm.findClass RX7 = some m.cls := findClass_of_methodNamed B.named
  have hlocks := B.notSynchronized
  have hin : meth.name = "<init>" := (name_of_methodNamed B.named B.method).1
  subst hsz
  have hD := hD0.self (sz := s.heap.size)
  generalize hAe : va_A [(h0, .inr (6, fs))] s.heap.size = A at hD hE ⊢
  have hA : ∀ q : Nat, s.heap.size ≤ q → A q := fun q h => by rw [← hAe]; exact Or.inr h
  have hS : va_S A s.heap s.heap [] := va_S.rf
  have hP : va_P (dC, dI) vwCl [(h0, .inr (6, fs))] s.heap := hP
  obtain ⟨sK, sV, ru, pu, sf, rf, pf, ⟨n1, n2, n3, n4, n5, n6, n7, n8, n9⟩, ⟨o1, o2, o3⟩, r1, ⟨t1, t2, t3, t4⟩, z1, z2, ⟨y1, y2⟩, ⟨w1, w2⟩⟩ := id hE
  have m_0 : (.methodLink RX7 3 objectInit : Cond) ∈ zw_n_Trial := List.mem_append_left _ (List.mem_of_getElem? (i := 1) rfl)
  have k_0 := hts _ m_0
  have m_1 : (.instanceMethod objectInit : Cond) ∈ zw_n_Trial := List.mem_append_left _ (List.mem_of_getElem? (i := 2) rfl)
  have k_1 := hts _ m_1
  have m_2 : (.code objectInit ⟨#[0xb1]⟩ 1 none : Cond) ∈ zw_n_Trial := List.mem_append_left _ (List.mem_of_getElem? (i := 3) rfl)
  have k_2 := hts _ m_2
  have m_3 : (.classLink RX7 9 RX0 : Cond) ∈ zw_n_Trial := List.mem_append_left _ (List.mem_of_getElem? (i := 4) rfl)
  have k_3 := hts _ m_3
  have m_4 : (.instantiable RX0 15 : Cond) ∈ zw_n_Trial := List.mem_append_left _ (List.mem_of_getElem? (i := 5) rfl)
  have k_4 := hts _ m_4
  have m_5 : (.initialized RX0 : Cond) ∈ zw_n_Trial := List.mem_append_left _ (List.mem_of_getElem? (i := 6) rfl)
  have k_5 := hts _ m_5
  have m_6 : (.instanceMethod yX0_init : Cond) ∈ zw_n_Trial := List.mem_append_left _ (List.mem_of_getElem? (i := 7) rfl)
  have k_6 := hts _ m_6
  have m_7 : (.fieldLink RX7 12 "BowWalk$Trial" "bow" "LBowWalk$Bow;" : Cond) ∈ zw_n_Trial := List.mem_append_left _ (List.mem_of_getElem? (i := 8) rfl)
  have k_7 := hts _ m_7
  have m_8 : (.arrayClass .int : Cond) ∈ zw_n_Trial := List.mem_append_left _ (List.mem_of_getElem? (i := 9) rfl)
  have k_8 := hts _ m_8
  have m_9 : (.fieldLink RX7 20 "BowWalk$Trial" "strikes" "[I" : Cond) ∈ zw_n_Trial := List.mem_append_left _ (List.mem_of_getElem? (i := 10) rfl)
  have k_9 := hts _ m_9
  have m_10 : (.fieldLink RX7 24 "BowWalk$Trial" "swings" "[I" : Cond) ∈ zw_n_Trial := List.mem_append_left _ (List.mem_of_getElem? (i := 11) rfl)
  have k_10 := hts _ m_10
  have m_11 : (.fieldLink RX7 27 "BowWalk$Trial" "law" "I" : Cond) ∈ zw_n_Trial := List.mem_append_left _ (List.mem_of_getElem? (i := 12) rfl)
  have k_11 := hts _ m_11
  have m_12 : (.fieldLink RX7 31 "BowWalk$Trial" "walkSteps" "I" : Cond) ∈ zw_n_Trial := List.mem_append_left _ (List.mem_of_getElem? (i := 13) rfl)
  have k_12 := hts _ m_12
  have m_13 : (.fieldLink RX7 34 "BowWalk$Trial" "at" "I" : Cond) ∈ zw_n_Trial := List.mem_append_left _ (List.mem_of_getElem? (i := 14) rfl)
  have k_13 := hts _ m_13
  have g_n_Bow : ∀ w ∈ zw_n_Bow, w ∈ zw_n_Trial := fun w h => List.mem_append_right _ (List.mem_append_left _ h)
  have i_X0 : ∀ w ∈ u_ws RX0 TX0 15, w ∈ zw_n_Trial := fun w h => List.mem_append_right _ (List.mem_append_right _ (List.mem_append_left _ h))
  have i_X7 : ∀ w ∈ u_ws RX7 TX7 6, w ∈ zw_n_Trial := fun w h => List.mem_append_right _ (List.mem_append_right _ (List.mem_append_right _ (List.mem_append_left _ h)))
  have hl := lv_entry ([.ref h0]) (n := 1) (Nat.le_of_ble_eq_true rfl)
  rw [lg_entry_eq]
  generalize (lg_sl ([.ref h0]) ++ List.replicate (1 - (lg_sl ([.ref h0])).length) Slot.unset).toArray = ls at hl ⊢
  have hl : lv_has ls 1 [(0, .ref h0)] := hl
  refine lv_aload_n hx hb dX7_init_0 rfl (lv_at hl 0 rfl) ?_
  refine W.objInit hx hb hown k_0 k_1 k_2 rfl (by rw [hml]; exact hl.1) rfl dX7_init_1 (Nat.le_of_ble_eq_true rfl) (Nat.le_of_ble_eq_true rfl) ?_
  refine W.eq (g2 := F0 m 4 ls []) rfl ?_
  refine lv_aload_n hx hb dX7_init_4 rfl (lv_at hl 0 rfl) ?_
  refine va_new (ci := 0) (fs := [.null, .null, .int 0, .int 0, .int 0, .int 0, .int 0, .int 0, .int 0, .int 0, .int 0, .int 0, .int 0, .int 0, .int 0]) (C := RX0) (T := TX0) (N := 15) hx hb hts i_X0 tyX0 tyX0_ok hown k_3 k_4 k_5 hK hP hD hS hA rfl (by decide) (by decide) (by decide) dX7_init_5 (fun q_1 H hP hD hS => ?_)
  have hP : va_P (dC, dI) vwCl [(h0, .inr (6, fs)), (q_1, .inr (0, [.null, .null, .int 0, .int 0, .int 0, .int 0, .int 0, .int 0, .int 0, .int 0, .int 0, .int 0, .int 0, .int 0, .int 0]))] H := hP
  have hD : va_D A [(h0, .inr (6, fs)), (q_1, .inr (0, [.null, .null, .int 0, .int 0, .int 0, .int 0, .int 0, .int 0, .int 0, .int 0, .int 0, .int 0, .int 0, .int 0, .int 0]))] := hD
  refine W.widen (k := 1) (n := 15) (by decide) (by decide) ?_
  refine lv_dup hx hb dX7_init_8 rfl ?_
  have hPc := hP.sub (ws' := [(q_1, .inr (0, [.null, .null, .int 0, .int 0, .int 0, .int 0, .int 0, .int 0, .int 0, .int 0, .int 0, .int 0, .int 0, .int 0, .int 0]))]) [1] rfl
  have hDc := hD.sub (ws' := [(q_1, .inr (0, [.null, .null, .int 0, .int 0, .int 0, .int 0, .int 0, .int 0, .int 0, .int 0, .int 0, .int 0, .int 0, .int 0, .int 0]))]) [1] (by decide) rfl
  have hKc := hK.sub (tys' := []) [] rfl
  have hFc := va_free (wc := [(q_1, .inr (0, [.null, .null, .int 0, .int 0, .int 0, .int 0, .int 0, .int 0, .int 0, .int 0, .int 0, .int 0, .int 0, .int 0, .int 0]))]) hD hS hA [1] rfl
  refine va_callv (va_runIN (As := []) (rest := [.ref q_1, .ref h0]) ⟨hx, hb, hml, hown, hts⟩ (n_Bow l dC dI H.size q_1 ([.null, .null, .int 0, .int 0, .int 0, .int 0, .int 0, .int 0, .int 0, .int 0, .int 0, .int 0, .int 0, .int 0, .int 0]) ((show [.null, .null, .int 0, .int 0, .int 0, .int 0, .int 0, .int 0, .int 0, .int 0, .int 0, .int 0, .int 0, .int 0, .int 0].length = 15 from rfl))) ⟨va_cnB 0 hts (goodIn_sub g_n_Bow gz_n_Bow) rfl rfl rfl n5 k_5 (by decide +kernel) ⟨by decide, by decide⟩, rfl, k_6⟩ ⟨fun a U g mk q => by obtain ⟨q0, q1, qP, qK, qD⟩ := q; exact ⟨q0, q1, qP, va_K.moved (u := U) (U := U.calling g mk a) (Vm.Alike.refl U.vm) qK, qD⟩, fun U hU hW => ⟨rfl, by rw [hU], by rw [hU]; exact hPc, va_K.moved hW.alike hKc, hDc.weaken (fun _ _ _ _ => trivial)⟩⟩ rfl rfl hl.1 rfl (lv_room (Nat.le_of_ble_eq_true rfl)) dX7_init_9 ⟨by decide, by decide⟩) hS (fun q _ h => hFc q h) hFc (fun u t H1 locs ht hvm hw hB hz1 hk1 hS => ?_)
  obtain ⟨hP1, hK1, hD1⟩ := hB
  rw [ht] at hP1
  obtain ⟨hP, hD⟩ := va_join (wr := [(h0, .inr (6, fs))]) (w1 := []) hP hD [1] [0] rfl rfl (by decide) (by decide) hk1 hFc hP1 hD1
  generalize H1 = H at hP hS ⊢
  have hP : va_P (dC, dI) vwCl [(h0, .inr (6, fs))] H := hP
  have hD : va_D A [(h0, .inr (6, fs))] := hD
  refine W.widen (k := 3) (n := 29) (by decide) (by decide) ?_
  try dsimp only at hw
  refine va_putF (D := (dC, dI)) (ci := 6) (v := .ref q_1) (ty := .object "BowWalk$Bow") (C := RX7) (T := TX7) (N := 6) hx hb hts i_X7 tyX7 tyX7_ok nmX7 hown hK hP hD hS 0 rfl rfl 0 (by decide) k_7 (fun _ h9 => h9) rfl hin rfl (by decide +kernel) rfl rfl (by rw [l_fs]; decide) dX7_init_12 (fun H locs hP hD hS => ?_)
  have hP : va_P (dC, dI) vwCl [(h0, .inr (6, (fs.set 0 (.ref q_1))))] H := hP
  have hD : va_D A [(h0, .inr (6, (fs.set 0 (.ref q_1))))] := hD
  generalize efs_3 : (fs.set 0 (.ref q_1)) = fs_3 at hP hD
  have lfs_3 : fs_3.length = 6 := by rw [← efs_3, List.length_set]; exact l_fs
  have ffs_3_0 : fs_3[0]? = some (.ref q_1) := by rw [← efs_3]; exact p1_sa l_fs (by decide)
  refine lv_aload_n hx hb dX7_init_15 rfl (lv_at hl 0 rfl) ?_
  refine lv_bipush (v := 8) hx hb dX7_init_16 (by decide) ?_
  refine va_newa (atype := .int) (ty := .int) (N' := 8) (a0 := (8, .inl (fun _ => 0))) hx hb k_8 rfl hK hP hD hS hA (fun _ => rfl) (by decide) rfl (by decide) (by decide) (by decide) dX7_init_18 (fun q_4 cA_5 H hK hP hD hS => ?_)
  have hP : va_P (dC, dI) vwCl [(h0, .inr (6, fs_3)), (q_4, .inl (cA_5, 8, .inl (fun _ => 0)))] H := hP
  have hD : va_D A [(h0, .inr (6, fs_3)), (q_4, .inl (cA_5, 8, .inl (fun _ => 0)))] := hD
  have hK : va_K (dC, dI) vwCl [(cA_5, .int)] s := hK
  refine W.widen (k := 4) (n := 37) (by decide) (by decide) ?_
  refine va_putF (D := (dC, dI)) (ci := 6) (v := .ref q_4) (ty := .array .int) (C := RX7) (T := TX7) (N := 6) hx hb hts i_X7 tyX7 tyX7_ok nmX7 hown hK hP hD hS 0 rfl rfl 1 (by decide) k_9 (fun _ h9 => h9) rfl hin rfl (by decide +kernel) rfl rfl (by rw [lfs_3]; decide) dX7_init_20 (fun H locs hP hD hS => ?_)
  have hP : va_P (dC, dI) vwCl [(h0, .inr (6, (fs_3.set 1 (.ref q_4)))), (q_4, .inl (cA_5, 8, .inl (fun _ => 0)))] H := hP
  have hD : va_D A [(h0, .inr (6, (fs_3.set 1 (.ref q_4)))), (q_4, .inl (cA_5, 8, .inl (fun _ => 0)))] := hD
  generalize efs_6 : (fs_3.set 1 (.ref q_4)) = fs_6 at hP hD
  have lfs_6 : fs_6.length = 6 := by rw [← efs_6, List.length_set]; exact lfs_3
  have ffs_6_1 : fs_6[1]? = some (.ref q_4) := by rw [← efs_6]; exact p1_sa lfs_3 (by decide)
  have hP := hP.sub (ws' := [(h0, .inr (6, fs_6))]) [0] rfl
  have hD := hD.sub (ws' := [(h0, .inr (6, fs_6))]) [0] (by decide) rfl
  have hK := hK.sub (tys' := []) [] rfl
  refine lv_aload_n hx hb dX7_init_23 rfl (lv_at hl 0 rfl) ?_
  refine lv_bipush (v := 8) hx hb dX7_init_24 (by decide) ?_
  refine va_newa (atype := .int) (ty := .int) (N' := 8) (a0 := (8, .inl (fun _ => 0))) hx hb k_8 rfl hK hP hD hS hA (fun _ => rfl) (by decide) rfl (by decide) (by decide) (by decide) dX7_init_26 (fun q_7 cA_8 H hK hP hD hS => ?_)
  have hP : va_P (dC, dI) vwCl [(h0, .inr (6, fs_6)), (q_7, .inl (cA_8, 8, .inl (fun _ => 0)))] H := hP
  have hD : va_D A [(h0, .inr (6, fs_6)), (q_7, .inl (cA_8, 8, .inl (fun _ => 0)))] := hD
  have hK : va_K (dC, dI) vwCl [(cA_8, .int)] s := hK
  refine W.widen (k := 5) (n := 45) (by decide) (by decide) ?_
  refine va_putF (D := (dC, dI)) (ci := 6) (v := .ref q_7) (ty := .array .int) (C := RX7) (T := TX7) (N := 6) hx hb hts i_X7 tyX7 tyX7_ok nmX7 hown hK hP hD hS 0 rfl rfl 2 (by decide) k_10 (fun _ h9 => h9) rfl hin rfl (by decide +kernel) rfl rfl (by rw [lfs_6]; decide) dX7_init_28 (fun H locs hP hD hS => ?_)
  have hP : va_P (dC, dI) vwCl [(h0, .inr (6, (fs_6.set 2 (.ref q_7)))), (q_7, .inl (cA_8, 8, .inl (fun _ => 0)))] H := hP
  have hD : va_D A [(h0, .inr (6, (fs_6.set 2 (.ref q_7)))), (q_7, .inl (cA_8, 8, .inl (fun _ => 0)))] := hD
  generalize efs_9 : (fs_6.set 2 (.ref q_7)) = fs_9 at hP hD
  have lfs_9 : fs_9.length = 6 := by rw [← efs_9, List.length_set]; exact lfs_6
  have ffs_9_2 : fs_9[2]? = some (.ref q_7) := by rw [← efs_9]; exact p1_sa lfs_6 (by decide)
  have hP := hP.sub (ws' := [(h0, .inr (6, fs_9))]) [0] rfl
  have hD := hD.sub (ws' := [(h0, .inr (6, fs_9))]) [0] (by decide) rfl
  have hK := hK.sub (tys' := []) [] rfl
  refine lv_aload_n hx hb dX7_init_31 rfl (lv_at hl 0 rfl) ?_
  refine lv_iconst (v := 0) hx hb dX7_init_32 (by decide) ?_
  refine va_put (D := (dC, dI)) (ci := 6) (v := .int 0) (ty := .int) (C := RX7) (T := TX7) (N := 6) hx hb hts i_X7 tyX7 tyX7_ok nmX7 hown hK hP hD hS 0 rfl rfl 3 (by decide) k_11 (fun _ h9 => h9) rfl (by decide +kernel) rfl rfl (by rw [lfs_9]; decide) dX7_init_33 (fun H locs hP hD hS => ?_)
  have hP : va_P (dC, dI) vwCl [(h0, .inr (6, (fs_9.set 3 (.int 0))))] H := hP
  have hD : va_D A [(h0, .inr (6, (fs_9.set 3 (.int 0))))] := hD
  generalize efs_10 : (fs_9.set 3 (.int 0)) = fs_10 at hP hD
  have lfs_10 : fs_10.length = 6 := by rw [← efs_10, List.length_set]; exact lfs_9
  have ffs_10_3 : fs_10[3]? = some (.int 0) := by rw [← efs_10]; exact p1_sa lfs_9 (by decide)
  refine lv_aload_n hx hb dX7_init_36 rfl (lv_at hl 0 rfl) ?_
  refine lv_iconst (v := 0) hx hb dX7_init_37 (by decide) ?_
  refine va_put (D := (dC, dI)) (ci := 6) (v := .int 0) (ty := .int) (C := RX7) (T := TX7) (N := 6) hx hb hts i_X7 tyX7 tyX7_ok nmX7 hown hK hP hD hS 0 rfl rfl 4 (by decide) k_12 (fun _ h9 => h9) rfl (by decide +kernel) rfl rfl (by rw [lfs_10]; decide) dX7_init_38 (fun H locs hP hD hS => ?_)
  have hP : va_P (dC, dI) vwCl [(h0, .inr (6, (fs_10.set 4 (.int 0))))] H := hP
  have hD : va_D A [(h0, .inr (6, (fs_10.set 4 (.int 0))))] := hD
  generalize efs_11 : (fs_10.set 4 (.int 0)) = fs_11 at hP hD
  have lfs_11 : fs_11.length = 6 := by rw [← efs_11, List.length_set]; exact lfs_10
  have ffs_11_4 : fs_11[4]? = some (.int 0) := by rw [← efs_11]; exact p1_sa lfs_10 (by decide)
  refine lv_aload_n hx hb dX7_init_41 rfl (lv_at hl 0 rfl) ?_
  refine lv_iconst (v := 0) hx hb dX7_init_42 (by decide) ?_
  refine va_put (D := (dC, dI)) (ci := 6) (v := .int 0) (ty := .int) (C := RX7) (T := TX7) (N := 6) hx hb hts i_X7 tyX7 tyX7_ok nmX7 hown hK hP hD hS 0 rfl rfl 5 (by decide) k_13 (fun _ h9 => h9) rfl (by decide +kernel) rfl rfl (by rw [lfs_11]; decide) dX7_init_43 (fun H locs hP hD hS => ?_)
  have hP : va_P (dC, dI) vwCl [(h0, .inr (6, (fs_11.set 5 (.int 0))))] H := hP
  have hD : va_D A [(h0, .inr (6, (fs_11.set 5 (.int 0))))] := hD
  generalize efs_12 : (fs_11.set 5 (.int 0)) = fs_12 at hP hD
  have lfs_12 : fs_12.length = 6 := by rw [← efs_12, List.length_set]; exact lfs_11
  have ffs_12_5 : fs_12[5]? = some (.int 0) := by rw [← efs_12]; exact p1_sa lfs_11 (by decide)
  have hP9 := hP.sub (ws' := []) [] rfl
  have hD9 := hD.sub (ws' := []) [] (by decide) rfl
  have hK9 := hK.sub (tys' := []) [] rfl
  exact W.vret hx hb hr (fun t ht hW => ⟨⟨(), rfl, trivial, by rw [ht]; exact hP9, va_K.moved hW.alike hK9, hD9⟩, hS.F ht⟩) hS.2.2 dX7_init_46
def zo_n_Shop : List Cond := [.code yX5_init cX5_init 1 none, .methodLink RX5 3 objectInit, .instanceMethod objectInit, .code objectInit ⟨#[0xb1]⟩ 1 none, .arrayClass .int, .fieldLink RX5 9 "BowWalk$Shop" "count" "[I", .classLink RX5 13 "[[J", .arrayClass .long, .fieldLink RX5 15 "BowWalk$Shop" "names" "[[J", .fieldLink RX5 18 "BowWalk$Shop" "crossings" "[I", .fieldLink RX5 21 "BowWalk$Shop" "sides" "[I", .fieldLink RX5 24 "BowWalk$Shop" "smooth" "[I", .fieldLink RX5 27 "BowWalk$Shop" "weight" "[I", .fieldLink RX5 30 "BowWalk$Shop" "length" "[I", .fieldLink RX5 33 "BowWalk$Shop" "steps" "[I", .classLink RX5 36 "[[I", .fieldLink RX5 38 "BowWalk$Shop" "strikes" "[[I", .fieldLink RX5 41 "BowWalk$Shop" "swings" "[[I", .fieldLink RX5 44 "BowWalk$Shop" "wantHolds" "[I", .fieldLink RX5 47 "BowWalk$Shop" "wantPull" "[I", .classLink RX5 50 RX3, .instantiable RX3 6, .initialized RX3, .instanceMethod yX3_init, .fieldLink RX5 53 "BowWalk$Shop" "laws" "LBowWalk$Laws;", .fieldLink RX5 57 "BowWalk$Shop" "once" "[I", .arrayClass .boolean, .fieldLink RX5 60 "BowWalk$Shop" "onceTold" "[Z"]
def zw_n_Shop : List Cond := zo_n_Shop ++ (zw_n_Laws ++ (wsX50 ++ (wsX30 ++ [])))
theorem gz_n_Shop : zw_n_Shop.all goodWord = true := p1_ga (by decide +kernel) (p1_ga gz_n_Laws (p1_ga gk_X5 (p1_ga gk_X3 p1_g0)))
theorem iz_n_Shop : ∀ w ∈ zw_n_Shop, w ∈ lw_tbl := p1_ia (p1_all [138, 139, 126, 127, 173, 174, 140, 172, 177, 179, 182, 185, 188, 191, 194, 142, 198, 202, 206, 209, 144, 145, 107, 147, 212, 216, 253, 220] (by decide +kernel)) (p1_ia iz_n_Laws (p1_ia ik_X5 (p1_ia ik_X3 p1_i0)))
set_option maxHeartbeats 4000000 in
set_option maxRecDepth 100000 in
theorem n_Shop (l : Launch) (dC : Nat → ClassId) (dI : Nat → Nat → Nat) (sz : Nat) (h0 : Nat) (fs : List Value) (l_fs : fs.length = 15) : Met l yX5_init zw_n_Shop ({ frames := 2, cells := 31, slots := 824, locals := 40 }) (va_Pc [.ref h0] (fun U => U.heap.size = sz ∧ va_P (dC, dI) vwCl [(h0, .inr (5, fs))] U.heap ∧ va_K (dC, dI) vwCl [] U ∧ va_D (fun _ => True) [(h0, .inr (5, fs))] ∧ p1_ex (va_A [(h0, .inr (5, fs))] sz) U U.heap)) (va_Qv (fun (_ : Unit) => True) (fun _ t => ∃ (fo : List Value) (sc : Nat) (lw : Nat) (on : Nat) (ot : Nat) (cS : ClassId) (lf : List Value) (lc : Nat) (lb : Nat) (cc1 : ClassId) (cb1 : ClassId) (cN : ClassId) (nf : Nat → Int32) (cO : ClassId), fo.length = 15 ∧ fo[0]? = some (.ref sc) ∧ fo[12]? = some (.ref lw) ∧ fo[13]? = some (.ref on) ∧ fo[14]? = some (.ref ot) ∧ lf.length = 6 ∧ lf[0]? = some (.ref lc) ∧ lf[1]? = some (.ref lb) ∧ lf[3]? = some (.int 0) ∧ lf[4]? = some (.int 0) ∧ lf[5]? = some (.int 0) ∧ va_P (dC, dI) vwCl [(h0, .inr (5, fo)), (sc, .inl (cS, 5, .inl (fun _ => 0))), (lw, .inr (3, lf)), (lc, .inl (cc1, 600, .inl (fun _ => 0))), (lb, .inl (cb1, 6, .inl (fun _ => 0))), (on, .inl (cN, 2, .inl nf)), (ot, .inl (cO, 2, .inl (fun _ => 0)))] t.heap ∧ va_K (dC, dI) vwCl [(cS, .int), (cc1, .int), (cb1, .int), (cN, .int), (cO, .boolean)] t ∧ va_D (va_A [(h0, .inr (5, fs))] sz) [(h0, .inr (5, fo)), (sc, .inl (cS, 5, .inl (fun _ => 0))), (lw, .inr (3, lf)), (lc, .inl (cc1, 600, .inl (fun _ => 0))), (lb, .inl (cb1, 6, .inl (fun _ => 0))), (on, .inl (cN, 2, .inl nf)), (ot, .inl (cO, 2, .inl (fun _ => 0)))]) (va_A [(h0, .inr (5, fs))] sz)) 31 824 (va_A [(h0, .inr (5, fs))] sz) := by
  refine Met.ofW (cc := cX5_init) (maxL := 1) (ret := none) (by decide) rfl ?_
  intro p e s m args below meth c s₁ B hml hv
  obtain ⟨rfl, hsz, hP, hK, hD0, hE⟩ := hv
  have hx := B.exec
  have hb := B.bytes
  have hr := B.returns
  have hts := atoms_spec (ws := zw_n_Shop) B.pre
  have hown : s.vm.findClass RX5 = some m.cls := findClass_of_methodNamed B.named
  have hlocks := B.notSynchronized
  have hin : meth.name = "<init>" := (name_of_methodNamed B.named B.method).1
  subst hsz
  have hD := hD0.self (sz := s.heap.size)
  generalize hAe : va_A [(h0, .inr (5, fs))] s.heap.size = A at hD hE ⊢
  have hA : ∀ q : Nat, s.heap.size ≤ q → A q := fun q h => by rw [← hAe]; exact Or.inr h
  have hS : va_S A s.heap s.heap [] := va_S.rf
  have hP : va_P (dC, dI) vwCl [(h0, .inr (5, fs))] s.heap := hP
  obtain ⟨sK, sV, ru, pu, sf, rf, pf, ⟨n1, n2, n3, n4, n5, n6, n7, n8, n9⟩, ⟨o1, o2, o3⟩, r1, ⟨t1, t2, t3, t4⟩, z1, z2, ⟨y1, y2⟩, ⟨w1, w2⟩⟩ := id hE
  have m_0 : (.methodLink RX5 3 objectInit : Cond) ∈ zw_n_Shop := List.mem_append_left _ (List.mem_of_getElem? (i := 1) rfl)
  have k_0 := hts _ m_0
  have m_1 : (.instanceMethod objectInit : Cond) ∈ zw_n_Shop := List.mem_append_left _ (List.mem_of_getElem? (i := 2) rfl)
  have k_1 := hts _ m_1
  have m_2 : (.code objectInit ⟨#[0xb1]⟩ 1 none : Cond) ∈ zw_n_Shop := List.mem_append_left _ (List.mem_of_getElem? (i := 3) rfl)
  have k_2 := hts _ m_2
  have m_3 : (.arrayClass .int : Cond) ∈ zw_n_Shop := List.mem_append_left _ (List.mem_of_getElem? (i := 4) rfl)
  have k_3 := hts _ m_3
  have m_4 : (.fieldLink RX5 9 "BowWalk$Shop" "count" "[I" : Cond) ∈ zw_n_Shop := List.mem_append_left _ (List.mem_of_getElem? (i := 5) rfl)
  have k_4 := hts _ m_4
  have m_5 : (.classLink RX5 13 "[[J" : Cond) ∈ zw_n_Shop := List.mem_append_left _ (List.mem_of_getElem? (i := 6) rfl)
  have k_5 := hts _ m_5
  have m_6 : (.arrayClass .long : Cond) ∈ zw_n_Shop := List.mem_append_left _ (List.mem_of_getElem? (i := 7) rfl)
  have k_6 := hts _ m_6
  have m_7 : (.fieldLink RX5 15 "BowWalk$Shop" "names" "[[J" : Cond) ∈ zw_n_Shop := List.mem_append_left _ (List.mem_of_getElem? (i := 8) rfl)
  have k_7 := hts _ m_7
  have m_8 : (.fieldLink RX5 18 "BowWalk$Shop" "crossings" "[I" : Cond) ∈ zw_n_Shop := List.mem_append_left _ (List.mem_of_getElem? (i := 9) rfl)
  have k_8 := hts _ m_8
  have m_9 : (.fieldLink RX5 21 "BowWalk$Shop" "sides" "[I" : Cond) ∈ zw_n_Shop := List.mem_append_left _ (List.mem_of_getElem? (i := 10) rfl)
  have k_9 := hts _ m_9
  have m_10 : (.fieldLink RX5 24 "BowWalk$Shop" "smooth" "[I" : Cond) ∈ zw_n_Shop := List.mem_append_left _ (List.mem_of_getElem? (i := 11) rfl)
  have k_10 := hts _ m_10
  have m_11 : (.fieldLink RX5 27 "BowWalk$Shop" "weight" "[I" : Cond) ∈ zw_n_Shop := List.mem_append_left _ (List.mem_of_getElem? (i := 12) rfl)
  have k_11 := hts _ m_11
  have m_12 : (.fieldLink RX5 30 "BowWalk$Shop" "length" "[I" : Cond) ∈ zw_n_Shop := List.mem_append_left _ (List.mem_of_getElem? (i := 13) rfl)
  have k_12 := hts _ m_12
  have m_13 : (.fieldLink RX5 33 "BowWalk$Shop" "steps" "[I" : Cond) ∈ zw_n_Shop := List.mem_append_left _ (List.mem_of_getElem? (i := 14) rfl)
  have k_13 := hts _ m_13
  have m_14 : (.classLink RX5 36 "[[I" : Cond) ∈ zw_n_Shop := List.mem_append_left _ (List.mem_of_getElem? (i := 15) rfl)
  have k_14 := hts _ m_14
  have m_15 : (.fieldLink RX5 38 "BowWalk$Shop" "strikes" "[[I" : Cond) ∈ zw_n_Shop := List.mem_append_left _ (List.mem_of_getElem? (i := 16) rfl)
  have k_15 := hts _ m_15
  have m_16 : (.fieldLink RX5 41 "BowWalk$Shop" "swings" "[[I" : Cond) ∈ zw_n_Shop := List.mem_append_left _ (List.mem_of_getElem? (i := 17) rfl)
  have k_16 := hts _ m_16
  have m_17 : (.fieldLink RX5 44 "BowWalk$Shop" "wantHolds" "[I" : Cond) ∈ zw_n_Shop := List.mem_append_left _ (List.mem_of_getElem? (i := 18) rfl)
  have k_17 := hts _ m_17
  have m_18 : (.fieldLink RX5 47 "BowWalk$Shop" "wantPull" "[I" : Cond) ∈ zw_n_Shop := List.mem_append_left _ (List.mem_of_getElem? (i := 19) rfl)
  have k_18 := hts _ m_18
  have m_19 : (.classLink RX5 50 RX3 : Cond) ∈ zw_n_Shop := List.mem_append_left _ (List.mem_of_getElem? (i := 20) rfl)
  have k_19 := hts _ m_19
  have m_20 : (.instantiable RX3 6 : Cond) ∈ zw_n_Shop := List.mem_append_left _ (List.mem_of_getElem? (i := 21) rfl)
  have k_20 := hts _ m_20
  have m_21 : (.initialized RX3 : Cond) ∈ zw_n_Shop := List.mem_append_left _ (List.mem_of_getElem? (i := 22) rfl)
  have k_21 := hts _ m_21
  have m_22 : (.instanceMethod yX3_init : Cond) ∈ zw_n_Shop := List.mem_append_left _ (List.mem_of_getElem? (i := 23) rfl)
  have k_22 := hts _ m_22
  have m_23 : (.fieldLink RX5 53 "BowWalk$Shop" "laws" "LBowWalk$Laws;" : Cond) ∈ zw_n_Shop := List.mem_append_left _ (List.mem_of_getElem? (i := 24) rfl)
  have k_23 := hts _ m_23
  have m_24 : (.fieldLink RX5 57 "BowWalk$Shop" "once" "[I" : Cond) ∈ zw_n_Shop := List.mem_append_left _ (List.mem_of_getElem? (i := 25) rfl)
  have k_24 := hts _ m_24
  have m_25 : (.arrayClass .boolean : Cond) ∈ zw_n_Shop := List.mem_append_left _ (List.mem_of_getElem? (i := 26) rfl)
  have k_25 := hts _ m_25
  have m_26 : (.fieldLink RX5 60 "BowWalk$Shop" "onceTold" "[Z" : Cond) ∈ zw_n_Shop := List.mem_append_left _ (List.mem_of_getElem? (i := 27) rfl)
  have k_26 := hts _ m_26
  have g_n_Laws : ∀ w ∈ zw_n_Laws, w ∈ zw_n_Shop := fun w h => List.mem_append_right _ (List.mem_append_left _ h)
  have i_X5 : ∀ w ∈ u_ws RX5 TX5 15, w ∈ zw_n_Shop := fun w h => List.mem_append_right _ (List.mem_append_right _ (List.mem_append_left _ h))
  have i_X3 : ∀ w ∈ u_ws RX3 TX3 6, w ∈ zw_n_Shop := fun w h => List.mem_append_right _ (List.mem_append_right _ (List.mem_append_right _ (List.mem_append_left _ h)))
  have hl := lv_entry ([.ref h0]) (n := 1) (Nat.le_of_ble_eq_true rfl)
  rw [lg_entry_eq]
  generalize (lg_sl ([.ref h0]) ++ List.replicate (1 - (lg_sl ([.ref h0])).length) Slot.unset).toArray = ls at hl ⊢
  have hl : lv_has ls 1 [(0, .ref h0)] := hl
  refine lv_aload_n hx hb dX5_init_0 rfl (lv_at hl 0 rfl) ?_
  refine W.objInit hx hb hown k_0 k_1 k_2 rfl (by rw [hml]; exact hl.1) rfl dX5_init_1 (Nat.le_of_ble_eq_true rfl) (Nat.le_of_ble_eq_true rfl) ?_
  refine W.eq (g2 := F0 m 4 ls []) rfl ?_
  refine lv_aload_n hx hb dX5_init_4 rfl (lv_at hl 0 rfl) ?_
  refine lv_iconst (v := 5) hx hb dX5_init_5 (by decide) ?_
  refine va_newa (atype := .int) (ty := .int) (N' := 5) (a0 := (5, .inl (fun _ => 0))) hx hb k_3 rfl hK hP hD hS hA (fun _ => rfl) (by decide) rfl (by decide) (by decide) (by decide) dX5_init_6 (fun q_1 cA_2 H hK hP hD hS => ?_)
  have hP : va_P (dC, dI) vwCl [(h0, .inr (5, fs)), (q_1, .inl (cA_2, 5, .inl (fun _ => 0)))] H := hP
  have hD : va_D A [(h0, .inr (5, fs)), (q_1, .inl (cA_2, 5, .inl (fun _ => 0)))] := hD
  have hK : va_K (dC, dI) vwCl [(cA_2, .int)] s := hK
  refine W.widen (k := 1) (n := 5) (by decide) (by decide) ?_
  refine va_putF (D := (dC, dI)) (ci := 5) (v := .ref q_1) (ty := .array .int) (C := RX5) (T := TX5) (N := 15) hx hb hts i_X5 tyX5 tyX5_ok nmX5 hown hK hP hD hS 0 rfl rfl 0 (by decide) k_4 (fun _ h9 => h9) rfl hin rfl (by decide +kernel) rfl rfl (by rw [l_fs]; decide) dX5_init_8 (fun H locs hP hD hS => ?_)
  have hP : va_P (dC, dI) vwCl [(h0, .inr (5, (fs.set 0 (.ref q_1)))), (q_1, .inl (cA_2, 5, .inl (fun _ => 0)))] H := hP
  have hD : va_D A [(h0, .inr (5, (fs.set 0 (.ref q_1)))), (q_1, .inl (cA_2, 5, .inl (fun _ => 0)))] := hD
  generalize efs_3 : (fs.set 0 (.ref q_1)) = fs_3 at hP hD
  have lfs_3 : fs_3.length = 15 := by rw [← efs_3, List.length_set]; exact l_fs
  have ffs_3_0 : fs_3[0]? = some (.ref q_1) := by rw [← efs_3]; exact p1_sa l_fs (by decide)
  refine lv_aload_n hx hb dX5_init_11 rfl (lv_at hl 0 rfl) ?_
  refine lv_iconst (v := 5) hx hb dX5_init_12 (by decide) ?_
  refine lv_bipush (v := 6) hx hb dX5_init_13 (by decide) ?_
  refine p1_mna (ty := .long) (N' := 5) (K' := 6) hx hb hown (by decide +kernel) k_5 o1 k_6 hP hS (by decide) (by decide) rfl rfl (by decide) (by decide) (by decide) (by decide) (by decide) (by decide) (by decide) dX5_init_15 (fun q_4 H hP hS => ?_)
  refine W.widen (k := 7) (n := 40) (by decide) (by decide) ?_
  refine va_putF (D := (dC, dI)) (ci := 5) (v := .ref q_4) (ty := .array (.array .long)) (C := RX5) (T := TX5) (N := 15) hx hb hts i_X5 tyX5 tyX5_ok nmX5 hown hK hP hD hS 0 rfl rfl 1 (by decide) k_7 (fun _ h9 => h9) rfl hin rfl (by decide +kernel) rfl rfl (by rw [lfs_3]; decide) dX5_init_19 (fun H locs hP hD hS => ?_)
  have hP : va_P (dC, dI) vwCl [(h0, .inr (5, (fs_3.set 1 (.ref q_4)))), (q_1, .inl (cA_2, 5, .inl (fun _ => 0)))] H := hP
  have hD : va_D A [(h0, .inr (5, (fs_3.set 1 (.ref q_4)))), (q_1, .inl (cA_2, 5, .inl (fun _ => 0)))] := hD
  generalize efs_5 : (fs_3.set 1 (.ref q_4)) = fs_5 at hP hD
  have lfs_5 : fs_5.length = 15 := by rw [← efs_5, List.length_set]; exact lfs_3
  have ffs_5_0 : fs_5[0]? = some (.ref q_1) := by rw [← efs_5]; exact p1_sn (by decide) ffs_3_0
  have ffs_5_1 : fs_5[1]? = some (.ref q_4) := by rw [← efs_5]; exact p1_sa lfs_3 (by decide)
  refine lv_aload_n hx hb dX5_init_22 rfl (lv_at hl 0 rfl) ?_
  refine lv_bipush (v := 6) hx hb dX5_init_23 (by decide) ?_
  refine va_newa (atype := .int) (ty := .int) (N' := 6) (a0 := (6, .inl (fun _ => 0))) hx hb k_3 rfl hK hP hD hS hA (fun _ => rfl) (by decide) rfl (by decide) (by decide) (by decide) dX5_init_25 (fun q_6 cA_7 H hK hP hD hS => ?_)
  have hP : va_P (dC, dI) vwCl [(h0, .inr (5, fs_5)), (q_1, .inl (cA_2, 5, .inl (fun _ => 0))), (q_6, .inl (cA_7, 6, .inl (fun _ => 0)))] H := hP
  have hD : va_D A [(h0, .inr (5, fs_5)), (q_1, .inl (cA_2, 5, .inl (fun _ => 0))), (q_6, .inl (cA_7, 6, .inl (fun _ => 0)))] := hD
  have hK : va_K (dC, dI) vwCl [(cA_2, .int), (cA_7, .int)] s := hK
  refine W.widen (k := 8) (n := 46) (by decide) (by decide) ?_
  refine va_putF (D := (dC, dI)) (ci := 5) (v := .ref q_6) (ty := .array .int) (C := RX5) (T := TX5) (N := 15) hx hb hts i_X5 tyX5 tyX5_ok nmX5 hown hK hP hD hS 0 rfl rfl 2 (by decide) k_8 (fun _ h9 => h9) rfl hin rfl (by decide +kernel) rfl rfl (by rw [lfs_5]; decide) dX5_init_27 (fun H locs hP hD hS => ?_)
  have hP : va_P (dC, dI) vwCl [(h0, .inr (5, (fs_5.set 2 (.ref q_6)))), (q_1, .inl (cA_2, 5, .inl (fun _ => 0))), (q_6, .inl (cA_7, 6, .inl (fun _ => 0)))] H := hP
  have hD : va_D A [(h0, .inr (5, (fs_5.set 2 (.ref q_6)))), (q_1, .inl (cA_2, 5, .inl (fun _ => 0))), (q_6, .inl (cA_7, 6, .inl (fun _ => 0)))] := hD
  generalize efs_8 : (fs_5.set 2 (.ref q_6)) = fs_8 at hP hD
  have lfs_8 : fs_8.length = 15 := by rw [← efs_8, List.length_set]; exact lfs_5
  have ffs_8_0 : fs_8[0]? = some (.ref q_1) := by rw [← efs_8]; exact p1_sn (by decide) ffs_5_0
  have ffs_8_2 : fs_8[2]? = some (.ref q_6) := by rw [← efs_8]; exact p1_sa lfs_5 (by decide)
  have hP := hP.sub (ws' := [(h0, .inr (5, fs_8)), (q_1, .inl (cA_2, 5, .inl (fun _ => 0)))]) [0, 1] rfl
  have hD := hD.sub (ws' := [(h0, .inr (5, fs_8)), (q_1, .inl (cA_2, 5, .inl (fun _ => 0)))]) [0, 1] (by decide) rfl
  have hK := hK.sub (tys' := [(cA_2, .int)]) [0] rfl
  refine lv_aload_n hx hb dX5_init_30 rfl (lv_at hl 0 rfl) ?_
  refine lv_bipush (v := 6) hx hb dX5_init_31 (by decide) ?_
  refine va_newa (atype := .int) (ty := .int) (N' := 6) (a0 := (6, .inl (fun _ => 0))) hx hb k_3 rfl hK hP hD hS hA (fun _ => rfl) (by decide) rfl (by decide) (by decide) (by decide) dX5_init_33 (fun q_9 cA_10 H hK hP hD hS => ?_)
  have hP : va_P (dC, dI) vwCl [(h0, .inr (5, fs_8)), (q_1, .inl (cA_2, 5, .inl (fun _ => 0))), (q_9, .inl (cA_10, 6, .inl (fun _ => 0)))] H := hP
  have hD : va_D A [(h0, .inr (5, fs_8)), (q_1, .inl (cA_2, 5, .inl (fun _ => 0))), (q_9, .inl (cA_10, 6, .inl (fun _ => 0)))] := hD
  have hK : va_K (dC, dI) vwCl [(cA_2, .int), (cA_10, .int)] s := hK
  refine W.widen (k := 9) (n := 52) (by decide) (by decide) ?_
  refine va_putF (D := (dC, dI)) (ci := 5) (v := .ref q_9) (ty := .array .int) (C := RX5) (T := TX5) (N := 15) hx hb hts i_X5 tyX5 tyX5_ok nmX5 hown hK hP hD hS 0 rfl rfl 3 (by decide) k_9 (fun _ h9 => h9) rfl hin rfl (by decide +kernel) rfl rfl (by rw [lfs_8]; decide) dX5_init_35 (fun H locs hP hD hS => ?_)
  have hP : va_P (dC, dI) vwCl [(h0, .inr (5, (fs_8.set 3 (.ref q_9)))), (q_1, .inl (cA_2, 5, .inl (fun _ => 0))), (q_9, .inl (cA_10, 6, .inl (fun _ => 0)))] H := hP
  have hD : va_D A [(h0, .inr (5, (fs_8.set 3 (.ref q_9)))), (q_1, .inl (cA_2, 5, .inl (fun _ => 0))), (q_9, .inl (cA_10, 6, .inl (fun _ => 0)))] := hD
  generalize efs_11 : (fs_8.set 3 (.ref q_9)) = fs_11 at hP hD
  have lfs_11 : fs_11.length = 15 := by rw [← efs_11, List.length_set]; exact lfs_8
  have ffs_11_0 : fs_11[0]? = some (.ref q_1) := by rw [← efs_11]; exact p1_sn (by decide) ffs_8_0
  have ffs_11_3 : fs_11[3]? = some (.ref q_9) := by rw [← efs_11]; exact p1_sa lfs_8 (by decide)
  have hP := hP.sub (ws' := [(h0, .inr (5, fs_11)), (q_1, .inl (cA_2, 5, .inl (fun _ => 0)))]) [0, 1] rfl
  have hD := hD.sub (ws' := [(h0, .inr (5, fs_11)), (q_1, .inl (cA_2, 5, .inl (fun _ => 0)))]) [0, 1] (by decide) rfl
  have hK := hK.sub (tys' := [(cA_2, .int)]) [0] rfl
  refine lv_aload_n hx hb dX5_init_38 rfl (lv_at hl 0 rfl) ?_
  refine lv_iconst (v := 4) hx hb dX5_init_39 (by decide) ?_
  refine va_newa (atype := .int) (ty := .int) (N' := 4) (a0 := (4, .inl (fun _ => 0))) hx hb k_3 rfl hK hP hD hS hA (fun _ => rfl) (by decide) rfl (by decide) (by decide) (by decide) dX5_init_40 (fun q_12 cA_13 H hK hP hD hS => ?_)
  have hP : va_P (dC, dI) vwCl [(h0, .inr (5, fs_11)), (q_1, .inl (cA_2, 5, .inl (fun _ => 0))), (q_12, .inl (cA_13, 4, .inl (fun _ => 0)))] H := hP
  have hD : va_D A [(h0, .inr (5, fs_11)), (q_1, .inl (cA_2, 5, .inl (fun _ => 0))), (q_12, .inl (cA_13, 4, .inl (fun _ => 0)))] := hD
  have hK : va_K (dC, dI) vwCl [(cA_2, .int), (cA_13, .int)] s := hK
  refine W.widen (k := 10) (n := 56) (by decide) (by decide) ?_
  refine va_putF (D := (dC, dI)) (ci := 5) (v := .ref q_12) (ty := .array .int) (C := RX5) (T := TX5) (N := 15) hx hb hts i_X5 tyX5 tyX5_ok nmX5 hown hK hP hD hS 0 rfl rfl 4 (by decide) k_10 (fun _ h9 => h9) rfl hin rfl (by decide +kernel) rfl rfl (by rw [lfs_11]; decide) dX5_init_42 (fun H locs hP hD hS => ?_)
  have hP : va_P (dC, dI) vwCl [(h0, .inr (5, (fs_11.set 4 (.ref q_12)))), (q_1, .inl (cA_2, 5, .inl (fun _ => 0))), (q_12, .inl (cA_13, 4, .inl (fun _ => 0)))] H := hP
  have hD : va_D A [(h0, .inr (5, (fs_11.set 4 (.ref q_12)))), (q_1, .inl (cA_2, 5, .inl (fun _ => 0))), (q_12, .inl (cA_13, 4, .inl (fun _ => 0)))] := hD
  generalize efs_14 : (fs_11.set 4 (.ref q_12)) = fs_14 at hP hD
  have lfs_14 : fs_14.length = 15 := by rw [← efs_14, List.length_set]; exact lfs_11
  have ffs_14_0 : fs_14[0]? = some (.ref q_1) := by rw [← efs_14]; exact p1_sn (by decide) ffs_11_0
  have ffs_14_4 : fs_14[4]? = some (.ref q_12) := by rw [← efs_14]; exact p1_sa lfs_11 (by decide)
  have hP := hP.sub (ws' := [(h0, .inr (5, fs_14)), (q_1, .inl (cA_2, 5, .inl (fun _ => 0)))]) [0, 1] rfl
  have hD := hD.sub (ws' := [(h0, .inr (5, fs_14)), (q_1, .inl (cA_2, 5, .inl (fun _ => 0)))]) [0, 1] (by decide) rfl
  have hK := hK.sub (tys' := [(cA_2, .int)]) [0] rfl
  refine lv_aload_n hx hb dX5_init_45 rfl (lv_at hl 0 rfl) ?_
  refine lv_iconst (v := 4) hx hb dX5_init_46 (by decide) ?_
  refine va_newa (atype := .int) (ty := .int) (N' := 4) (a0 := (4, .inl (fun _ => 0))) hx hb k_3 rfl hK hP hD hS hA (fun _ => rfl) (by decide) rfl (by decide) (by decide) (by decide) dX5_init_47 (fun q_15 cA_16 H hK hP hD hS => ?_)
  have hP : va_P (dC, dI) vwCl [(h0, .inr (5, fs_14)), (q_1, .inl (cA_2, 5, .inl (fun _ => 0))), (q_15, .inl (cA_16, 4, .inl (fun _ => 0)))] H := hP
  have hD : va_D A [(h0, .inr (5, fs_14)), (q_1, .inl (cA_2, 5, .inl (fun _ => 0))), (q_15, .inl (cA_16, 4, .inl (fun _ => 0)))] := hD
  have hK : va_K (dC, dI) vwCl [(cA_2, .int), (cA_16, .int)] s := hK
  refine W.widen (k := 11) (n := 60) (by decide) (by decide) ?_
  refine va_putF (D := (dC, dI)) (ci := 5) (v := .ref q_15) (ty := .array .int) (C := RX5) (T := TX5) (N := 15) hx hb hts i_X5 tyX5 tyX5_ok nmX5 hown hK hP hD hS 0 rfl rfl 5 (by decide) k_11 (fun _ h9 => h9) rfl hin rfl (by decide +kernel) rfl rfl (by rw [lfs_14]; decide) dX5_init_49 (fun H locs hP hD hS => ?_)
  have hP : va_P (dC, dI) vwCl [(h0, .inr (5, (fs_14.set 5 (.ref q_15)))), (q_1, .inl (cA_2, 5, .inl (fun _ => 0))), (q_15, .inl (cA_16, 4, .inl (fun _ => 0)))] H := hP
  have hD : va_D A [(h0, .inr (5, (fs_14.set 5 (.ref q_15)))), (q_1, .inl (cA_2, 5, .inl (fun _ => 0))), (q_15, .inl (cA_16, 4, .inl (fun _ => 0)))] := hD
  generalize efs_17 : (fs_14.set 5 (.ref q_15)) = fs_17 at hP hD
  have lfs_17 : fs_17.length = 15 := by rw [← efs_17, List.length_set]; exact lfs_14
  have ffs_17_0 : fs_17[0]? = some (.ref q_1) := by rw [← efs_17]; exact p1_sn (by decide) ffs_14_0
  have ffs_17_5 : fs_17[5]? = some (.ref q_15) := by rw [← efs_17]; exact p1_sa lfs_14 (by decide)
  have hP := hP.sub (ws' := [(h0, .inr (5, fs_17)), (q_1, .inl (cA_2, 5, .inl (fun _ => 0)))]) [0, 1] rfl
  have hD := hD.sub (ws' := [(h0, .inr (5, fs_17)), (q_1, .inl (cA_2, 5, .inl (fun _ => 0)))]) [0, 1] (by decide) rfl
  have hK := hK.sub (tys' := [(cA_2, .int)]) [0] rfl
  refine lv_aload_n hx hb dX5_init_52 rfl (lv_at hl 0 rfl) ?_
  refine lv_iconst (v := 4) hx hb dX5_init_53 (by decide) ?_
  refine va_newa (atype := .int) (ty := .int) (N' := 4) (a0 := (4, .inl (fun _ => 0))) hx hb k_3 rfl hK hP hD hS hA (fun _ => rfl) (by decide) rfl (by decide) (by decide) (by decide) dX5_init_54 (fun q_18 cA_19 H hK hP hD hS => ?_)
  have hP : va_P (dC, dI) vwCl [(h0, .inr (5, fs_17)), (q_1, .inl (cA_2, 5, .inl (fun _ => 0))), (q_18, .inl (cA_19, 4, .inl (fun _ => 0)))] H := hP
  have hD : va_D A [(h0, .inr (5, fs_17)), (q_1, .inl (cA_2, 5, .inl (fun _ => 0))), (q_18, .inl (cA_19, 4, .inl (fun _ => 0)))] := hD
  have hK : va_K (dC, dI) vwCl [(cA_2, .int), (cA_19, .int)] s := hK
  refine W.widen (k := 12) (n := 64) (by decide) (by decide) ?_
  refine va_putF (D := (dC, dI)) (ci := 5) (v := .ref q_18) (ty := .array .int) (C := RX5) (T := TX5) (N := 15) hx hb hts i_X5 tyX5 tyX5_ok nmX5 hown hK hP hD hS 0 rfl rfl 6 (by decide) k_12 (fun _ h9 => h9) rfl hin rfl (by decide +kernel) rfl rfl (by rw [lfs_17]; decide) dX5_init_56 (fun H locs hP hD hS => ?_)
  have hP : va_P (dC, dI) vwCl [(h0, .inr (5, (fs_17.set 6 (.ref q_18)))), (q_1, .inl (cA_2, 5, .inl (fun _ => 0))), (q_18, .inl (cA_19, 4, .inl (fun _ => 0)))] H := hP
  have hD : va_D A [(h0, .inr (5, (fs_17.set 6 (.ref q_18)))), (q_1, .inl (cA_2, 5, .inl (fun _ => 0))), (q_18, .inl (cA_19, 4, .inl (fun _ => 0)))] := hD
  generalize efs_20 : (fs_17.set 6 (.ref q_18)) = fs_20 at hP hD
  have lfs_20 : fs_20.length = 15 := by rw [← efs_20, List.length_set]; exact lfs_17
  have ffs_20_0 : fs_20[0]? = some (.ref q_1) := by rw [← efs_20]; exact p1_sn (by decide) ffs_17_0
  have ffs_20_6 : fs_20[6]? = some (.ref q_18) := by rw [← efs_20]; exact p1_sa lfs_17 (by decide)
  have hP := hP.sub (ws' := [(h0, .inr (5, fs_20)), (q_1, .inl (cA_2, 5, .inl (fun _ => 0)))]) [0, 1] rfl
  have hD := hD.sub (ws' := [(h0, .inr (5, fs_20)), (q_1, .inl (cA_2, 5, .inl (fun _ => 0)))]) [0, 1] (by decide) rfl
  have hK := hK.sub (tys' := [(cA_2, .int)]) [0] rfl
  refine lv_aload_n hx hb dX5_init_59 rfl (lv_at hl 0 rfl) ?_
  refine lv_iconst (v := 4) hx hb dX5_init_60 (by decide) ?_
  refine va_newa (atype := .int) (ty := .int) (N' := 4) (a0 := (4, .inl (fun _ => 0))) hx hb k_3 rfl hK hP hD hS hA (fun _ => rfl) (by decide) rfl (by decide) (by decide) (by decide) dX5_init_61 (fun q_21 cA_22 H hK hP hD hS => ?_)
  have hP : va_P (dC, dI) vwCl [(h0, .inr (5, fs_20)), (q_1, .inl (cA_2, 5, .inl (fun _ => 0))), (q_21, .inl (cA_22, 4, .inl (fun _ => 0)))] H := hP
  have hD : va_D A [(h0, .inr (5, fs_20)), (q_1, .inl (cA_2, 5, .inl (fun _ => 0))), (q_21, .inl (cA_22, 4, .inl (fun _ => 0)))] := hD
  have hK : va_K (dC, dI) vwCl [(cA_2, .int), (cA_22, .int)] s := hK
  refine W.widen (k := 13) (n := 68) (by decide) (by decide) ?_
  refine va_putF (D := (dC, dI)) (ci := 5) (v := .ref q_21) (ty := .array .int) (C := RX5) (T := TX5) (N := 15) hx hb hts i_X5 tyX5 tyX5_ok nmX5 hown hK hP hD hS 0 rfl rfl 7 (by decide) k_13 (fun _ h9 => h9) rfl hin rfl (by decide +kernel) rfl rfl (by rw [lfs_20]; decide) dX5_init_63 (fun H locs hP hD hS => ?_)
  have hP : va_P (dC, dI) vwCl [(h0, .inr (5, (fs_20.set 7 (.ref q_21)))), (q_1, .inl (cA_2, 5, .inl (fun _ => 0))), (q_21, .inl (cA_22, 4, .inl (fun _ => 0)))] H := hP
  have hD : va_D A [(h0, .inr (5, (fs_20.set 7 (.ref q_21)))), (q_1, .inl (cA_2, 5, .inl (fun _ => 0))), (q_21, .inl (cA_22, 4, .inl (fun _ => 0)))] := hD
  generalize efs_23 : (fs_20.set 7 (.ref q_21)) = fs_23 at hP hD
  have lfs_23 : fs_23.length = 15 := by rw [← efs_23, List.length_set]; exact lfs_20
  have ffs_23_0 : fs_23[0]? = some (.ref q_1) := by rw [← efs_23]; exact p1_sn (by decide) ffs_20_0
  have ffs_23_7 : fs_23[7]? = some (.ref q_21) := by rw [← efs_23]; exact p1_sa lfs_20 (by decide)
  have hP := hP.sub (ws' := [(h0, .inr (5, fs_23)), (q_1, .inl (cA_2, 5, .inl (fun _ => 0)))]) [0, 1] rfl
  have hD := hD.sub (ws' := [(h0, .inr (5, fs_23)), (q_1, .inl (cA_2, 5, .inl (fun _ => 0)))]) [0, 1] (by decide) rfl
  have hK := hK.sub (tys' := [(cA_2, .int)]) [0] rfl
  refine lv_aload_n hx hb dX5_init_66 rfl (lv_at hl 0 rfl) ?_
  refine lv_iconst (v := 4) hx hb dX5_init_67 (by decide) ?_
  refine lv_bipush (v := 8) hx hb dX5_init_68 (by decide) ?_
  refine p1_mna (ty := .int) (N' := 4) (K' := 8) hx hb hown (by decide +kernel) k_14 o2 k_3 hP hS (by decide) (by decide) rfl rfl (by decide) (by decide) (by decide) (by decide) (by decide) (by decide) (by decide) dX5_init_70 (fun q_24 H hP hS => ?_)
  refine W.widen (k := 18) (n := 104) (by decide) (by decide) ?_
  refine va_putF (D := (dC, dI)) (ci := 5) (v := .ref q_24) (ty := .array (.array .int)) (C := RX5) (T := TX5) (N := 15) hx hb hts i_X5 tyX5 tyX5_ok nmX5 hown hK hP hD hS 0 rfl rfl 8 (by decide) k_15 (fun _ h9 => h9) rfl hin rfl (by decide +kernel) rfl rfl (by rw [lfs_23]; decide) dX5_init_74 (fun H locs hP hD hS => ?_)
  have hP : va_P (dC, dI) vwCl [(h0, .inr (5, (fs_23.set 8 (.ref q_24)))), (q_1, .inl (cA_2, 5, .inl (fun _ => 0)))] H := hP
  have hD : va_D A [(h0, .inr (5, (fs_23.set 8 (.ref q_24)))), (q_1, .inl (cA_2, 5, .inl (fun _ => 0)))] := hD
  generalize efs_25 : (fs_23.set 8 (.ref q_24)) = fs_25 at hP hD
  have lfs_25 : fs_25.length = 15 := by rw [← efs_25, List.length_set]; exact lfs_23
  have ffs_25_0 : fs_25[0]? = some (.ref q_1) := by rw [← efs_25]; exact p1_sn (by decide) ffs_23_0
  have ffs_25_8 : fs_25[8]? = some (.ref q_24) := by rw [← efs_25]; exact p1_sa lfs_23 (by decide)
  refine lv_aload_n hx hb dX5_init_77 rfl (lv_at hl 0 rfl) ?_
  refine lv_iconst (v := 4) hx hb dX5_init_78 (by decide) ?_
  refine lv_bipush (v := 8) hx hb dX5_init_79 (by decide) ?_
  refine p1_mna (ty := .int) (N' := 4) (K' := 8) hx hb hown (by decide +kernel) k_14 o2 k_3 hP hS (by decide) (by decide) rfl rfl (by decide) (by decide) (by decide) (by decide) (by decide) (by decide) (by decide) dX5_init_81 (fun q_26 H hP hS => ?_)
  refine W.widen (k := 23) (n := 140) (by decide) (by decide) ?_
  refine va_putF (D := (dC, dI)) (ci := 5) (v := .ref q_26) (ty := .array (.array .int)) (C := RX5) (T := TX5) (N := 15) hx hb hts i_X5 tyX5 tyX5_ok nmX5 hown hK hP hD hS 0 rfl rfl 9 (by decide) k_16 (fun _ h9 => h9) rfl hin rfl (by decide +kernel) rfl rfl (by rw [lfs_25]; decide) dX5_init_85 (fun H locs hP hD hS => ?_)
  have hP : va_P (dC, dI) vwCl [(h0, .inr (5, (fs_25.set 9 (.ref q_26)))), (q_1, .inl (cA_2, 5, .inl (fun _ => 0)))] H := hP
  have hD : va_D A [(h0, .inr (5, (fs_25.set 9 (.ref q_26)))), (q_1, .inl (cA_2, 5, .inl (fun _ => 0)))] := hD
  generalize efs_27 : (fs_25.set 9 (.ref q_26)) = fs_27 at hP hD
  have lfs_27 : fs_27.length = 15 := by rw [← efs_27, List.length_set]; exact lfs_25
  have ffs_27_0 : fs_27[0]? = some (.ref q_1) := by rw [← efs_27]; exact p1_sn (by decide) ffs_25_0
  have ffs_27_9 : fs_27[9]? = some (.ref q_26) := by rw [← efs_27]; exact p1_sa lfs_25 (by decide)
  refine lv_aload_n hx hb dX5_init_88 rfl (lv_at hl 0 rfl) ?_
  refine lv_iconst (v := 4) hx hb dX5_init_89 (by decide) ?_
  refine va_newa (atype := .int) (ty := .int) (N' := 4) (a0 := (4, .inl (fun _ => 0))) hx hb k_3 rfl hK hP hD hS hA (fun _ => rfl) (by decide) rfl (by decide) (by decide) (by decide) dX5_init_90 (fun q_28 cA_29 H hK hP hD hS => ?_)
  have hP : va_P (dC, dI) vwCl [(h0, .inr (5, fs_27)), (q_1, .inl (cA_2, 5, .inl (fun _ => 0))), (q_28, .inl (cA_29, 4, .inl (fun _ => 0)))] H := hP
  have hD : va_D A [(h0, .inr (5, fs_27)), (q_1, .inl (cA_2, 5, .inl (fun _ => 0))), (q_28, .inl (cA_29, 4, .inl (fun _ => 0)))] := hD
  have hK : va_K (dC, dI) vwCl [(cA_2, .int), (cA_29, .int)] s := hK
  refine W.widen (k := 24) (n := 144) (by decide) (by decide) ?_
  refine va_putF (D := (dC, dI)) (ci := 5) (v := .ref q_28) (ty := .array .int) (C := RX5) (T := TX5) (N := 15) hx hb hts i_X5 tyX5 tyX5_ok nmX5 hown hK hP hD hS 0 rfl rfl 10 (by decide) k_17 (fun _ h9 => h9) rfl hin rfl (by decide +kernel) rfl rfl (by rw [lfs_27]; decide) dX5_init_92 (fun H locs hP hD hS => ?_)
  have hP : va_P (dC, dI) vwCl [(h0, .inr (5, (fs_27.set 10 (.ref q_28)))), (q_1, .inl (cA_2, 5, .inl (fun _ => 0))), (q_28, .inl (cA_29, 4, .inl (fun _ => 0)))] H := hP
  have hD : va_D A [(h0, .inr (5, (fs_27.set 10 (.ref q_28)))), (q_1, .inl (cA_2, 5, .inl (fun _ => 0))), (q_28, .inl (cA_29, 4, .inl (fun _ => 0)))] := hD
  generalize efs_30 : (fs_27.set 10 (.ref q_28)) = fs_30 at hP hD
  have lfs_30 : fs_30.length = 15 := by rw [← efs_30, List.length_set]; exact lfs_27
  have ffs_30_0 : fs_30[0]? = some (.ref q_1) := by rw [← efs_30]; exact p1_sn (by decide) ffs_27_0
  have ffs_30_10 : fs_30[10]? = some (.ref q_28) := by rw [← efs_30]; exact p1_sa lfs_27 (by decide)
  have hP := hP.sub (ws' := [(h0, .inr (5, fs_30)), (q_1, .inl (cA_2, 5, .inl (fun _ => 0)))]) [0, 1] rfl
  have hD := hD.sub (ws' := [(h0, .inr (5, fs_30)), (q_1, .inl (cA_2, 5, .inl (fun _ => 0)))]) [0, 1] (by decide) rfl
  have hK := hK.sub (tys' := [(cA_2, .int)]) [0] rfl
  refine lv_aload_n hx hb dX5_init_95 rfl (lv_at hl 0 rfl) ?_
  refine lv_iconst (v := 4) hx hb dX5_init_96 (by decide) ?_
  refine va_newa (atype := .int) (ty := .int) (N' := 4) (a0 := (4, .inl (fun _ => 0))) hx hb k_3 rfl hK hP hD hS hA (fun _ => rfl) (by decide) rfl (by decide) (by decide) (by decide) dX5_init_97 (fun q_31 cA_32 H hK hP hD hS => ?_)
  have hP : va_P (dC, dI) vwCl [(h0, .inr (5, fs_30)), (q_1, .inl (cA_2, 5, .inl (fun _ => 0))), (q_31, .inl (cA_32, 4, .inl (fun _ => 0)))] H := hP
  have hD : va_D A [(h0, .inr (5, fs_30)), (q_1, .inl (cA_2, 5, .inl (fun _ => 0))), (q_31, .inl (cA_32, 4, .inl (fun _ => 0)))] := hD
  have hK : va_K (dC, dI) vwCl [(cA_2, .int), (cA_32, .int)] s := hK
  refine W.widen (k := 25) (n := 148) (by decide) (by decide) ?_
  refine va_putF (D := (dC, dI)) (ci := 5) (v := .ref q_31) (ty := .array .int) (C := RX5) (T := TX5) (N := 15) hx hb hts i_X5 tyX5 tyX5_ok nmX5 hown hK hP hD hS 0 rfl rfl 11 (by decide) k_18 (fun _ h9 => h9) rfl hin rfl (by decide +kernel) rfl rfl (by rw [lfs_30]; decide) dX5_init_99 (fun H locs hP hD hS => ?_)
  have hP : va_P (dC, dI) vwCl [(h0, .inr (5, (fs_30.set 11 (.ref q_31)))), (q_1, .inl (cA_2, 5, .inl (fun _ => 0))), (q_31, .inl (cA_32, 4, .inl (fun _ => 0)))] H := hP
  have hD : va_D A [(h0, .inr (5, (fs_30.set 11 (.ref q_31)))), (q_1, .inl (cA_2, 5, .inl (fun _ => 0))), (q_31, .inl (cA_32, 4, .inl (fun _ => 0)))] := hD
  generalize efs_33 : (fs_30.set 11 (.ref q_31)) = fs_33 at hP hD
  have lfs_33 : fs_33.length = 15 := by rw [← efs_33, List.length_set]; exact lfs_30
  have ffs_33_0 : fs_33[0]? = some (.ref q_1) := by rw [← efs_33]; exact p1_sn (by decide) ffs_30_0
  have ffs_33_11 : fs_33[11]? = some (.ref q_31) := by rw [← efs_33]; exact p1_sa lfs_30 (by decide)
  have hP := hP.sub (ws' := [(h0, .inr (5, fs_33)), (q_1, .inl (cA_2, 5, .inl (fun _ => 0)))]) [0, 1] rfl
  have hD := hD.sub (ws' := [(h0, .inr (5, fs_33)), (q_1, .inl (cA_2, 5, .inl (fun _ => 0)))]) [0, 1] (by decide) rfl
  have hK := hK.sub (tys' := [(cA_2, .int)]) [0] rfl
  refine lv_aload_n hx hb dX5_init_102 rfl (lv_at hl 0 rfl) ?_
  refine va_new (ci := 3) (fs := [.null, .null, .null, .int 0, .int 0, .int 0]) (C := RX3) (T := TX3) (N := 6) hx hb hts i_X3 tyX3 tyX3_ok hown k_19 k_20 k_21 hK hP hD hS hA rfl (by decide) (by decide) (by decide) dX5_init_103 (fun q_34 H hP hD hS => ?_)
  have hP : va_P (dC, dI) vwCl [(h0, .inr (5, fs_33)), (q_1, .inl (cA_2, 5, .inl (fun _ => 0))), (q_34, .inr (3, [.null, .null, .null, .int 0, .int 0, .int 0]))] H := hP
  have hD : va_D A [(h0, .inr (5, fs_33)), (q_1, .inl (cA_2, 5, .inl (fun _ => 0))), (q_34, .inr (3, [.null, .null, .null, .int 0, .int 0, .int 0]))] := hD
  refine W.widen (k := 26) (n := 154) (by decide) (by decide) ?_
  refine lv_dup hx hb dX5_init_106 rfl ?_
  have hPc := hP.sub (ws' := [(q_34, .inr (3, [.null, .null, .null, .int 0, .int 0, .int 0]))]) [2] rfl
  have hDc := hD.sub (ws' := [(q_34, .inr (3, [.null, .null, .null, .int 0, .int 0, .int 0]))]) [2] (by decide) rfl
  have hKc := hK.sub (tys' := []) [] rfl
  have hFc := va_free (wc := [(q_34, .inr (3, [.null, .null, .null, .int 0, .int 0, .int 0]))]) hD hS hA [2] rfl
  refine va_callv (va_runIN (As := []) (rest := [.ref q_34, .ref h0]) ⟨hx, hb, hml, hown, hts⟩ (n_Laws l dC dI H.size q_34 ([.null, .null, .null, .int 0, .int 0, .int 0]) ((show [.null, .null, .null, .int 0, .int 0, .int 0].length = 6 from rfl))) ⟨va_cnB 0 hts (goodIn_sub g_n_Laws gz_n_Laws) rfl rfl rfl n2 k_21 (by decide +kernel) ⟨by decide, by decide⟩, rfl, k_22⟩ ⟨fun a U g mk q => by obtain ⟨q0, q1, qP, qK, qD⟩ := q; exact ⟨q0, q1, qP, va_K.moved (u := U) (U := U.calling g mk a) (Vm.Alike.refl U.vm) qK, qD⟩, fun U hU hW => ⟨rfl, by rw [hU], by rw [hU]; exact hPc, va_K.moved hW.alike hKc, hDc.weaken (fun _ _ _ _ => trivial)⟩⟩ rfl rfl hl.1 rfl (lv_room (Nat.le_of_ble_eq_true rfl)) dX5_init_107 ⟨by decide, by decide⟩) hS (fun q _ h => hFc q h) hFc (fun u t H1 locs ht hvm hw hB hz1 hk1 hS => ?_)
  obtain ⟨fo_36, lc_37, lb_38, cc1_39, cb1_40, z_41, z_42, z_43, z_44, z_45, z_46, hP1, hK1, hD1⟩ := hB
  rw [ht] at hP1
  obtain ⟨hP, hD⟩ := va_join (wr := [(h0, .inr (5, fs_33)), (q_1, .inl (cA_2, 5, .inl (fun _ => 0)))]) (w1 := [(q_34, .inr (3, fo_36)), (lc_37, .inl (cc1_39, 600, .inl (fun _ => 0))), (lb_38, .inl (cb1_40, 6, .inl (fun _ => 0)))]) hP hD [2] [0, 1] rfl rfl (by decide) (by decide) hk1 hFc hP1 hD1
  have hK := hK.app (va_K.moved hvm.symm hK1)
  generalize H1 = H at hP hS ⊢
  have hP : va_P (dC, dI) vwCl [(h0, .inr (5, fs_33)), (q_1, .inl (cA_2, 5, .inl (fun _ => 0))), (q_34, .inr (3, fo_36)), (lc_37, .inl (cc1_39, 600, .inl (fun _ => 0))), (lb_38, .inl (cb1_40, 6, .inl (fun _ => 0)))] H := hP
  have hD : va_D A [(h0, .inr (5, fs_33)), (q_1, .inl (cA_2, 5, .inl (fun _ => 0))), (q_34, .inr (3, fo_36)), (lc_37, .inl (cc1_39, 600, .inl (fun _ => 0))), (lb_38, .inl (cb1_40, 6, .inl (fun _ => 0)))] := hD
  have hK : va_K (dC, dI) vwCl [(cA_2, .int), (cc1_39, .int), (cb1_40, .int)] s := hK
  refine W.widen (k := 29) (n := 820) (by decide) (by decide) ?_
  try dsimp only at hw
  refine va_putF (D := (dC, dI)) (ci := 5) (v := .ref q_34) (ty := .object "BowWalk$Laws") (C := RX5) (T := TX5) (N := 15) hx hb hts i_X5 tyX5 tyX5_ok nmX5 hown hK hP hD hS 0 rfl rfl 12 (by decide) k_23 (fun _ h9 => h9) rfl hin rfl (by decide +kernel) rfl rfl (by rw [lfs_33]; decide) dX5_init_110 (fun H locs hP hD hS => ?_)
  have hP : va_P (dC, dI) vwCl [(h0, .inr (5, (fs_33.set 12 (.ref q_34)))), (q_1, .inl (cA_2, 5, .inl (fun _ => 0))), (q_34, .inr (3, fo_36)), (lc_37, .inl (cc1_39, 600, .inl (fun _ => 0))), (lb_38, .inl (cb1_40, 6, .inl (fun _ => 0)))] H := hP
  have hD : va_D A [(h0, .inr (5, (fs_33.set 12 (.ref q_34)))), (q_1, .inl (cA_2, 5, .inl (fun _ => 0))), (q_34, .inr (3, fo_36)), (lc_37, .inl (cc1_39, 600, .inl (fun _ => 0))), (lb_38, .inl (cb1_40, 6, .inl (fun _ => 0)))] := hD
  generalize efs_47 : (fs_33.set 12 (.ref q_34)) = fs_47 at hP hD
  have lfs_47 : fs_47.length = 15 := by rw [← efs_47, List.length_set]; exact lfs_33
  have ffs_47_0 : fs_47[0]? = some (.ref q_1) := by rw [← efs_47]; exact p1_sn (by decide) ffs_33_0
  have ffs_47_12 : fs_47[12]? = some (.ref q_34) := by rw [← efs_47]; exact p1_sa lfs_33 (by decide)
  refine lv_aload_n hx hb dX5_init_113 rfl (lv_at hl 0 rfl) ?_
  refine lv_iconst (v := 2) hx hb dX5_init_114 (by decide) ?_
  refine va_newa (atype := .int) (ty := .int) (N' := 2) (a0 := (2, .inl (fun _ => 0))) hx hb k_3 rfl hK hP hD hS hA (fun _ => rfl) (by decide) rfl (by decide) (by decide) (by decide) dX5_init_115 (fun q_48 cA_49 H hK hP hD hS => ?_)
  have hP : va_P (dC, dI) vwCl [(h0, .inr (5, fs_47)), (q_1, .inl (cA_2, 5, .inl (fun _ => 0))), (q_34, .inr (3, fo_36)), (lc_37, .inl (cc1_39, 600, .inl (fun _ => 0))), (lb_38, .inl (cb1_40, 6, .inl (fun _ => 0))), (q_48, .inl (cA_49, 2, .inl (fun _ => 0)))] H := hP
  have hD : va_D A [(h0, .inr (5, fs_47)), (q_1, .inl (cA_2, 5, .inl (fun _ => 0))), (q_34, .inr (3, fo_36)), (lc_37, .inl (cc1_39, 600, .inl (fun _ => 0))), (lb_38, .inl (cb1_40, 6, .inl (fun _ => 0))), (q_48, .inl (cA_49, 2, .inl (fun _ => 0)))] := hD
  have hK : va_K (dC, dI) vwCl [(cA_2, .int), (cc1_39, .int), (cb1_40, .int), (cA_49, .int)] s := hK
  refine W.widen (k := 30) (n := 822) (by decide) (by decide) ?_
  refine lv_dup hx hb dX5_init_117 rfl ?_
  refine lv_iconst (v := 0) hx hb dX5_init_118 (by decide) ?_
  refine lv_bipush (v := 100) hx hb dX5_init_119 (by decide) ?_
  refine va_iast hx hb hK hP hD hS 5 3 rfl rfl (p1_in (i := 0) (n := 2) (by decide)) dX5_init_121 (fun H locs hP hD hS => ?_)
  have hP : va_P (dC, dI) vwCl [(h0, .inr (5, fs_47)), (q_1, .inl (cA_2, 5, .inl (fun _ => 0))), (q_34, .inr (3, fo_36)), (lc_37, .inl (cc1_39, 600, .inl (fun _ => 0))), (lb_38, .inl (cb1_40, 6, .inl (fun _ => 0))), (q_48, .inl (cA_49, 2, .inl (upd (fun _ => 0) (0 : Int32).toNatClampNeg 100)))] H := hP
  have hD : va_D A [(h0, .inr (5, fs_47)), (q_1, .inl (cA_2, 5, .inl (fun _ => 0))), (q_34, .inr (3, fo_36)), (lc_37, .inl (cc1_39, 600, .inl (fun _ => 0))), (lb_38, .inl (cb1_40, 6, .inl (fun _ => 0))), (q_48, .inl (cA_49, 2, .inl (upd (fun _ => 0) (0 : Int32).toNatClampNeg 100)))] := hD
  generalize eg_50 : (upd (fun _ => 0) (0 : Int32).toNatClampNeg 100) = g_50 at hP hD
  refine lv_dup hx hb dX5_init_122 rfl ?_
  refine lv_iconst (v := 1) hx hb dX5_init_123 (by decide) ?_
  refine lv_iconst (v := 0) hx hb dX5_init_124 (by decide) ?_
  refine va_iast hx hb hK hP hD hS 5 3 rfl rfl (p1_in (i := 1) (n := 2) (by decide)) dX5_init_125 (fun H locs hP hD hS => ?_)
  have hP : va_P (dC, dI) vwCl [(h0, .inr (5, fs_47)), (q_1, .inl (cA_2, 5, .inl (fun _ => 0))), (q_34, .inr (3, fo_36)), (lc_37, .inl (cc1_39, 600, .inl (fun _ => 0))), (lb_38, .inl (cb1_40, 6, .inl (fun _ => 0))), (q_48, .inl (cA_49, 2, .inl (upd g_50 (1 : Int32).toNatClampNeg 0)))] H := hP
  have hD : va_D A [(h0, .inr (5, fs_47)), (q_1, .inl (cA_2, 5, .inl (fun _ => 0))), (q_34, .inr (3, fo_36)), (lc_37, .inl (cc1_39, 600, .inl (fun _ => 0))), (lb_38, .inl (cb1_40, 6, .inl (fun _ => 0))), (q_48, .inl (cA_49, 2, .inl (upd g_50 (1 : Int32).toNatClampNeg 0)))] := hD
  generalize eg_51 : (upd g_50 (1 : Int32).toNatClampNeg 0) = g_51 at hP hD
  refine va_putF (D := (dC, dI)) (ci := 5) (v := .ref q_48) (ty := .array .int) (C := RX5) (T := TX5) (N := 15) hx hb hts i_X5 tyX5 tyX5_ok nmX5 hown hK hP hD hS 0 rfl rfl 13 (by decide) k_24 (fun _ h9 => h9) rfl hin rfl (by decide +kernel) rfl rfl (by rw [lfs_47]; decide) dX5_init_126 (fun H locs hP hD hS => ?_)
  have hP : va_P (dC, dI) vwCl [(h0, .inr (5, (fs_47.set 13 (.ref q_48)))), (q_1, .inl (cA_2, 5, .inl (fun _ => 0))), (q_34, .inr (3, fo_36)), (lc_37, .inl (cc1_39, 600, .inl (fun _ => 0))), (lb_38, .inl (cb1_40, 6, .inl (fun _ => 0))), (q_48, .inl (cA_49, 2, .inl g_51))] H := hP
  have hD : va_D A [(h0, .inr (5, (fs_47.set 13 (.ref q_48)))), (q_1, .inl (cA_2, 5, .inl (fun _ => 0))), (q_34, .inr (3, fo_36)), (lc_37, .inl (cc1_39, 600, .inl (fun _ => 0))), (lb_38, .inl (cb1_40, 6, .inl (fun _ => 0))), (q_48, .inl (cA_49, 2, .inl g_51))] := hD
  generalize efs_52 : (fs_47.set 13 (.ref q_48)) = fs_52 at hP hD
  have lfs_52 : fs_52.length = 15 := by rw [← efs_52, List.length_set]; exact lfs_47
  have ffs_52_0 : fs_52[0]? = some (.ref q_1) := by rw [← efs_52]; exact p1_sn (by decide) ffs_47_0
  have ffs_52_12 : fs_52[12]? = some (.ref q_34) := by rw [← efs_52]; exact p1_sn (by decide) ffs_47_12
  have ffs_52_13 : fs_52[13]? = some (.ref q_48) := by rw [← efs_52]; exact p1_sa lfs_47 (by decide)
  refine lv_aload_n hx hb dX5_init_129 rfl (lv_at hl 0 rfl) ?_
  refine lv_iconst (v := 2) hx hb dX5_init_130 (by decide) ?_
  refine va_newa (atype := .boolean) (ty := .boolean) (N' := 2) (a0 := (2, .inl (fun _ => 0))) hx hb k_25 rfl hK hP hD hS hA (fun _ => rfl) (by decide) rfl (by decide) (by decide) (by decide) dX5_init_131 (fun q_53 cA_54 H hK hP hD hS => ?_)
  have hP : va_P (dC, dI) vwCl [(h0, .inr (5, fs_52)), (q_1, .inl (cA_2, 5, .inl (fun _ => 0))), (q_34, .inr (3, fo_36)), (lc_37, .inl (cc1_39, 600, .inl (fun _ => 0))), (lb_38, .inl (cb1_40, 6, .inl (fun _ => 0))), (q_48, .inl (cA_49, 2, .inl g_51)), (q_53, .inl (cA_54, 2, .inl (fun _ => 0)))] H := hP
  have hD : va_D A [(h0, .inr (5, fs_52)), (q_1, .inl (cA_2, 5, .inl (fun _ => 0))), (q_34, .inr (3, fo_36)), (lc_37, .inl (cc1_39, 600, .inl (fun _ => 0))), (lb_38, .inl (cb1_40, 6, .inl (fun _ => 0))), (q_48, .inl (cA_49, 2, .inl g_51)), (q_53, .inl (cA_54, 2, .inl (fun _ => 0)))] := hD
  have hK : va_K (dC, dI) vwCl [(cA_2, .int), (cc1_39, .int), (cb1_40, .int), (cA_49, .int), (cA_54, .boolean)] s := hK
  refine W.widen (k := 31) (n := 824) (by decide) (by decide) ?_
  refine va_putF (D := (dC, dI)) (ci := 5) (v := .ref q_53) (ty := .array .boolean) (C := RX5) (T := TX5) (N := 15) hx hb hts i_X5 tyX5 tyX5_ok nmX5 hown hK hP hD hS 0 rfl rfl 14 (by decide) k_26 (fun _ h9 => h9) rfl hin rfl (by decide +kernel) rfl rfl (by rw [lfs_52]; decide) dX5_init_133 (fun H locs hP hD hS => ?_)
  have hP : va_P (dC, dI) vwCl [(h0, .inr (5, (fs_52.set 14 (.ref q_53)))), (q_1, .inl (cA_2, 5, .inl (fun _ => 0))), (q_34, .inr (3, fo_36)), (lc_37, .inl (cc1_39, 600, .inl (fun _ => 0))), (lb_38, .inl (cb1_40, 6, .inl (fun _ => 0))), (q_48, .inl (cA_49, 2, .inl g_51)), (q_53, .inl (cA_54, 2, .inl (fun _ => 0)))] H := hP
  have hD : va_D A [(h0, .inr (5, (fs_52.set 14 (.ref q_53)))), (q_1, .inl (cA_2, 5, .inl (fun _ => 0))), (q_34, .inr (3, fo_36)), (lc_37, .inl (cc1_39, 600, .inl (fun _ => 0))), (lb_38, .inl (cb1_40, 6, .inl (fun _ => 0))), (q_48, .inl (cA_49, 2, .inl g_51)), (q_53, .inl (cA_54, 2, .inl (fun _ => 0)))] := hD
  generalize efs_55 : (fs_52.set 14 (.ref q_53)) = fs_55 at hP hD
  have lfs_55 : fs_55.length = 15 := by rw [← efs_55, List.length_set]; exact lfs_52
  have ffs_55_0 : fs_55[0]? = some (.ref q_1) := by rw [← efs_55]; exact p1_sn (by decide) ffs_52_0
  have ffs_55_12 : fs_55[12]? = some (.ref q_34) := by rw [← efs_55]; exact p1_sn (by decide) ffs_52_12
  have ffs_55_13 : fs_55[13]? = some (.ref q_48) := by rw [← efs_55]; exact p1_sn (by decide) ffs_52_13
  have ffs_55_14 : fs_55[14]? = some (.ref q_53) := by rw [← efs_55]; exact p1_sa lfs_52 (by decide)
  have hP9 := hP.sub (ws' := [(h0, .inr (5, fs_55)), (q_1, .inl (cA_2, 5, .inl (fun _ => 0))), (q_34, .inr (3, fo_36)), (lc_37, .inl (cc1_39, 600, .inl (fun _ => 0))), (lb_38, .inl (cb1_40, 6, .inl (fun _ => 0))), (q_48, .inl (cA_49, 2, .inl g_51)), (q_53, .inl (cA_54, 2, .inl (fun _ => 0)))]) [0, 1, 2, 3, 4, 5, 6] rfl
  have hD9 := hD.sub (ws' := [(h0, .inr (5, fs_55)), (q_1, .inl (cA_2, 5, .inl (fun _ => 0))), (q_34, .inr (3, fo_36)), (lc_37, .inl (cc1_39, 600, .inl (fun _ => 0))), (lb_38, .inl (cb1_40, 6, .inl (fun _ => 0))), (q_48, .inl (cA_49, 2, .inl g_51)), (q_53, .inl (cA_54, 2, .inl (fun _ => 0)))]) [0, 1, 2, 3, 4, 5, 6] (by decide) rfl
  have hK9 := hK.sub (tys' := [(cA_2, .int), (cc1_39, .int), (cb1_40, .int), (cA_49, .int), (cA_54, .boolean)]) [0, 1, 2, 3, 4] rfl
  exact W.vret hx hb hr (fun t ht hW => ⟨⟨(), rfl, trivial, fs_55, q_1, q_34, q_48, q_53, cA_2, fo_36, lc_37, lb_38, cc1_39, cb1_40, cA_49, g_51, cA_54, lfs_55, ffs_55_0, ffs_55_12, ffs_55_13, ffs_55_14, z_41, z_42, z_43, z_44, z_45, z_46, by rw [ht]; exact hP9, va_K.moved hW.alike hK9, hD9⟩, hS.F ht⟩) hS.2.2 dX5_init_136
def zo_s_coder : List Cond := [.code yJ0_coder_7d493 cJ0_coder_7d493 1 (some .byte), .fieldLink RJ0 38 "java/lang/String" "COMPACT_STRINGS" "Z", .fieldLink RJ0 15 "java/lang/String" "coder" "B"]
def zw_s_coder : List Cond := zo_s_coder ++ []
theorem gz_s_coder : zw_s_coder.all goodWord = true := p1_ga (by decide +kernel) p1_g0
theorem iz_s_coder : ∀ w ∈ zw_s_coder, w ∈ lw_tbl := p1_ia (p1_all [262, 263, 1698] (by decide +kernel)) p1_i0
set_option maxHeartbeats 4000000 in
set_option maxRecDepth 100000 in
theorem s_coder (l : Launch) (dC : Nat → ClassId) (dI : Nat → Nat → Nat) (sz : Nat) (sK : Nat) (sV : Nat) (sf : Nat → Int32) : Met l yJ0_coder_7d493 zw_s_coder ({ frames := 0, cells := 0, slots := 0, locals := 0 }) (va_Pc [.ref sK] (fun U => U.heap.size = sz ∧ va_P (dC, dI) vwCl [] U.heap ∧ va_K (dC, dI) vwCl [] U ∧ va_D (fun _ => True) [] ∧ p1_st sK sV sf (va_A [] sz) U U.heap)) (va_Qi (fun (r : Int32) (_ : Unit) => r = 0) (fun _ t => va_P (dC, dI) vwCl [] t.heap ∧ va_K (dC, dI) vwCl [] t ∧ va_D (va_A [] sz) []) (va_A [] sz)) 0 0 (va_A [] sz) := by
  refine Met.ofW (cc := cJ0_coder_7d493) (maxL := 1) (ret := (some .byte)) (by decide) rfl ?_
  intro p e s m args below meth c s₁ B hml hv
  obtain ⟨rfl, hsz, hP, hK, hD0, hE⟩ := hv
  have hx := B.exec
  have hb := B.bytes
  have hr := B.returns
  have hts := atoms_spec (ws := zw_s_coder) B.pre
  have hown : s.vm.findClass RJ0 = some m.cls := findClass_of_methodNamed B.named
  have hlocks := B.notSynchronized
  subst hsz
  have hD := hD0.self (sz := s.heap.size)
  generalize hAe : va_A [] s.heap.size = A at hD hE ⊢
  have hA : ∀ q : Nat, s.heap.size ≤ q → A q := fun q h => by rw [← hAe]; exact Or.inr h
  have hS : va_S A s.heap s.heap [] := va_S.rf
  have hP : va_P (dC, dI) vwCl [] s.heap := hP
  obtain ⟨t1, t2, t3, t4, z1, z2⟩ := id hE
  have m_0 : (.fieldLink RJ0 38 "java/lang/String" "COMPACT_STRINGS" "Z" : Cond) ∈ zw_s_coder := List.mem_append_left _ (List.mem_of_getElem? (i := 1) rfl)
  have k_0 := hts _ m_0
  have m_1 : (.fieldLink RJ0 15 "java/lang/String" "coder" "B" : Cond) ∈ zw_s_coder := List.mem_append_left _ (List.mem_of_getElem? (i := 2) rfl)
  have k_1 := hts _ m_1
  have hl := lv_entry ([.ref sK]) (n := 1) (Nat.le_of_ble_eq_true rfl)
  rw [lg_entry_eq]
  generalize (lg_sl ([.ref sK]) ++ List.replicate (1 - (lg_sl ([.ref sK])).length) Slot.unset).toArray = ls at hl ⊢
  have hl : lv_has ls 1 [(0, .ref sK)] := hl
  refine va_gets (v := .int 1) hx hb z1 hS hown k_0 (fun _ h9 => h9) dJ0_coder_7d493_0 ?_
  refine lv_if_eq (tgt := 13) hx hb dJ0_coder_7d493_3 (by decide) (fun c9 => absurd c9 (by decide)) (fun _ => ?_)
  refine lv_aload_n hx hb dJ0_coder_7d493_6 rfl (lv_at hl 0 rfl) ?_
  refine vk_getf (v := .int 0) hx hb t2 hS hown k_1 (fun _ h9 => h9) dJ0_coder_7d493_7 ?_
  refine lv_goto (tgt := 14) hx hb dJ0_coder_7d493_10 (by decide) ?_
  have hP9 := hP.sub (ws' := []) [] rfl
  have hD9 := hD.sub (ws' := []) [] (by decide) rfl
  have hK9 := hK.sub (tys' := []) [] rfl
  exact W.zret (v := 0) hx hb hr (by decide) (fun t ht hW => ⟨⟨0, (), rfl, rfl, by rw [ht]; exact hP9, va_K.moved hW.alike hK9, hD9⟩, hS.F ht⟩) hS.2.2 dJ0_coder_7d493_14
def zo_s_length : List Cond := [.code yJ0_length_8abf5 cJ0_length_8abf5 1 (some .int), .fieldLink RJ0 9 "java/lang/String" "value" "[B", .methodLink RJ0 335 yJ0_coder_7d493, .instanceMethod yJ0_coder_7d493, .selects RJ0 yJ0_coder_7d493 yJ0_coder_7d493, .initialized RJ0]
def zw_s_length : List Cond := zo_s_length ++ (zw_s_coder ++ [])
theorem gz_s_length : zw_s_length.all goodWord = true := p1_ga (by decide +kernel) (p1_ga gz_s_coder p1_g0)
theorem iz_s_length : ∀ w ∈ zw_s_length, w ∈ lw_tbl := p1_ia (p1_all [258, 1697, 259, 260, 261, 108] (by decide +kernel)) (p1_ia iz_s_coder p1_i0)
set_option maxHeartbeats 4000000 in
set_option maxRecDepth 100000 in
theorem s_length (l : Launch) (dC : Nat → ClassId) (dI : Nat → Nat → Nat) (sz : Nat) (sK : Nat) (sV : Nat) (sf : Nat → Int32) : Met l yJ0_length_8abf5 zw_s_length ({ frames := 1, cells := 0, slots := 0, locals := 20 }) (va_Pc [.ref sK] (fun U => U.heap.size = sz ∧ va_P (dC, dI) vwCl [] U.heap ∧ va_K (dC, dI) vwCl [] U ∧ va_D (fun _ => True) [] ∧ p1_st sK sV sf (va_A [] sz) U U.heap)) (va_Qi (fun (r : Int32) (_ : Unit) => r = 115) (fun _ t => va_P (dC, dI) vwCl [] t.heap ∧ va_K (dC, dI) vwCl [] t ∧ va_D (va_A [] sz) []) (va_A [] sz)) 0 0 (va_A [] sz) := by
  refine Met.ofW (cc := cJ0_length_8abf5) (maxL := 1) (ret := (some .int)) (by decide) rfl ?_
  intro p e s m args below meth c s₁ B hml hv
  obtain ⟨rfl, hsz, hP, hK, hD0, hE⟩ := hv
  have hx := B.exec
  have hb := B.bytes
  have hr := B.returns
  have hts := atoms_spec (ws := zw_s_length) B.pre
  have hown : s.vm.findClass RJ0 = some m.cls := findClass_of_methodNamed B.named
  have hlocks := B.notSynchronized
  subst hsz
  have hD := hD0.self (sz := s.heap.size)
  generalize hAe : va_A [] s.heap.size = A at hD hE ⊢
  have hA : ∀ q : Nat, s.heap.size ≤ q → A q := fun q h => by rw [← hAe]; exact Or.inr h
  have hS : va_S A s.heap s.heap [] := va_S.rf
  have hP : va_P (dC, dI) vwCl [] s.heap := hP
  obtain ⟨t1, t2, t3, t4, z1, z2⟩ := id hE
  have m_0 : (.fieldLink RJ0 9 "java/lang/String" "value" "[B" : Cond) ∈ zw_s_length := List.mem_append_left _ (List.mem_of_getElem? (i := 1) rfl)
  have k_0 := hts _ m_0
  have m_1 : (.methodLink RJ0 335 yJ0_coder_7d493 : Cond) ∈ zw_s_length := List.mem_append_left _ (List.mem_of_getElem? (i := 2) rfl)
  have k_1 := hts _ m_1
  have m_2 : (.instanceMethod yJ0_coder_7d493 : Cond) ∈ zw_s_length := List.mem_append_left _ (List.mem_of_getElem? (i := 3) rfl)
  have k_2 := hts _ m_2
  have m_3 : (.selects RJ0 yJ0_coder_7d493 yJ0_coder_7d493 : Cond) ∈ zw_s_length := List.mem_append_left _ (List.mem_of_getElem? (i := 4) rfl)
  have k_3 := hts _ m_3
  have m_4 : (.initialized RJ0 : Cond) ∈ zw_s_length := List.mem_append_left _ (List.mem_of_getElem? (i := 5) rfl)
  have k_4 := hts _ m_4
  have g_s_coder : ∀ w ∈ zw_s_coder, w ∈ zw_s_length := fun w h => List.mem_append_right _ (List.mem_append_left _ h)
  have hl := lv_entry ([.ref sK]) (n := 1) (Nat.le_of_ble_eq_true rfl)
  rw [lg_entry_eq]
  generalize (lg_sl ([.ref sK]) ++ List.replicate (1 - (lg_sl ([.ref sK])).length) Slot.unset).toArray = ls at hl ⊢
  have hl : lv_has ls 1 [(0, .ref sK)] := hl
  refine lv_aload_n hx hb dJ0_length_8abf5_0 rfl (lv_at hl 0 rfl) ?_
  refine vk_getf (v := .ref sV) hx hb t3 hS hown k_0 (fun _ h9 => h9) dJ0_length_8abf5_1 ?_
  refine va_tlen (v := 115) hx hb t4 hS rfl dJ0_length_8abf5_4 ?_
  refine lv_aload_n hx hb dJ0_length_8abf5_5 rfl (lv_at hl 0 rfl) ?_
  have hPc := hP.sub (ws' := []) [] rfl
  have hDc := hD.sub (ws' := []) [] (by decide) rfl
  have hKc := hK.sub (tys' := []) [] rfl
  have hFc := va_free (wc := []) hD hS hA [] rfl
  refine va_calli (va_runV (As := []) (rest := [.int 115]) ⟨hx, hb, hml, hown, hts⟩ (s_coder l dC dI s.heap.size sK sV sf) (cwV 0 hts (p1_gV m_1 m_2 m_3 m_4 g_s_coder gz_s_coder) rfl rfl rfl (by decide +kernel) ⟨by decide, by decide⟩) ⟨fun a U g mk q => by obtain ⟨q0, q1, qP, qK, qD, qE⟩ := q; exact ⟨q0, q1, qP, va_K.moved (u := U) (U := U.calling g mk a) (Vm.Alike.refl U.vm) qK, qD, qE⟩, p1_recv t1 hS, fun U hU hW => ⟨rfl, by rw [hU], by rw [hU]; exact hPc, va_K.moved hW.alike hKc, hDc.weaken (fun _ _ _ _ => trivial), by rw [hU]; exact p1_st.warm hE hW hS (fun q h => hFc q h)⟩⟩ rfl rfl hl.1 rfl (lv_room (Nat.le_of_ble_eq_true rfl)) dJ0_length_8abf5_6 ⟨by decide, by decide⟩) hS (fun q _ h => hFc q h) hFc (fun r_1 u t H1 locs ht hvm hw hB hz1 hk1 hS => ?_)
  obtain ⟨hP1, hK1, hD1⟩ := hB
  rw [ht] at hP1
  obtain ⟨hP, hD⟩ := va_join (wr := []) (w1 := []) hP hD [] [] rfl rfl (by decide) (by decide) hk1 hFc hP1 hD1
  generalize H1 = H at hP hS ⊢
  have hP : va_P (dC, dI) vwCl [] H := hP
  have hD : va_D A [] := hD
  try dsimp only at hw
  obtain rfl : r_1 = 0 := hw
  refine lv_ishr hx hb dJ0_length_8abf5_9 ?_
  refine lv_topi (fun v_2 ev_2 => ?_)
  obtain rfl : v_2 = 115 := ev_2.trans (by decide)
  have hP9 := hP.sub (ws' := []) [] rfl
  have hD9 := hD.sub (ws' := []) [] (by decide) rfl
  have hK9 := hK.sub (tys' := []) [] rfl
  exact W.iret (v := 115) hx hb hr (fun t ht hW => ⟨⟨115, (), rfl, rfl, by rw [ht]; exact hP9, va_K.moved hW.alike hK9, hD9⟩, hS.F ht⟩) hS.2.2 dJ0_length_8abf5_10
def zo_s_isLatin1 : List Cond := [.code yJ0_isLatin1_aae02 cJ0_isLatin1_aae02 1 (some .boolean), .fieldLink RJ0 38 "java/lang/String" "COMPACT_STRINGS" "Z", .fieldLink RJ0 15 "java/lang/String" "coder" "B"]
def zw_s_isLatin1 : List Cond := zo_s_isLatin1 ++ []
theorem gz_s_isLatin1 : zw_s_isLatin1.all goodWord = true := p1_ga (by decide +kernel) p1_g0
theorem iz_s_isLatin1 : ∀ w ∈ zw_s_isLatin1, w ∈ lw_tbl := p1_ia (p1_all [272, 263, 1698] (by decide +kernel)) p1_i0
set_option maxHeartbeats 4000000 in
set_option maxRecDepth 100000 in
theorem s_isLatin1 (l : Launch) (dC : Nat → ClassId) (dI : Nat → Nat → Nat) (sz : Nat) (sK : Nat) (sV : Nat) (sf : Nat → Int32) : Met l yJ0_isLatin1_aae02 zw_s_isLatin1 ({ frames := 0, cells := 0, slots := 0, locals := 0 }) (va_Pc [.ref sK] (fun U => U.heap.size = sz ∧ va_P (dC, dI) vwCl [] U.heap ∧ va_K (dC, dI) vwCl [] U ∧ va_D (fun _ => True) [] ∧ p1_st sK sV sf (va_A [] sz) U U.heap)) (va_Qi (fun (r : Int32) (_ : Unit) => r = 1) (fun _ t => va_P (dC, dI) vwCl [] t.heap ∧ va_K (dC, dI) vwCl [] t ∧ va_D (va_A [] sz) []) (va_A [] sz)) 0 0 (va_A [] sz) := by
  refine Met.ofW (cc := cJ0_isLatin1_aae02) (maxL := 1) (ret := (some .boolean)) (by decide) rfl ?_
  intro p e s m args below meth c s₁ B hml hv
  obtain ⟨rfl, hsz, hP, hK, hD0, hE⟩ := hv
  have hx := B.exec
  have hb := B.bytes
  have hr := B.returns
  have hts := atoms_spec (ws := zw_s_isLatin1) B.pre
  have hown : s.vm.findClass RJ0 = some m.cls := findClass_of_methodNamed B.named
  have hlocks := B.notSynchronized
  subst hsz
  have hD := hD0.self (sz := s.heap.size)
  generalize hAe : va_A [] s.heap.size = A at hD hE ⊢
  have hA : ∀ q : Nat, s.heap.size ≤ q → A q := fun q h => by rw [← hAe]; exact Or.inr h
  have hS : va_S A s.heap s.heap [] := va_S.rf
  have hP : va_P (dC, dI) vwCl [] s.heap := hP
  obtain ⟨t1, t2, t3, t4, z1, z2⟩ := id hE
  have m_0 : (.fieldLink RJ0 38 "java/lang/String" "COMPACT_STRINGS" "Z" : Cond) ∈ zw_s_isLatin1 := List.mem_append_left _ (List.mem_of_getElem? (i := 1) rfl)
  have k_0 := hts _ m_0
  have m_1 : (.fieldLink RJ0 15 "java/lang/String" "coder" "B" : Cond) ∈ zw_s_isLatin1 := List.mem_append_left _ (List.mem_of_getElem? (i := 2) rfl)
  have k_1 := hts _ m_1
  have hl := lv_entry ([.ref sK]) (n := 1) (Nat.le_of_ble_eq_true rfl)
  rw [lg_entry_eq]
  generalize (lg_sl ([.ref sK]) ++ List.replicate (1 - (lg_sl ([.ref sK])).length) Slot.unset).toArray = ls at hl ⊢
  have hl : lv_has ls 1 [(0, .ref sK)] := hl
  refine va_gets (v := .int 1) hx hb z1 hS hown k_0 (fun _ h9 => h9) dJ0_isLatin1_aae02_0 ?_
  refine lv_if_eq (tgt := 17) hx hb dJ0_isLatin1_aae02_3 (by decide) (fun c9 => absurd c9 (by decide)) (fun _ => ?_)
  refine lv_aload_n hx hb dJ0_isLatin1_aae02_6 rfl (lv_at hl 0 rfl) ?_
  refine vk_getf (v := .int 0) hx hb t2 hS hown k_1 (fun _ h9 => h9) dJ0_isLatin1_aae02_7 ?_
  refine lv_if_ne (tgt := 17) hx hb dJ0_isLatin1_aae02_10 (by decide) (fun c9 => absurd c9 (by decide)) (fun _ => ?_)
  refine lv_iconst (v := 1) hx hb dJ0_isLatin1_aae02_13 (by decide) ?_
  refine lv_goto (tgt := 18) hx hb dJ0_isLatin1_aae02_14 (by decide) ?_
  have hP9 := hP.sub (ws' := []) [] rfl
  have hD9 := hD.sub (ws' := []) [] (by decide) rfl
  have hK9 := hK.sub (tys' := []) [] rfl
  exact W.zret (v := 1) hx hb hr (by decide) (fun t ht hW => ⟨⟨1, (), rfl, rfl, by rw [ht]; exact hP9, va_K.moved hW.alike hK9, hD9⟩, hS.F ht⟩) hS.2.2 dJ0_isLatin1_aae02_18
def zo_s_pciN : List Cond := [.code yJ3_checkIndex_8e157 cJ3_checkIndex_8e157 3 (some .int)]
def zw_s_pciN : List Cond := zo_s_pciN ++ []
theorem gz_s_pciN : zw_s_pciN.all goodWord = true := p1_ga (by decide +kernel) p1_g0
theorem iz_s_pciN : ∀ w ∈ zw_s_pciN, w ∈ lw_tbl := p1_ia (p1_all [283] (by decide +kernel)) p1_i0
set_option maxHeartbeats 4000000 in
set_option maxRecDepth 100000 in
theorem s_pciN (l : Launch) (dC : Nat → ClassId) (dI : Nat → Nat → Nat) (sz : Nat) (a1 : Int32) (h1 : ¬ a1 < 0) (h2 : a1 < 115) : Met l yJ3_checkIndex_8e157 zw_s_pciN ({ frames := 0, cells := 0, slots := 0, locals := 0 }) (va_Pc [.int a1, .int 115, .null] (fun U => U.heap.size = sz ∧ va_P (dC, dI) vwCl [] U.heap ∧ va_K (dC, dI) vwCl [] U ∧ va_D (fun _ => True) [])) (va_Qi (fun (r : Int32) (_ : Unit) => True) (fun _ t => va_P (dC, dI) vwCl [] t.heap ∧ va_K (dC, dI) vwCl [] t ∧ va_D (va_A [] sz) []) (va_A [] sz)) 0 0 (va_A [] sz) := by
  refine Met.ofW (cc := cJ3_checkIndex_8e157) (maxL := 3) (ret := (some .int)) (by decide) rfl ?_
  intro p e s m args below meth c s₁ B hml hv
  obtain ⟨rfl, hsz, hP, hK, hD0⟩ := hv
  have hx := B.exec
  have hb := B.bytes
  have hr := B.returns
  have hts := atoms_spec (ws := zw_s_pciN) B.pre
  have hown : s.vm.findClass RJ3 = some m.cls := findClass_of_methodNamed B.named
  have hlocks := B.notSynchronized
  subst hsz
  have hD := hD0.self (sz := s.heap.size)
  generalize hAe : va_A [] s.heap.size = A at hD ⊢
  have hA : ∀ q : Nat, s.heap.size ≤ q → A q := fun q h => by rw [← hAe]; exact Or.inr h
  have hS : va_S A s.heap s.heap [] := va_S.rf
  have hP : va_P (dC, dI) vwCl [] s.heap := hP
  have hl := lv_entry ([.int a1, .int 115, .null]) (n := 3) (Nat.le_of_ble_eq_true rfl)
  rw [lg_entry_eq]
  generalize (lg_sl ([.int a1, .int 115, .null]) ++ List.replicate (3 - (lg_sl ([.int a1, .int 115, .null])).length) Slot.unset).toArray = ls at hl ⊢
  have hl : lv_has ls 3 [(0, .int a1), (1, .int 115), (2, .null)] := hl
  refine lv_iload_n hx hb dJ3_checkIndex_8e157_0 rfl (lv_at hl 0 rfl) ?_
  refine lv_if_lt (tgt := 9) hx hb dJ3_checkIndex_8e157_1 (by decide) (fun c1 => absurd c1 h1) (fun c1 => ?_)
  refine lv_iload_n hx hb dJ3_checkIndex_8e157_4 rfl (lv_at hl 0 rfl) ?_
  refine lv_iload_n hx hb dJ3_checkIndex_8e157_5 rfl (lv_at hl 1 rfl) ?_
  refine lv_icmp_lt (tgt := 16) hx hb dJ3_checkIndex_8e157_6 (by decide) (fun c6 => ?_) (fun c6 => absurd c6 (fun z9 => z9 h2))
  refine lv_iload_n hx hb dJ3_checkIndex_8e157_16 rfl (lv_at hl 0 rfl) ?_
  have hP9 := hP.sub (ws' := []) [] rfl
  have hD9 := hD.sub (ws' := []) [] (by decide) rfl
  have hK9 := hK.sub (tys' := []) [] rfl
  exact W.iret (v := a1) hx hb hr (fun t ht hW => ⟨⟨a1, (), rfl, trivial, by rw [ht]; exact hP9, va_K.moved hW.alike hK9, hD9⟩, hS.F ht⟩) hS.2.2 dJ3_checkIndex_8e157_17
def zo_s_pciR : List Cond := [.code yJ3_checkIndex_8e157 cJ3_checkIndex_8e157 3 (some .int)]
def zw_s_pciR : List Cond := zo_s_pciR ++ []
theorem gz_s_pciR : zw_s_pciR.all goodWord = true := p1_ga (by decide +kernel) p1_g0
theorem iz_s_pciR : ∀ w ∈ zw_s_pciR, w ∈ lw_tbl := p1_ia (p1_all [283] (by decide +kernel)) p1_i0
set_option maxHeartbeats 4000000 in
set_option maxRecDepth 100000 in
theorem s_pciR (l : Launch) (dC : Nat → ClassId) (dI : Nat → Nat → Nat) (sz : Nat) (a1 : Int32) (tq : Nat) (h1 : ¬ a1 < 0) (h2 : a1 < 115) : Met l yJ3_checkIndex_8e157 zw_s_pciR ({ frames := 0, cells := 0, slots := 0, locals := 0 }) (va_Pc [.int a1, .int 115, .ref tq] (fun U => U.heap.size = sz ∧ va_P (dC, dI) vwCl [] U.heap ∧ va_K (dC, dI) vwCl [] U ∧ va_D (fun _ => True) [])) (va_Qi (fun (r : Int32) (_ : Unit) => True) (fun _ t => va_P (dC, dI) vwCl [] t.heap ∧ va_K (dC, dI) vwCl [] t ∧ va_D (va_A [] sz) []) (va_A [] sz)) 0 0 (va_A [] sz) := by
  refine Met.ofW (cc := cJ3_checkIndex_8e157) (maxL := 3) (ret := (some .int)) (by decide) rfl ?_
  intro p e s m args below meth c s₁ B hml hv
  obtain ⟨rfl, hsz, hP, hK, hD0⟩ := hv
  have hx := B.exec
  have hb := B.bytes
  have hr := B.returns
  have hts := atoms_spec (ws := zw_s_pciR) B.pre
  have hown : s.vm.findClass RJ3 = some m.cls := findClass_of_methodNamed B.named
  have hlocks := B.notSynchronized
  subst hsz
  have hD := hD0.self (sz := s.heap.size)
  generalize hAe : va_A [] s.heap.size = A at hD ⊢
  have hA : ∀ q : Nat, s.heap.size ≤ q → A q := fun q h => by rw [← hAe]; exact Or.inr h
  have hS : va_S A s.heap s.heap [] := va_S.rf
  have hP : va_P (dC, dI) vwCl [] s.heap := hP
  have hl := lv_entry ([.int a1, .int 115, .ref tq]) (n := 3) (Nat.le_of_ble_eq_true rfl)
  rw [lg_entry_eq]
  generalize (lg_sl ([.int a1, .int 115, .ref tq]) ++ List.replicate (3 - (lg_sl ([.int a1, .int 115, .ref tq])).length) Slot.unset).toArray = ls at hl ⊢
  have hl : lv_has ls 3 [(0, .int a1), (1, .int 115), (2, .ref tq)] := hl
  refine lv_iload_n hx hb dJ3_checkIndex_8e157_0 rfl (lv_at hl 0 rfl) ?_
  refine lv_if_lt (tgt := 9) hx hb dJ3_checkIndex_8e157_1 (by decide) (fun c1 => absurd c1 h1) (fun c1 => ?_)
  refine lv_iload_n hx hb dJ3_checkIndex_8e157_4 rfl (lv_at hl 0 rfl) ?_
  refine lv_iload_n hx hb dJ3_checkIndex_8e157_5 rfl (lv_at hl 1 rfl) ?_
  refine lv_icmp_lt (tgt := 16) hx hb dJ3_checkIndex_8e157_6 (by decide) (fun c6 => ?_) (fun c6 => absurd c6 (fun z9 => z9 h2))
  refine lv_iload_n hx hb dJ3_checkIndex_8e157_16 rfl (lv_at hl 0 rfl) ?_
  have hP9 := hP.sub (ws' := []) [] rfl
  have hD9 := hD.sub (ws' := []) [] (by decide) rfl
  have hK9 := hK.sub (tys' := []) [] rfl
  exact W.iret (v := a1) hx hb hr (fun t ht hW => ⟨⟨a1, (), rfl, trivial, by rw [ht]; exact hP9, va_K.moved hW.alike hK9, hD9⟩, hS.F ht⟩) hS.2.2 dJ3_checkIndex_8e157_17
def zo_s_checkIndex : List Cond := [.code yJ0_checkIndex_df160 cJ0_checkIndex_df160 2 none, .fieldLink RJ0 1053 "jdk/internal/util/Preconditions" "SIOOBE_FORMATTER" "Ljava/util/function/BiFunction;", .methodLink RJ0 1059 yJ3_checkIndex_8e157, .static yJ3_checkIndex_8e157, .initialized RJ3]
def zw_s_checkIndex : List Cond := zo_s_checkIndex ++ (zw_s_pciN ++ (zw_s_pciR ++ []))
theorem gz_s_checkIndex : zw_s_checkIndex.all goodWord = true := p1_ga (by decide +kernel) (p1_ga gz_s_pciN (p1_ga gz_s_pciR p1_g0))
theorem iz_s_checkIndex : ∀ w ∈ zw_s_checkIndex, w ∈ lw_tbl := p1_ia (p1_all [278, 279, 281, 282, 110] (by decide +kernel)) (p1_ia iz_s_pciN (p1_ia iz_s_pciR p1_i0))
set_option maxHeartbeats 4000000 in
set_option maxRecDepth 100000 in
theorem s_checkIndex (l : Launch) (dC : Nat → ClassId) (dI : Nat → Nat → Nat) (sz : Nat) (a1 : Int32) (sK : Nat) (sV : Nat) (sf : Nat → Int32) (h1 : ¬ a1 < 0) (h2 : a1 < 115) : Met l yJ0_checkIndex_df160 zw_s_checkIndex ({ frames := 1, cells := 0, slots := 0, locals := 22 }) (va_Pc [.int a1, .int 115] (fun U => U.heap.size = sz ∧ va_P (dC, dI) vwCl [] U.heap ∧ va_K (dC, dI) vwCl [] U ∧ va_D (fun _ => True) [] ∧ p1_st sK sV sf (va_A [] sz) U U.heap)) (va_Qv (fun (_ : Unit) => True) (fun _ t => va_P (dC, dI) vwCl [] t.heap ∧ va_K (dC, dI) vwCl [] t ∧ va_D (va_A [] sz) []) (va_A [] sz)) 0 0 (va_A [] sz) := by
  refine Met.ofW (cc := cJ0_checkIndex_df160) (maxL := 2) (ret := none) (by decide) rfl ?_
  intro p e s m args below meth c s₁ B hml hv
  obtain ⟨rfl, hsz, hP, hK, hD0, hE⟩ := hv
  have hx := B.exec
  have hb := B.bytes
  have hr := B.returns
  have hts := atoms_spec (ws := zw_s_checkIndex) B.pre
  have hown : s.vm.findClass RJ0 = some m.cls := findClass_of_methodNamed B.named
  have hlocks := B.notSynchronized
  subst hsz
  have hD := hD0.self (sz := s.heap.size)
  generalize hAe : va_A [] s.heap.size = A at hD hE ⊢
  have hA : ∀ q : Nat, s.heap.size ≤ q → A q := fun q h => by rw [← hAe]; exact Or.inr h
  have hS : va_S A s.heap s.heap [] := va_S.rf
  have hP : va_P (dC, dI) vwCl [] s.heap := hP
  obtain ⟨t1, t2, t3, t4, z1, z2⟩ := id hE
  have m_0 : (.fieldLink RJ0 1053 "jdk/internal/util/Preconditions" "SIOOBE_FORMATTER" "Ljava/util/function/BiFunction;" : Cond) ∈ zw_s_checkIndex := List.mem_append_left _ (List.mem_of_getElem? (i := 1) rfl)
  have k_0 := hts _ m_0
  have m_1 : (.methodLink RJ0 1059 yJ3_checkIndex_8e157 : Cond) ∈ zw_s_checkIndex := List.mem_append_left _ (List.mem_of_getElem? (i := 2) rfl)
  have k_1 := hts _ m_1
  have m_2 : (.static yJ3_checkIndex_8e157 : Cond) ∈ zw_s_checkIndex := List.mem_append_left _ (List.mem_of_getElem? (i := 3) rfl)
  have k_2 := hts _ m_2
  have m_3 : (.initialized RJ3 : Cond) ∈ zw_s_checkIndex := List.mem_append_left _ (List.mem_of_getElem? (i := 4) rfl)
  have k_3 := hts _ m_3
  have g_s_pciN : ∀ w ∈ zw_s_pciN, w ∈ zw_s_checkIndex := fun w h => List.mem_append_right _ (List.mem_append_left _ h)
  have g_s_pciR : ∀ w ∈ zw_s_pciR, w ∈ zw_s_checkIndex := fun w h => List.mem_append_right _ (List.mem_append_right _ (List.mem_append_left _ h))
  have hl := lv_entry ([.int a1, .int 115]) (n := 2) (Nat.le_of_ble_eq_true rfl)
  rw [lg_entry_eq]
  generalize (lg_sl ([.int a1, .int 115]) ++ List.replicate (2 - (lg_sl ([.int a1, .int 115])).length) Slot.unset).toArray = ls at hl ⊢
  have hl : lv_has ls 2 [(0, .int a1), (1, .int 115)] := hl
  refine lv_iload_n hx hb dJ0_checkIndex_df160_0 rfl (lv_at hl 0 rfl) ?_
  refine lv_iload_n hx hb dJ0_checkIndex_df160_1 rfl (lv_at hl 1 rfl) ?_
  rcases z2 with z2 | ⟨tq, z2⟩
  · refine va_gets (v := .null) hx hb z2 hS hown k_0 (fun _ h9 => h9) dJ0_checkIndex_df160_2 ?_
    have hPc := hP.sub (ws' := []) [] rfl
    have hDc := hD.sub (ws' := []) [] (by decide) rfl
    have hKc := hK.sub (tys' := []) [] rfl
    have hFc := va_free (wc := []) hD hS hA [] rfl
    refine va_calli (va_runS (As := [.int a1, .int 115, .null]) (rest := []) ⟨hx, hb, hml, hown, hts⟩ (s_pciN l dC dI s.heap.size a1 h1 h2) (va_cwS 3 hts (p1_gS m_1 m_2 m_3 g_s_pciN gz_s_pciN) rfl rfl rfl (by decide +kernel) ⟨by decide, by decide⟩) ⟨fun a U g mk q => by obtain ⟨q0, q1, qP, qK, qD⟩ := q; exact ⟨q0, q1, qP, va_K.moved (u := U) (U := U.calling g mk a) (Vm.Alike.refl U.vm) qK, qD⟩, fun U hU hW => ⟨rfl, by rw [hU], by rw [hU]; exact hPc, va_K.moved hW.alike hKc, hDc.weaken (fun _ _ _ _ => trivial)⟩⟩ rfl rfl hl.1 rfl (lv_room (Nat.le_of_ble_eq_true rfl)) dJ0_checkIndex_df160_5 ⟨by decide, by decide⟩) hS (fun q _ h => hFc q h) hFc (fun r_1 u t H1 locs ht hvm hw hB hz1 hk1 hS => ?_)
    obtain ⟨hP1, hK1, hD1⟩ := hB
    rw [ht] at hP1
    obtain ⟨hP, hD⟩ := va_join (wr := []) (w1 := []) hP hD [] [] rfl rfl (by decide) (by decide) hk1 hFc hP1 hD1
    generalize H1 = H at hP hS ⊢
    have hP : va_P (dC, dI) vwCl [] H := hP
    have hD : va_D A [] := hD
    try dsimp only at hw
    have hw_2 := hw
    refine lv_pop hx hb dJ0_checkIndex_df160_8 rfl ?_
    have hP9 := hP.sub (ws' := []) [] rfl
    have hD9 := hD.sub (ws' := []) [] (by decide) rfl
    have hK9 := hK.sub (tys' := []) [] rfl
    exact W.vret hx hb hr (fun t ht hW => ⟨⟨(), rfl, trivial, by rw [ht]; exact hP9, va_K.moved hW.alike hK9, hD9⟩, hS.F ht⟩) hS.2.2 dJ0_checkIndex_df160_9
  · refine va_gets (v := .ref tq) hx hb z2 hS hown k_0 (fun _ h9 => h9) dJ0_checkIndex_df160_2 ?_
    have hPc := hP.sub (ws' := []) [] rfl
    have hDc := hD.sub (ws' := []) [] (by decide) rfl
    have hKc := hK.sub (tys' := []) [] rfl
    have hFc := va_free (wc := []) hD hS hA [] rfl
    refine va_calli (va_runS (As := [.int a1, .int 115, .ref tq]) (rest := []) ⟨hx, hb, hml, hown, hts⟩ (s_pciR l dC dI s.heap.size a1 tq h1 h2) (va_cwS 3 hts (p1_gS m_1 m_2 m_3 g_s_pciR gz_s_pciR) rfl rfl rfl (by decide +kernel) ⟨by decide, by decide⟩) ⟨fun a U g mk q => by obtain ⟨q0, q1, qP, qK, qD⟩ := q; exact ⟨q0, q1, qP, va_K.moved (u := U) (U := U.calling g mk a) (Vm.Alike.refl U.vm) qK, qD⟩, fun U hU hW => ⟨rfl, by rw [hU], by rw [hU]; exact hPc, va_K.moved hW.alike hKc, hDc.weaken (fun _ _ _ _ => trivial)⟩⟩ rfl rfl hl.1 rfl (lv_room (Nat.le_of_ble_eq_true rfl)) dJ0_checkIndex_df160_5 ⟨by decide, by decide⟩) hS (fun q _ h => hFc q h) hFc (fun r_3 u t H1 locs ht hvm hw hB hz1 hk1 hS => ?_)
    obtain ⟨hP1, hK1, hD1⟩ := hB
    rw [ht] at hP1
    obtain ⟨hP, hD⟩ := va_join (wr := []) (w1 := []) hP hD [] [] rfl rfl (by decide) (by decide) hk1 hFc hP1 hD1
    generalize H1 = H at hP hS ⊢
    have hP : va_P (dC, dI) vwCl [] H := hP
    have hD : va_D A [] := hD
    try dsimp only at hw
    have hw_4 := hw
    refine lv_pop hx hb dJ0_checkIndex_df160_8 rfl ?_
    have hP9 := hP.sub (ws' := []) [] rfl
    have hD9 := hD.sub (ws' := []) [] (by decide) rfl
    have hK9 := hK.sub (tys' := []) [] rfl
    exact W.vret hx hb hr (fun t ht hW => ⟨⟨(), rfl, trivial, by rw [ht]; exact hP9, va_K.moved hW.alike hK9, hD9⟩, hS.F ht⟩) hS.2.2 dJ0_checkIndex_df160_9
def zo_s_lchar : List Cond := [.code yJ1_charAt_3b067 cJ1_charAt_3b067 2 (some .char), .methodLink RJ1 9 yJ0_checkIndex_df160, .static yJ0_checkIndex_df160, .initialized RJ0]
def zw_s_lchar : List Cond := zo_s_lchar ++ (zw_s_checkIndex ++ [])
theorem gz_s_lchar : zw_s_lchar.all goodWord = true := p1_ga (by decide +kernel) (p1_ga gz_s_checkIndex p1_g0)
theorem iz_s_lchar : ∀ w ∈ zw_s_lchar, w ∈ lw_tbl := p1_ia (p1_all [275, 276, 277, 108] (by decide +kernel)) (p1_ia iz_s_checkIndex p1_i0)
set_option maxHeartbeats 4000000 in
set_option maxRecDepth 100000 in
theorem s_lchar (l : Launch) (dC : Nat → ClassId) (dI : Nat → Nat → Nat) (sz : Nat) (sV : Nat) (a1 : Int32) (sK : Nat) (sf : Nat → Int32) (h1 : ¬ a1 < 0) (h2 : a1 < 115) : Met l yJ1_charAt_3b067 zw_s_lchar ({ frames := 2, cells := 0, slots := 0, locals := 43 }) (va_Pc [.ref sV, .int a1] (fun U => U.heap.size = sz ∧ va_P (dC, dI) vwCl [] U.heap ∧ va_K (dC, dI) vwCl [] U ∧ va_D (fun _ => True) [] ∧ p1_st sK sV sf (va_A [] sz) U U.heap)) (va_Qi (fun (r : Int32) (_ : Unit) => narrow .char (.int r) = .int r) (fun _ t => va_P (dC, dI) vwCl [] t.heap ∧ va_K (dC, dI) vwCl [] t ∧ va_D (va_A [] sz) []) (va_A [] sz)) 0 0 (va_A [] sz) := by
  refine Met.ofW (cc := cJ1_charAt_3b067) (maxL := 2) (ret := (some .char)) (by decide) rfl ?_
  intro p e s m args below meth c s₁ B hml hv
  obtain ⟨rfl, hsz, hP, hK, hD0, hE⟩ := hv
  have hx := B.exec
  have hb := B.bytes
  have hr := B.returns
  have hts := atoms_spec (ws := zw_s_lchar) B.pre
  have hown : s.vm.findClass RJ1 = some m.cls := findClass_of_methodNamed B.named
  have hlocks := B.notSynchronized
  subst hsz
  have hD := hD0.self (sz := s.heap.size)
  generalize hAe : va_A [] s.heap.size = A at hD hE ⊢
  have hA : ∀ q : Nat, s.heap.size ≤ q → A q := fun q h => by rw [← hAe]; exact Or.inr h
  have hS : va_S A s.heap s.heap [] := va_S.rf
  have hP : va_P (dC, dI) vwCl [] s.heap := hP
  obtain ⟨t1, t2, t3, t4, z1, z2⟩ := id hE
  have m_0 : (.methodLink RJ1 9 yJ0_checkIndex_df160 : Cond) ∈ zw_s_lchar := List.mem_append_left _ (List.mem_of_getElem? (i := 1) rfl)
  have k_0 := hts _ m_0
  have m_1 : (.static yJ0_checkIndex_df160 : Cond) ∈ zw_s_lchar := List.mem_append_left _ (List.mem_of_getElem? (i := 2) rfl)
  have k_1 := hts _ m_1
  have m_2 : (.initialized RJ0 : Cond) ∈ zw_s_lchar := List.mem_append_left _ (List.mem_of_getElem? (i := 3) rfl)
  have k_2 := hts _ m_2
  have g_s_checkIndex : ∀ w ∈ zw_s_checkIndex, w ∈ zw_s_lchar := fun w h => List.mem_append_right _ (List.mem_append_left _ h)
  have hl := lv_entry ([.ref sV, .int a1]) (n := 2) (Nat.le_of_ble_eq_true rfl)
  rw [lg_entry_eq]
  generalize (lg_sl ([.ref sV, .int a1]) ++ List.replicate (2 - (lg_sl ([.ref sV, .int a1])).length) Slot.unset).toArray = ls at hl ⊢
  have hl : lv_has ls 2 [(0, .ref sV), (1, .int a1)] := hl
  refine lv_iload_n hx hb dJ1_charAt_3b067_0 rfl (lv_at hl 1 rfl) ?_
  refine lv_aload_n hx hb dJ1_charAt_3b067_1 rfl (lv_at hl 0 rfl) ?_
  refine va_tlen (v := 115) hx hb t4 hS rfl dJ1_charAt_3b067_2 ?_
  have hPc := hP.sub (ws' := []) [] rfl
  have hDc := hD.sub (ws' := []) [] (by decide) rfl
  have hKc := hK.sub (tys' := []) [] rfl
  have hFc := va_free (wc := []) hD hS hA [] rfl
  refine va_callv (va_runS (As := [.int a1, .int 115]) (rest := []) ⟨hx, hb, hml, hown, hts⟩ (s_checkIndex l dC dI s.heap.size a1 sK sV sf h1 h2) (va_cwS 2 hts (p1_gS m_0 m_1 m_2 g_s_checkIndex gz_s_checkIndex) rfl rfl rfl (by decide +kernel) ⟨by decide, by decide⟩) ⟨fun a U g mk q => by obtain ⟨q0, q1, qP, qK, qD, qE⟩ := q; exact ⟨q0, q1, qP, va_K.moved (u := U) (U := U.calling g mk a) (Vm.Alike.refl U.vm) qK, qD, qE⟩, fun U hU hW => ⟨rfl, by rw [hU], by rw [hU]; exact hPc, va_K.moved hW.alike hKc, hDc.weaken (fun _ _ _ _ => trivial), by rw [hU]; exact p1_st.warm hE hW hS (fun q h => hFc q h)⟩⟩ rfl rfl hl.1 rfl (lv_room (Nat.le_of_ble_eq_true rfl)) dJ1_charAt_3b067_3 ⟨by decide, by decide⟩) hS (fun q _ h => hFc q h) hFc (fun u t H1 locs ht hvm hw hB hz1 hk1 hS => ?_)
  obtain ⟨hP1, hK1, hD1⟩ := hB
  rw [ht] at hP1
  obtain ⟨hP, hD⟩ := va_join (wr := []) (w1 := []) hP hD [] [] rfl rfl (by decide) (by decide) hk1 hFc hP1 hD1
  generalize H1 = H at hP hS ⊢
  have hP : va_P (dC, dI) vwCl [] H := hP
  have hD : va_D A [] := hD
  try dsimp only at hw
  refine lv_aload_n hx hb dJ1_charAt_3b067_6 rfl (lv_at hl 0 rfl) ?_
  refine lv_iload_n hx hb dJ1_charAt_3b067_7 rfl (lv_at hl 1 rfl) ?_
  refine va_tb hx hb t4 hS (p1_115 h1 h2) rfl dJ1_charAt_3b067_8 ?_
  refine lv_topi (fun v_2 ev_2 => ?_)
  refine lv_sipush (v := 255) hx hb dJ1_charAt_3b067_9 (by decide) ?_
  refine lv_iand hx hb dJ1_charAt_3b067_12 ?_
  refine lv_topi (fun v_3 ev_3 => ?_)
  refine lv_i2c hx hb dJ1_charAt_3b067_13 rfl ?_
  refine lv_topi (fun v_5 ev_5 => ?_)
  have hP9 := hP.sub (ws' := []) [] rfl
  have hD9 := hD.sub (ws' := []) [] (by decide) rfl
  have hK9 := hK.sub (tys' := []) [] rfl
  exact W.zret (v := v_5) hx hb hr (by rw [ev_5]; exact pk_nc _) (fun t ht hW => ⟨⟨v_5, (), rfl, (by rw [ev_5]; exact pk_nc _), by rw [ht]; exact hP9, va_K.moved hW.alike hK9, hD9⟩, hS.F ht⟩) hS.2.2 dJ1_charAt_3b067_14
def zo_s_charAt : List Cond := [.code yJ0_charAt_5068e cJ0_charAt_5068e 2 (some .char), .methodLink RJ0 492 yJ0_isLatin1_aae02, .instanceMethod yJ0_isLatin1_aae02, .selects RJ0 yJ0_isLatin1_aae02 yJ0_isLatin1_aae02, .initialized RJ0, .fieldLink RJ0 9 "java/lang/String" "value" "[B", .methodLink RJ0 495 yJ1_charAt_3b067, .static yJ1_charAt_3b067, .initialized RJ1]
def zw_s_charAt : List Cond := zo_s_charAt ++ (zw_s_isLatin1 ++ (zw_s_lchar ++ []))
theorem gz_s_charAt : zw_s_charAt.all goodWord = true := p1_ga (by decide +kernel) (p1_ga gz_s_isLatin1 (p1_ga gz_s_lchar p1_g0))
theorem iz_s_charAt : ∀ w ∈ zw_s_charAt, w ∈ lw_tbl := p1_ia (p1_all [268, 269, 270, 271, 108, 1697, 273, 274, 109] (by decide +kernel)) (p1_ia iz_s_isLatin1 (p1_ia iz_s_lchar p1_i0))
set_option maxHeartbeats 4000000 in
set_option maxRecDepth 100000 in
theorem s_charAt (l : Launch) (dC : Nat → ClassId) (dI : Nat → Nat → Nat) (sz : Nat) (sK : Nat) (a1 : Int32) (sV : Nat) (sf : Nat → Int32) (h1 : ¬ a1 < 0) (h2 : a1 < 115) : Met l yJ0_charAt_5068e zw_s_charAt ({ frames := 3, cells := 0, slots := 0, locals := 64 }) (va_Pc [.ref sK, .int a1] (fun U => U.heap.size = sz ∧ va_P (dC, dI) vwCl [] U.heap ∧ va_K (dC, dI) vwCl [] U ∧ va_D (fun _ => True) [] ∧ p1_st sK sV sf (va_A [] sz) U U.heap)) (va_Qi (fun (r : Int32) (_ : Unit) => narrow .char (.int r) = .int r) (fun _ t => va_P (dC, dI) vwCl [] t.heap ∧ va_K (dC, dI) vwCl [] t ∧ va_D (va_A [] sz) []) (va_A [] sz)) 0 0 (va_A [] sz) := by
  refine Met.ofW (cc := cJ0_charAt_5068e) (maxL := 2) (ret := (some .char)) (by decide) rfl ?_
  intro p e s m args below meth c s₁ B hml hv
  obtain ⟨rfl, hsz, hP, hK, hD0, hE⟩ := hv
  have hx := B.exec
  have hb := B.bytes
  have hr := B.returns
  have hts := atoms_spec (ws := zw_s_charAt) B.pre
  have hown : s.vm.findClass RJ0 = some m.cls := findClass_of_methodNamed B.named
  have hlocks := B.notSynchronized
  subst hsz
  have hD := hD0.self (sz := s.heap.size)
  generalize hAe : va_A [] s.heap.size = A at hD hE ⊢
  have hA : ∀ q : Nat, s.heap.size ≤ q → A q := fun q h => by rw [← hAe]; exact Or.inr h
  have hS : va_S A s.heap s.heap [] := va_S.rf
  have hP : va_P (dC, dI) vwCl [] s.heap := hP
  obtain ⟨t1, t2, t3, t4, z1, z2⟩ := id hE
  have m_0 : (.methodLink RJ0 492 yJ0_isLatin1_aae02 : Cond) ∈ zw_s_charAt := List.mem_append_left _ (List.mem_of_getElem? (i := 1) rfl)
  have k_0 := hts _ m_0
  have m_1 : (.instanceMethod yJ0_isLatin1_aae02 : Cond) ∈ zw_s_charAt := List.mem_append_left _ (List.mem_of_getElem? (i := 2) rfl)
  have k_1 := hts _ m_1
  have m_2 : (.selects RJ0 yJ0_isLatin1_aae02 yJ0_isLatin1_aae02 : Cond) ∈ zw_s_charAt := List.mem_append_left _ (List.mem_of_getElem? (i := 3) rfl)
  have k_2 := hts _ m_2
  have m_3 : (.initialized RJ0 : Cond) ∈ zw_s_charAt := List.mem_append_left _ (List.mem_of_getElem? (i := 4) rfl)
  have k_3 := hts _ m_3
  have m_4 : (.fieldLink RJ0 9 "java/lang/String" "value" "[B" : Cond) ∈ zw_s_charAt := List.mem_append_left _ (List.mem_of_getElem? (i := 5) rfl)
  have k_4 := hts _ m_4
  have m_5 : (.methodLink RJ0 495 yJ1_charAt_3b067 : Cond) ∈ zw_s_charAt := List.mem_append_left _ (List.mem_of_getElem? (i := 6) rfl)
  have k_5 := hts _ m_5
  have m_6 : (.static yJ1_charAt_3b067 : Cond) ∈ zw_s_charAt := List.mem_append_left _ (List.mem_of_getElem? (i := 7) rfl)
  have k_6 := hts _ m_6
  have m_7 : (.initialized RJ1 : Cond) ∈ zw_s_charAt := List.mem_append_left _ (List.mem_of_getElem? (i := 8) rfl)
  have k_7 := hts _ m_7
  have g_s_isLatin1 : ∀ w ∈ zw_s_isLatin1, w ∈ zw_s_charAt := fun w h => List.mem_append_right _ (List.mem_append_left _ h)
  have g_s_lchar : ∀ w ∈ zw_s_lchar, w ∈ zw_s_charAt := fun w h => List.mem_append_right _ (List.mem_append_right _ (List.mem_append_left _ h))
  have hl := lv_entry ([.ref sK, .int a1]) (n := 2) (Nat.le_of_ble_eq_true rfl)
  rw [lg_entry_eq]
  generalize (lg_sl ([.ref sK, .int a1]) ++ List.replicate (2 - (lg_sl ([.ref sK, .int a1])).length) Slot.unset).toArray = ls at hl ⊢
  have hl : lv_has ls 2 [(0, .ref sK), (1, .int a1)] := hl
  refine lv_aload_n hx hb dJ0_charAt_5068e_0 rfl (lv_at hl 0 rfl) ?_
  have hPc := hP.sub (ws' := []) [] rfl
  have hDc := hD.sub (ws' := []) [] (by decide) rfl
  have hKc := hK.sub (tys' := []) [] rfl
  have hFc := va_free (wc := []) hD hS hA [] rfl
  refine va_calli (va_runV (As := []) (rest := []) ⟨hx, hb, hml, hown, hts⟩ (s_isLatin1 l dC dI s.heap.size sK sV sf) (cwV 0 hts (p1_gV m_0 m_1 m_2 m_3 g_s_isLatin1 gz_s_isLatin1) rfl rfl rfl (by decide +kernel) ⟨by decide, by decide⟩) ⟨fun a U g mk q => by obtain ⟨q0, q1, qP, qK, qD, qE⟩ := q; exact ⟨q0, q1, qP, va_K.moved (u := U) (U := U.calling g mk a) (Vm.Alike.refl U.vm) qK, qD, qE⟩, p1_recv t1 hS, fun U hU hW => ⟨rfl, by rw [hU], by rw [hU]; exact hPc, va_K.moved hW.alike hKc, hDc.weaken (fun _ _ _ _ => trivial), by rw [hU]; exact p1_st.warm hE hW hS (fun q h => hFc q h)⟩⟩ rfl rfl hl.1 rfl (lv_room (Nat.le_of_ble_eq_true rfl)) dJ0_charAt_5068e_1 ⟨by decide, by decide⟩) hS (fun q _ h => hFc q h) hFc (fun r_1 u t H1 locs ht hvm hw hB hz1 hk1 hS => ?_)
  obtain ⟨hP1, hK1, hD1⟩ := hB
  rw [ht] at hP1
  obtain ⟨hP, hD⟩ := va_join (wr := []) (w1 := []) hP hD [] [] rfl rfl (by decide) (by decide) hk1 hFc hP1 hD1
  generalize H1 = H at hP hS ⊢
  have hP : va_P (dC, dI) vwCl [] H := hP
  have hD : va_D A [] := hD
  try dsimp only at hw
  obtain rfl : r_1 = 1 := hw
  refine lv_if_eq (tgt := 16) hx hb dJ0_charAt_5068e_4 (by decide) (fun c9 => absurd c9 (by decide)) (fun _ => ?_)
  refine lv_aload_n hx hb dJ0_charAt_5068e_7 rfl (lv_at hl 0 rfl) ?_
  refine vk_getf (v := .ref sV) hx hb t3 hS hown k_4 (fun _ h9 => h9) dJ0_charAt_5068e_8 ?_
  refine lv_iload_n hx hb dJ0_charAt_5068e_11 rfl (lv_at hl 1 rfl) ?_
  have hPc := hP.sub (ws' := []) [] rfl
  have hDc := hD.sub (ws' := []) [] (by decide) rfl
  have hKc := hK.sub (tys' := []) [] rfl
  have hFc := va_free (wc := []) hD hS hA [] rfl
  refine va_calli (va_runS (As := [.ref sV, .int a1]) (rest := []) ⟨hx, hb, hml, hown, hts⟩ (s_lchar l dC dI H.size sV a1 sK sf h1 h2) (va_cwS 2 hts (p1_gS m_5 m_6 m_7 g_s_lchar gz_s_lchar) rfl rfl rfl (by decide +kernel) ⟨by decide, by decide⟩) ⟨fun a U g mk q => by obtain ⟨q0, q1, qP, qK, qD, qE⟩ := q; exact ⟨q0, q1, qP, va_K.moved (u := U) (U := U.calling g mk a) (Vm.Alike.refl U.vm) qK, qD, qE⟩, fun U hU hW => ⟨rfl, by rw [hU], by rw [hU]; exact hPc, va_K.moved hW.alike hKc, hDc.weaken (fun _ _ _ _ => trivial), by rw [hU]; exact p1_st.warm hE hW hS (fun q h => hFc q h)⟩⟩ rfl rfl hl.1 rfl (lv_room (Nat.le_of_ble_eq_true rfl)) dJ0_charAt_5068e_12 ⟨by decide, by decide⟩) hS (fun q _ h => hFc q h) hFc (fun r_2 u t H1 locs ht hvm hw hB hz1 hk1 hS => ?_)
  obtain ⟨hP1, hK1, hD1⟩ := hB
  rw [ht] at hP1
  obtain ⟨hP, hD⟩ := va_join (wr := []) (w1 := []) hP hD [] [] rfl rfl (by decide) (by decide) hk1 hFc hP1 hD1
  generalize H1 = H at hP hS ⊢
  have hP : va_P (dC, dI) vwCl [] H := hP
  have hD : va_D A [] := hD
  try dsimp only at hw
  have hw_3 := hw
  have hP9 := hP.sub (ws' := []) [] rfl
  have hD9 := hD.sub (ws' := []) [] (by decide) rfl
  have hK9 := hK.sub (tys' := []) [] rfl
  exact W.zret (v := r_2) hx hb hr hw_3 (fun t ht hW => ⟨⟨r_2, (), rfl, hw_3, by rw [ht]; exact hP9, va_K.moved hW.alike hK9, hD9⟩, hS.F ht⟩) hS.2.2 dJ0_charAt_5068e_15
def zo_c_withLetter : List Cond := [.code yX4_withLetter cX4_withLetter 3 (some .long), .constantLong RX4 120 (27)]
def zw_c_withLetter : List Cond := zo_c_withLetter ++ []
theorem gz_c_withLetter : zw_c_withLetter.all goodWord = true := p1_ga (by decide +kernel) p1_g0
theorem iz_c_withLetter : ∀ w ∈ zw_c_withLetter, w ∈ lw_tbl := p1_ia (p1_all [305, 306] (by decide +kernel)) p1_i0
set_option maxHeartbeats 4000000 in
set_option maxRecDepth 100000 in
theorem c_withLetter (l : Launch) (dC : Nat → ClassId) (dI : Nat → Nat → Nat) (sz : Nat) (a1 : Int64) (a2 : Int32) : Met l yX4_withLetter zw_c_withLetter ({ frames := 0, cells := 0, slots := 0, locals := 0 }) (va_Pc [.long a1, .int a2] (fun U => U.heap.size = sz ∧ va_P (dC, dI) vwCl [] U.heap ∧ va_K (dC, dI) vwCl [] U ∧ va_D (fun _ => True) [])) (va_Ql (fun (r : Int64) (_ : Unit) => True) (fun _ t => va_P (dC, dI) vwCl [] t.heap ∧ va_K (dC, dI) vwCl [] t ∧ va_D (va_A [] sz) []) (va_A [] sz)) 0 0 (va_A [] sz) := by
  refine Met.ofW (cc := cX4_withLetter) (maxL := 3) (ret := (some .long)) (by decide) rfl ?_
  intro p e s m args below meth c s₁ B hml hv
  obtain ⟨rfl, hsz, hP, hK, hD0⟩ := hv
  have hx := B.exec
  have hb := B.bytes
  have hr := B.returns
  have hts := atoms_spec (ws := zw_c_withLetter) B.pre
  have hown : s.vm.findClass RX4 = some m.cls := findClass_of_methodNamed B.named
  have hlocks := B.notSynchronized
  subst hsz
  have hD := hD0.self (sz := s.heap.size)
  generalize hAe : va_A [] s.heap.size = A at hD ⊢
  have hA : ∀ q : Nat, s.heap.size ≤ q → A q := fun q h => by rw [← hAe]; exact Or.inr h
  have hS : va_S A s.heap s.heap [] := va_S.rf
  have hP : va_P (dC, dI) vwCl [] s.heap := hP
  have m_0 : (.constantLong RX4 120 (27) : Cond) ∈ zw_c_withLetter := List.mem_append_left _ (List.mem_of_getElem? (i := 1) rfl)
  have k_0 := hts _ m_0
  have hl := lv_entry ([.long a1, .int a2]) (n := 3) (Nat.le_of_ble_eq_true rfl)
  rw [lg_entry_eq]
  generalize (lg_sl ([.long a1, .int a2]) ++ List.replicate (3 - (lg_sl ([.long a1, .int a2])).length) Slot.unset).toArray = ls at hl ⊢
  have hl : lv_has ls 3 [(0, .long a1), (2, .int a2)] := hl
  refine lv_ldc2 (v := 27) hx hb hown k_0 dX4_withLetter_0 ?_
  refine lv_lload_n hx hb dX4_withLetter_3 rfl (lv_at hl 0 rfl) ?_
  refine lv_lmul hx hb dX4_withLetter_4 ?_
  refine lv_topl (fun w_1 ew_1 => ?_)
  refine lv_iload_n hx hb dX4_withLetter_5 rfl (lv_at hl 1 rfl) ?_
  refine lv_bipush (v := 97) hx hb dX4_withLetter_6 (by decide) ?_
  refine lv_isub hx hb dX4_withLetter_8 ?_
  refine lv_topi (fun v_2 ev_2 => ?_)
  refine lv_iconst (v := 1) hx hb dX4_withLetter_9 (by decide) ?_
  refine lv_iadd hx hb dX4_withLetter_10 ?_
  refine lv_topi (fun v_3 ev_3 => ?_)
  refine lv_i2l hx hb dX4_withLetter_11 rfl ?_
  refine lv_topl (fun w_5 ew_5 => ?_)
  refine lv_ladd hx hb dX4_withLetter_12 ?_
  refine lv_topl (fun w_6 ew_6 => ?_)
  have hP9 := hP.sub (ws' := []) [] rfl
  have hD9 := hD.sub (ws' := []) [] (by decide) rfl
  have hK9 := hK.sub (tys' := []) [] rfl
  exact W.lret (v := w_6) hx hb hr (fun t ht hW => ⟨⟨w_6, (), rfl, trivial, by rw [ht]; exact hP9, va_K.moved hW.alike hK9, hD9⟩, hS.F ht⟩) hS.2.2 dX4_withLetter_13
