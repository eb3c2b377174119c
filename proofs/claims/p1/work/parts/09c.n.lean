def zo_n_Reader : List Cond := [.code yX4_init cX4_init 4 none, .methodLink RX4 3 objectInit, .instanceMethod objectInit, .code objectInit ⟨#[0xb1]⟩ 1 none, .arrayClass .long, .fieldLink RX4 11 "BowWalk$Reader" "words" "[J", .arrayClass .byte, .fieldLink RX4 17 "BowWalk$Reader" "text" "[B", .fieldLink RX4 21 "BowWalk$Reader" "length" "I", .fieldLink RX4 25 "BowWalk$Reader" "at" "I", .fieldLink RX4 28 "BowWalk$Reader" "token" "I", .fieldLink RX4 31 "BowWalk$Reader" "place" "I", .fieldLink RX4 34 "BowWalk$Reader" "number" "I", .fieldLink RX4 37 "BowWalk$Reader" "word" "J", .classLink RX4 41 RX5, .instantiable RX5 15, .initialized RX5, .instanceMethod yX5_init, .fieldLink RX4 44 "BowWalk$Reader" "draft" "LBowWalk$Shop;", .fieldLink RX4 48 "BowWalk$Reader" "faultKind" "I", .fieldLink RX4 51 "BowWalk$Reader" "faultPlace" "I", .methodLink RX4 56 yJ0_length_8abf5, .instanceMethod yJ0_length_8abf5, .selects RJ0 yJ0_length_8abf5 yJ0_length_8abf5, .initialized RJ0, .methodLink RX4 61 yJ0_charAt_5068e, .instanceMethod yJ0_charAt_5068e, .selects RJ0 yJ0_charAt_5068e yJ0_charAt_5068e, .methodLink RX4 65 yX4_withLetter, .static yX4_withLetter, .initialized RX4]
def zw_n_Reader : List Cond := zo_n_Reader ++ (zw_n_Shop ++ (zw_s_length ++ (zw_s_charAt ++ (zw_c_withLetter ++ (wsX40 ++ (wsX50 ++ []))))))
theorem gz_n_Reader : zw_n_Reader.all goodWord = true := p1_ga (by decide +kernel) (p1_ga gz_n_Shop (p1_ga gz_s_length (p1_ga gz_s_charAt (p1_ga gz_c_withLetter (p1_ga gk_X4 (p1_ga gk_X5 p1_g0))))))
theorem iz_n_Reader : ∀ w ∈ zw_n_Reader, w ∈ lw_tbl := p1_ia (p1_all [132, 133, 126, 127, 172, 307, 171, 308, 309, 310, 311, 312, 313, 314, 134, 135, 106, 137, 315, 317, 319, 255, 256, 257, 108, 265, 266, 267, 303, 304, 105] (by decide +kernel)) (p1_ia iz_n_Shop (p1_ia iz_s_length (p1_ia iz_s_charAt (p1_ia iz_c_withLetter (p1_ia ik_X4 (p1_ia ik_X5 p1_i0))))))
set_option maxHeartbeats 4000000 in
set_option maxRecDepth 100000 in
theorem n_Reader (l : Launch) (dC : Nat → ClassId) (dI : Nat → Nat → Nat) (sz : Nat) (h0 : Nat) (fs : List Value) (l_fs : fs.length = 11) : Met l yX4_init zw_n_Reader ({ frames := 4, cells := 34, slots := 861, locals := 85 }) (va_Pc [.ref h0] (fun U => U.heap.size = sz ∧ va_P (dC, dI) vwCl [(h0, .inr (4, fs))] U.heap ∧ va_K (dC, dI) vwCl [] U ∧ va_D (fun _ => True) [(h0, .inr (4, fs))] ∧ p1_ex (va_A [(h0, .inr (4, fs))] sz) U U.heap)) (va_Qv (fun (_ : Unit) => True) (fun _ t => ∃ (fo : List Value) (dsh : Nat) (dfo : List Value) (dsc : Nat) (dlw : Nat) (don : Nat) (dot : Nat) (dcS : ClassId) (dlf : List Value) (dlc : Nat) (dlb : Nat) (dcc1 : ClassId) (dcb1 : ClassId) (dcN : ClassId) (dnf : Nat → Int32) (dcO : ClassId), fo.length = 11 ∧ fo[8]? = some (.ref dsh) ∧ fo[9]? = some (.int 0) ∧ fo[10]? = some (.int (-1)) ∧ dfo.length = 15 ∧ dfo[0]? = some (.ref dsc) ∧ dfo[12]? = some (.ref dlw) ∧ dfo[13]? = some (.ref don) ∧ dfo[14]? = some (.ref dot) ∧ dlf.length = 6 ∧ dlf[0]? = some (.ref dlc) ∧ dlf[1]? = some (.ref dlb) ∧ dlf[3]? = some (.int 0) ∧ dlf[4]? = some (.int 0) ∧ dlf[5]? = some (.int 0) ∧ va_P (dC, dI) vwCl [(h0, .inr (4, fo)), (dsh, .inr (5, dfo)), (dsc, .inl (dcS, 5, .inl (fun _ => 0))), (dlw, .inr (3, dlf)), (dlc, .inl (dcc1, 600, .inl (fun _ => 0))), (dlb, .inl (dcb1, 6, .inl (fun _ => 0))), (don, .inl (dcN, 2, .inl dnf)), (dot, .inl (dcO, 2, .inl (fun _ => 0)))] t.heap ∧ va_K (dC, dI) vwCl [(dcS, .int), (dcc1, .int), (dcb1, .int), (dcN, .int), (dcO, .boolean)] t ∧ va_D (va_A [(h0, .inr (4, fs))] sz) [(h0, .inr (4, fo)), (dsh, .inr (5, dfo)), (dsc, .inl (dcS, 5, .inl (fun _ => 0))), (dlw, .inr (3, dlf)), (dlc, .inl (dcc1, 600, .inl (fun _ => 0))), (dlb, .inl (dcb1, 6, .inl (fun _ => 0))), (don, .inl (dcN, 2, .inl dnf)), (dot, .inl (dcO, 2, .inl (fun _ => 0)))]) (va_A [(h0, .inr (4, fs))] sz)) 34 861 (va_A [(h0, .inr (4, fs))] sz) := by
  refine Met.ofW (cc := cX4_init) (maxL := 4) (ret := none) (by decide) rfl ?_
  intro p e s m args below meth c s₁ B hml hv
  obtain ⟨rfl, hsz, hP, hK, hD0, hE⟩ := hv
  have hx := B.exec
  have hb := B.bytes
  have hr := B.returns
  have hts := atoms_spec (ws := zw_n_Reader) B.pre
  have hown : s.vm.findClass RX4 = some m.cls := findClass_of_methodNamed B.named
  have hlocks := B.notSynchronized
  have hin : meth.name = "<init>" := (name_of_methodNamed B.named B.method).1
  subst hsz
  have hD := hD0.self (sz := s.heap.size)
  generalize hAe : va_A [(h0, .inr (4, fs))] s.heap.size = A at hD hE ⊢
  have hA : ∀ q : Nat, s.heap.size ≤ q → A q := fun q h => by rw [← hAe]; exact Or.inr h
  have hS : va_S A s.heap s.heap [] := va_S.rf
  have hP : va_P (dC, dI) vwCl [(h0, .inr (4, fs))] s.heap := hP
  obtain ⟨sK, sV, ru, pu, sf, rf, pf, ⟨n1, n2, n3, n4, n5, n6, n7, n8, n9⟩, ⟨o1, o2, o3⟩, r1, ⟨t1, t2, t3, t4⟩, z1, z2, ⟨y1, y2⟩, ⟨w1, w2⟩⟩ := id hE
  have m_0 : (.methodLink RX4 3 objectInit : Cond) ∈ zw_n_Reader := List.mem_append_left _ (List.mem_of_getElem? (i := 1) rfl)
  have k_0 := hts _ m_0
  have m_1 : (.instanceMethod objectInit : Cond) ∈ zw_n_Reader := List.mem_append_left _ (List.mem_of_getElem? (i := 2) rfl)
  have k_1 := hts _ m_1
  have m_2 : (.code objectInit ⟨#[0xb1]⟩ 1 none : Cond) ∈ zw_n_Reader := List.mem_append_left _ (List.mem_of_getElem? (i := 3) rfl)
  have k_2 := hts _ m_2
  have m_3 : (.arrayClass .long : Cond) ∈ zw_n_Reader := List.mem_append_left _ (List.mem_of_getElem? (i := 4) rfl)
  have k_3 := hts _ m_3
  have m_4 : (.fieldLink RX4 11 "BowWalk$Reader" "words" "[J" : Cond) ∈ zw_n_Reader := List.mem_append_left _ (List.mem_of_getElem? (i := 5) rfl)
  have k_4 := hts _ m_4
  have m_5 : (.arrayClass .byte : Cond) ∈ zw_n_Reader := List.mem_append_left _ (List.mem_of_getElem? (i := 6) rfl)
  have k_5 := hts _ m_5
  have m_6 : (.fieldLink RX4 17 "BowWalk$Reader" "text" "[B" : Cond) ∈ zw_n_Reader := List.mem_append_left _ (List.mem_of_getElem? (i := 7) rfl)
  have k_6 := hts _ m_6
  have m_7 : (.fieldLink RX4 21 "BowWalk$Reader" "length" "I" : Cond) ∈ zw_n_Reader := List.mem_append_left _ (List.mem_of_getElem? (i := 8) rfl)
  have k_7 := hts _ m_7
  have m_8 : (.fieldLink RX4 25 "BowWalk$Reader" "at" "I" : Cond) ∈ zw_n_Reader := List.mem_append_left _ (List.mem_of_getElem? (i := 9) rfl)
  have k_8 := hts _ m_8
  have m_9 : (.fieldLink RX4 28 "BowWalk$Reader" "token" "I" : Cond) ∈ zw_n_Reader := List.mem_append_left _ (List.mem_of_getElem? (i := 10) rfl)
  have k_9 := hts _ m_9
  have m_10 : (.fieldLink RX4 31 "BowWalk$Reader" "place" "I" : Cond) ∈ zw_n_Reader := List.mem_append_left _ (List.mem_of_getElem? (i := 11) rfl)
  have k_10 := hts _ m_10
  have m_11 : (.fieldLink RX4 34 "BowWalk$Reader" "number" "I" : Cond) ∈ zw_n_Reader := List.mem_append_left _ (List.mem_of_getElem? (i := 12) rfl)
  have k_11 := hts _ m_11
  have m_12 : (.fieldLink RX4 37 "BowWalk$Reader" "word" "J" : Cond) ∈ zw_n_Reader := List.mem_append_left _ (List.mem_of_getElem? (i := 13) rfl)
  have k_12 := hts _ m_12
  have m_13 : (.classLink RX4 41 RX5 : Cond) ∈ zw_n_Reader := List.mem_append_left _ (List.mem_of_getElem? (i := 14) rfl)
  have k_13 := hts _ m_13
  have m_14 : (.instantiable RX5 15 : Cond) ∈ zw_n_Reader := List.mem_append_left _ (List.mem_of_getElem? (i := 15) rfl)
  have k_14 := hts _ m_14
  have m_15 : (.initialized RX5 : Cond) ∈ zw_n_Reader := List.mem_append_left _ (List.mem_of_getElem? (i := 16) rfl)
  have k_15 := hts _ m_15
  have m_16 : (.instanceMethod yX5_init : Cond) ∈ zw_n_Reader := List.mem_append_left _ (List.mem_of_getElem? (i := 17) rfl)
  have k_16 := hts _ m_16
  have m_17 : (.fieldLink RX4 44 "BowWalk$Reader" "draft" "LBowWalk$Shop;" : Cond) ∈ zw_n_Reader := List.mem_append_left _ (List.mem_of_getElem? (i := 18) rfl)
  have k_17 := hts _ m_17
  have m_18 : (.fieldLink RX4 48 "BowWalk$Reader" "faultKind" "I" : Cond) ∈ zw_n_Reader := List.mem_append_left _ (List.mem_of_getElem? (i := 19) rfl)
  have k_18 := hts _ m_18
  have m_19 : (.fieldLink RX4 51 "BowWalk$Reader" "faultPlace" "I" : Cond) ∈ zw_n_Reader := List.mem_append_left _ (List.mem_of_getElem? (i := 20) rfl)
  have k_19 := hts _ m_19
  have m_20 : (.methodLink RX4 56 yJ0_length_8abf5 : Cond) ∈ zw_n_Reader := List.mem_append_left _ (List.mem_of_getElem? (i := 21) rfl)
  have k_20 := hts _ m_20
  have m_21 : (.instanceMethod yJ0_length_8abf5 : Cond) ∈ zw_n_Reader := List.mem_append_left _ (List.mem_of_getElem? (i := 22) rfl)
  have k_21 := hts _ m_21
  have m_22 : (.selects RJ0 yJ0_length_8abf5 yJ0_length_8abf5 : Cond) ∈ zw_n_Reader := List.mem_append_left _ (List.mem_of_getElem? (i := 23) rfl)
  have k_22 := hts _ m_22
  have m_23 : (.initialized RJ0 : Cond) ∈ zw_n_Reader := List.mem_append_left _ (List.mem_of_getElem? (i := 24) rfl)
  have k_23 := hts _ m_23
  have m_24 : (.methodLink RX4 61 yJ0_charAt_5068e : Cond) ∈ zw_n_Reader := List.mem_append_left _ (List.mem_of_getElem? (i := 25) rfl)
  have k_24 := hts _ m_24
  have m_25 : (.instanceMethod yJ0_charAt_5068e : Cond) ∈ zw_n_Reader := List.mem_append_left _ (List.mem_of_getElem? (i := 26) rfl)
  have k_25 := hts _ m_25
  have m_26 : (.selects RJ0 yJ0_charAt_5068e yJ0_charAt_5068e : Cond) ∈ zw_n_Reader := List.mem_append_left _ (List.mem_of_getElem? (i := 27) rfl)
  have k_26 := hts _ m_26
  have m_27 : (.methodLink RX4 65 yX4_withLetter : Cond) ∈ zw_n_Reader := List.mem_append_left _ (List.mem_of_getElem? (i := 28) rfl)
  have k_27 := hts _ m_27
  have m_28 : (.static yX4_withLetter : Cond) ∈ zw_n_Reader := List.mem_append_left _ (List.mem_of_getElem? (i := 29) rfl)
  have k_28 := hts _ m_28
  have m_29 : (.initialized RX4 : Cond) ∈ zw_n_Reader := List.mem_append_left _ (List.mem_of_getElem? (i := 30) rfl)
  have k_29 := hts _ m_29
  have g_n_Shop : ∀ w ∈ zw_n_Shop, w ∈ zw_n_Reader := fun w h => List.mem_append_right _ (List.mem_append_left _ h)
  have g_s_length : ∀ w ∈ zw_s_length, w ∈ zw_n_Reader := fun w h => List.mem_append_right _ (List.mem_append_right _ (List.mem_append_left _ h))
  have g_s_charAt : ∀ w ∈ zw_s_charAt, w ∈ zw_n_Reader := fun w h => List.mem_append_right _ (List.mem_append_right _ (List.mem_append_right _ (List.mem_append_left _ h)))
  have g_c_withLetter : ∀ w ∈ zw_c_withLetter, w ∈ zw_n_Reader := fun w h => List.mem_append_right _ (List.mem_append_right _ (List.mem_append_right _ (List.mem_append_right _ (List.mem_append_left _ h))))
  have i_X4 : ∀ w ∈ u_ws RX4 TX4 11, w ∈ zw_n_Reader := fun w h => List.mem_append_right _ (List.mem_append_right _ (List.mem_append_right _ (List.mem_append_right _ (List.mem_append_right _ (List.mem_append_left _ h)))))
  have i_X5 : ∀ w ∈ u_ws RX5 TX5 15, w ∈ zw_n_Reader := fun w h => List.mem_append_right _ (List.mem_append_right _ (List.mem_append_right _ (List.mem_append_right _ (List.mem_append_right _ (List.mem_append_right _ (List.mem_append_left _ h))))))
  have hl := lv_entry ([.ref h0]) (n := 4) (Nat.le_of_ble_eq_true rfl)
  rw [lg_entry_eq]
  generalize (lg_sl ([.ref h0]) ++ List.replicate (4 - (lg_sl ([.ref h0])).length) Slot.unset).toArray = ls at hl ⊢
  have hl : lv_has ls 4 [(0, .ref h0)] := hl
  refine lv_aload_n hx hb dX4_init_0 rfl (lv_at hl 0 rfl) ?_
  refine W.objInit hx hb hown k_0 k_1 k_2 rfl (by rw [hml]; exact hl.1) rfl dX4_init_1 (Nat.le_of_ble_eq_true rfl) (Nat.le_of_ble_eq_true rfl) ?_
  refine W.eq (g2 := F0 m 4 ls []) rfl ?_
  refine lv_aload_n hx hb dX4_init_4 rfl (lv_at hl 0 rfl) ?_
  refine lv_bipush (v := 22) hx hb dX4_init_5 (by decide) ?_
  refine va_newa (atype := .long) (ty := .long) (N' := 22) (a0 := (22, .inr (.inl (fun _ => 0)))) hx hb k_3 rfl hK hP hD hS hA (fun _ => rfl) (by decide) rfl (by decide) (by decide) (by decide) dX4_init_7 (fun q_1 cA_2 H hK hP hD hS => ?_)
  have hP : va_P (dC, dI) vwCl [(h0, .inr (4, fs)), (q_1, .inl (cA_2, 22, .inr (.inl (fun _ => 0))))] H := hP
  have hD : va_D A [(h0, .inr (4, fs)), (q_1, .inl (cA_2, 22, .inr (.inl (fun _ => 0))))] := hD
  have hK : va_K (dC, dI) vwCl [(cA_2, .long)] s := hK
  refine W.widen (k := 1) (n := 22) (by decide) (by decide) ?_
  refine va_putF (D := (dC, dI)) (ci := 4) (v := .ref q_1) (ty := .array .long) (C := RX4) (T := TX4) (N := 11) hx hb hts i_X4 tyX4 tyX4_ok nmX4 hown hK hP hD hS 0 rfl rfl 0 (by decide) k_4 (fun _ h9 => h9) rfl hin rfl (by decide +kernel) rfl rfl (by rw [l_fs]; decide) dX4_init_9 (fun H locs hP hD hS => ?_)
  have hP : va_P (dC, dI) vwCl [(h0, .inr (4, (fs.set 0 (.ref q_1)))), (q_1, .inl (cA_2, 22, .inr (.inl (fun _ => 0))))] H := hP
  have hD : va_D A [(h0, .inr (4, (fs.set 0 (.ref q_1)))), (q_1, .inl (cA_2, 22, .inr (.inl (fun _ => 0))))] := hD
  generalize efs_3 : (fs.set 0 (.ref q_1)) = fs_3 at hP hD
  have lfs_3 : fs_3.length = 11 := by rw [← efs_3, List.length_set]; exact l_fs
  have ffs_3_0 : fs_3[0]? = some (.ref q_1) := by rw [← efs_3]; exact p1_sa l_fs (by decide)
  refine lv_aload_n hx hb dX4_init_12 rfl (lv_at hl 0 rfl) ?_
  refine lv_iconst (v := 0) hx hb dX4_init_13 (by decide) ?_
  refine va_newa (atype := .byte) (ty := .byte) (N' := 0) (a0 := (0, .inl (fun _ => 0))) hx hb k_5 rfl hK hP hD hS hA (fun _ => rfl) (by decide) rfl (by decide) (by decide) (by decide) dX4_init_14 (fun q_4 cA_5 H hK hP hD hS => ?_)
  have hP : va_P (dC, dI) vwCl [(h0, .inr (4, fs_3)), (q_1, .inl (cA_2, 22, .inr (.inl (fun _ => 0)))), (q_4, .inl (cA_5, 0, .inl (fun _ => 0)))] H := hP
  have hD : va_D A [(h0, .inr (4, fs_3)), (q_1, .inl (cA_2, 22, .inr (.inl (fun _ => 0)))), (q_4, .inl (cA_5, 0, .inl (fun _ => 0)))] := hD
  have hK : va_K (dC, dI) vwCl [(cA_2, .long), (cA_5, .byte)] s := hK
  refine W.widen (k := 2) (n := 22) (by decide) (by decide) ?_
  refine va_put (D := (dC, dI)) (ci := 4) (v := .ref q_4) (ty := .array .byte) (C := RX4) (T := TX4) (N := 11) hx hb hts i_X4 tyX4 tyX4_ok nmX4 hown hK hP hD hS 0 rfl rfl 1 (by decide) k_6 (fun _ h9 => h9) rfl (by decide +kernel) rfl rfl (by rw [lfs_3]; decide) dX4_init_16 (fun H locs hP hD hS => ?_)
  have hP : va_P (dC, dI) vwCl [(h0, .inr (4, (fs_3.set 1 (.ref q_4)))), (q_1, .inl (cA_2, 22, .inr (.inl (fun _ => 0)))), (q_4, .inl (cA_5, 0, .inl (fun _ => 0)))] H := hP
  have hD : va_D A [(h0, .inr (4, (fs_3.set 1 (.ref q_4)))), (q_1, .inl (cA_2, 22, .inr (.inl (fun _ => 0)))), (q_4, .inl (cA_5, 0, .inl (fun _ => 0)))] := hD
  generalize efs_6 : (fs_3.set 1 (.ref q_4)) = fs_6 at hP hD
  have lfs_6 : fs_6.length = 11 := by rw [← efs_6, List.length_set]; exact lfs_3
  have ffs_6_0 : fs_6[0]? = some (.ref q_1) := by rw [← efs_6]; exact p1_sn (by decide) ffs_3_0
  have ffs_6_1 : fs_6[1]? = some (.ref q_4) := by rw [← efs_6]; exact p1_sa lfs_3 (by decide)
  have hP := hP.sub (ws' := [(h0, .inr (4, fs_6)), (q_1, .inl (cA_2, 22, .inr (.inl (fun _ => 0))))]) [0, 1] rfl
  have hD := hD.sub (ws' := [(h0, .inr (4, fs_6)), (q_1, .inl (cA_2, 22, .inr (.inl (fun _ => 0))))]) [0, 1] (by decide) rfl
  have hK := hK.sub (tys' := [(cA_2, .long)]) [0] rfl
  refine lv_aload_n hx hb dX4_init_19 rfl (lv_at hl 0 rfl) ?_
  refine lv_iconst (v := 0) hx hb dX4_init_20 (by decide) ?_
  refine va_put (D := (dC, dI)) (ci := 4) (v := .int 0) (ty := .int) (C := RX4) (T := TX4) (N := 11) hx hb hts i_X4 tyX4 tyX4_ok nmX4 hown hK hP hD hS 0 rfl rfl 2 (by decide) k_7 (fun _ h9 => h9) rfl (by decide +kernel) rfl rfl (by rw [lfs_6]; decide) dX4_init_21 (fun H locs hP hD hS => ?_)
  have hP : va_P (dC, dI) vwCl [(h0, .inr (4, (fs_6.set 2 (.int 0)))), (q_1, .inl (cA_2, 22, .inr (.inl (fun _ => 0))))] H := hP
  have hD : va_D A [(h0, .inr (4, (fs_6.set 2 (.int 0)))), (q_1, .inl (cA_2, 22, .inr (.inl (fun _ => 0))))] := hD
  generalize efs_7 : (fs_6.set 2 (.int 0)) = fs_7 at hP hD
  have lfs_7 : fs_7.length = 11 := by rw [← efs_7, List.length_set]; exact lfs_6
  have ffs_7_0 : fs_7[0]? = some (.ref q_1) := by rw [← efs_7]; exact p1_sn (by decide) ffs_6_0
  have ffs_7_2 : fs_7[2]? = some (.int 0) := by rw [← efs_7]; exact p1_sa lfs_6 (by decide)
  refine lv_aload_n hx hb dX4_init_24 rfl (lv_at hl 0 rfl) ?_
  refine lv_iconst (v := 0) hx hb dX4_init_25 (by decide) ?_
  refine va_put (D := (dC, dI)) (ci := 4) (v := .int 0) (ty := .int) (C := RX4) (T := TX4) (N := 11) hx hb hts i_X4 tyX4 tyX4_ok nmX4 hown hK hP hD hS 0 rfl rfl 3 (by decide) k_8 (fun _ h9 => h9) rfl (by decide +kernel) rfl rfl (by rw [lfs_7]; decide) dX4_init_26 (fun H locs hP hD hS => ?_)
  have hP : va_P (dC, dI) vwCl [(h0, .inr (4, (fs_7.set 3 (.int 0)))), (q_1, .inl (cA_2, 22, .inr (.inl (fun _ => 0))))] H := hP
  have hD : va_D A [(h0, .inr (4, (fs_7.set 3 (.int 0)))), (q_1, .inl (cA_2, 22, .inr (.inl (fun _ => 0))))] := hD
  generalize efs_8 : (fs_7.set 3 (.int 0)) = fs_8 at hP hD
  have lfs_8 : fs_8.length = 11 := by rw [← efs_8, List.length_set]; exact lfs_7
  have ffs_8_0 : fs_8[0]? = some (.ref q_1) := by rw [← efs_8]; exact p1_sn (by decide) ffs_7_0
  have ffs_8_3 : fs_8[3]? = some (.int 0) := by rw [← efs_8]; exact p1_sa lfs_7 (by decide)
  refine lv_aload_n hx hb dX4_init_29 rfl (lv_at hl 0 rfl) ?_
  refine lv_iconst (v := 0) hx hb dX4_init_30 (by decide) ?_
  refine va_put (D := (dC, dI)) (ci := 4) (v := .int 0) (ty := .int) (C := RX4) (T := TX4) (N := 11) hx hb hts i_X4 tyX4 tyX4_ok nmX4 hown hK hP hD hS 0 rfl rfl 4 (by decide) k_9 (fun _ h9 => h9) rfl (by decide +kernel) rfl rfl (by rw [lfs_8]; decide) dX4_init_31 (fun H locs hP hD hS => ?_)
  have hP : va_P (dC, dI) vwCl [(h0, .inr (4, (fs_8.set 4 (.int 0)))), (q_1, .inl (cA_2, 22, .inr (.inl (fun _ => 0))))] H := hP
  have hD : va_D A [(h0, .inr (4, (fs_8.set 4 (.int 0)))), (q_1, .inl (cA_2, 22, .inr (.inl (fun _ => 0))))] := hD
  generalize efs_9 : (fs_8.set 4 (.int 0)) = fs_9 at hP hD
  have lfs_9 : fs_9.length = 11 := by rw [← efs_9, List.length_set]; exact lfs_8
  have ffs_9_0 : fs_9[0]? = some (.ref q_1) := by rw [← efs_9]; exact p1_sn (by decide) ffs_8_0
  have ffs_9_4 : fs_9[4]? = some (.int 0) := by rw [← efs_9]; exact p1_sa lfs_8 (by decide)
  refine lv_aload_n hx hb dX4_init_34 rfl (lv_at hl 0 rfl) ?_
  refine lv_iconst (v := 0) hx hb dX4_init_35 (by decide) ?_
  refine va_put (D := (dC, dI)) (ci := 4) (v := .int 0) (ty := .int) (C := RX4) (T := TX4) (N := 11) hx hb hts i_X4 tyX4 tyX4_ok nmX4 hown hK hP hD hS 0 rfl rfl 5 (by decide) k_10 (fun _ h9 => h9) rfl (by decide +kernel) rfl rfl (by rw [lfs_9]; decide) dX4_init_36 (fun H locs hP hD hS => ?_)
  have hP : va_P (dC, dI) vwCl [(h0, .inr (4, (fs_9.set 5 (.int 0)))), (q_1, .inl (cA_2, 22, .inr (.inl (fun _ => 0))))] H := hP
  have hD : va_D A [(h0, .inr (4, (fs_9.set 5 (.int 0)))), (q_1, .inl (cA_2, 22, .inr (.inl (fun _ => 0))))] := hD
  generalize efs_10 : (fs_9.set 5 (.int 0)) = fs_10 at hP hD
  have lfs_10 : fs_10.length = 11 := by rw [← efs_10, List.length_set]; exact lfs_9
  have ffs_10_0 : fs_10[0]? = some (.ref q_1) := by rw [← efs_10]; exact p1_sn (by decide) ffs_9_0
  have ffs_10_5 : fs_10[5]? = some (.int 0) := by rw [← efs_10]; exact p1_sa lfs_9 (by decide)
  refine lv_aload_n hx hb dX4_init_39 rfl (lv_at hl 0 rfl) ?_
  refine lv_iconst (v := 0) hx hb dX4_init_40 (by decide) ?_
  refine va_put (D := (dC, dI)) (ci := 4) (v := .int 0) (ty := .int) (C := RX4) (T := TX4) (N := 11) hx hb hts i_X4 tyX4 tyX4_ok nmX4 hown hK hP hD hS 0 rfl rfl 6 (by decide) k_11 (fun _ h9 => h9) rfl (by decide +kernel) rfl rfl (by rw [lfs_10]; decide) dX4_init_41 (fun H locs hP hD hS => ?_)
  have hP : va_P (dC, dI) vwCl [(h0, .inr (4, (fs_10.set 6 (.int 0)))), (q_1, .inl (cA_2, 22, .inr (.inl (fun _ => 0))))] H := hP
  have hD : va_D A [(h0, .inr (4, (fs_10.set 6 (.int 0)))), (q_1, .inl (cA_2, 22, .inr (.inl (fun _ => 0))))] := hD
  generalize efs_11 : (fs_10.set 6 (.int 0)) = fs_11 at hP hD
  have lfs_11 : fs_11.length = 11 := by rw [← efs_11, List.length_set]; exact lfs_10
  have ffs_11_0 : fs_11[0]? = some (.ref q_1) := by rw [← efs_11]; exact p1_sn (by decide) ffs_10_0
  have ffs_11_6 : fs_11[6]? = some (.int 0) := by rw [← efs_11]; exact p1_sa lfs_10 (by decide)
  refine lv_aload_n hx hb dX4_init_44 rfl (lv_at hl 0 rfl) ?_
  refine lv_lconst (v := 0) hx hb dX4_init_45 (by decide) ?_
  refine va_put (D := (dC, dI)) (ci := 4) (v := .long 0) (ty := .long) (C := RX4) (T := TX4) (N := 11) hx hb hts i_X4 tyX4 tyX4_ok nmX4 hown hK hP hD hS 0 rfl rfl 7 (by decide) k_12 (fun _ h9 => h9) rfl (by decide +kernel) rfl rfl (by rw [lfs_11]; decide) dX4_init_46 (fun H locs hP hD hS => ?_)
  have hP : va_P (dC, dI) vwCl [(h0, .inr (4, (fs_11.set 7 (.long 0)))), (q_1, .inl (cA_2, 22, .inr (.inl (fun _ => 0))))] H := hP
  have hD : va_D A [(h0, .inr (4, (fs_11.set 7 (.long 0)))), (q_1, .inl (cA_2, 22, .inr (.inl (fun _ => 0))))] := hD
  generalize efs_12 : (fs_11.set 7 (.long 0)) = fs_12 at hP hD
  have lfs_12 : fs_12.length = 11 := by rw [← efs_12, List.length_set]; exact lfs_11
  have ffs_12_0 : fs_12[0]? = some (.ref q_1) := by rw [← efs_12]; exact p1_sn (by decide) ffs_11_0
  have ffs_12_7 : fs_12[7]? = some (.long 0) := by rw [← efs_12]; exact p1_sa lfs_11 (by decide)
  refine lv_aload_n hx hb dX4_init_49 rfl (lv_at hl 0 rfl) ?_
  refine va_new (ci := 5) (fs := [.null, .null, .null, .null, .null, .null, .null, .null, .null, .null, .null, .null, .null, .null, .null]) (C := RX5) (T := TX5) (N := 15) hx hb hts i_X5 tyX5 tyX5_ok hown k_13 k_14 k_15 hK hP hD hS hA rfl (by decide) (by decide) (by decide) dX4_init_50 (fun q_13 H hP hD hS => ?_)
  have hP : va_P (dC, dI) vwCl [(h0, .inr (4, fs_12)), (q_1, .inl (cA_2, 22, .inr (.inl (fun _ => 0)))), (q_13, .inr (5, [.null, .null, .null, .null, .null, .null, .null, .null, .null, .null, .null, .null, .null, .null, .null]))] H := hP
  have hD : va_D A [(h0, .inr (4, fs_12)), (q_1, .inl (cA_2, 22, .inr (.inl (fun _ => 0)))), (q_13, .inr (5, [.null, .null, .null, .null, .null, .null, .null, .null, .null, .null, .null, .null, .null, .null, .null]))] := hD
  refine W.widen (k := 3) (n := 37) (by decide) (by decide) ?_
  refine lv_dup hx hb dX4_init_53 rfl ?_
  have hPc := hP.sub (ws' := [(q_13, .inr (5, [.null, .null, .null, .null, .null, .null, .null, .null, .null, .null, .null, .null, .null, .null, .null]))]) [2] rfl
  have hDc := hD.sub (ws' := [(q_13, .inr (5, [.null, .null, .null, .null, .null, .null, .null, .null, .null, .null, .null, .null, .null, .null, .null]))]) [2] (by decide) rfl
  have hKc := hK.sub (tys' := []) [] rfl
  have hFc := va_free (wc := [(q_13, .inr (5, [.null, .null, .null, .null, .null, .null, .null, .null, .null, .null, .null, .null, .null, .null, .null]))]) hD hS hA [2] rfl
  refine va_callv (va_runIN (As := []) (rest := [.ref q_13, .ref h0]) ⟨hx, hb, hml, hown, hts⟩ (n_Shop l dC dI H.size q_13 ([.null, .null, .null, .null, .null, .null, .null, .null, .null, .null, .null, .null, .null, .null, .null]) ((show [.null, .null, .null, .null, .null, .null, .null, .null, .null, .null, .null, .null, .null, .null, .null].length = 15 from rfl))) ⟨va_cnB 0 hts (goodIn_sub g_n_Shop gz_n_Shop) rfl rfl rfl n1 k_15 (by decide +kernel) ⟨by decide, by decide⟩, rfl, k_16⟩ ⟨fun a U g mk q => by obtain ⟨q0, q1, qP, qK, qD, qE⟩ := q; exact ⟨q0, q1, qP, va_K.moved (u := U) (U := U.calling g mk a) (Vm.Alike.refl U.vm) qK, qD, qE⟩, fun U hU hW => ⟨rfl, by rw [hU], by rw [hU]; exact hPc, va_K.moved hW.alike hKc, hDc.weaken (fun _ _ _ _ => trivial), by rw [hU]; exact p1_ex.warm hE hW hS (fun q h => hFc q h)⟩⟩ rfl rfl hl.1 rfl (lv_room (Nat.le_of_ble_eq_true rfl)) dX4_init_54 ⟨by decide, by decide⟩) hS (fun q _ h => hFc q h) hFc (fun u t H1 locs ht hvm hw hB hz1 hk1 hS => ?_)
  obtain ⟨fo_15, sc_16, lw_17, on_18, ot_19, cS_20, lf_21, lc_22, lb_23, cc1_24, cb1_25, cN_26, nf_27, cO_28, z_29, z_30, z_31, z_32, z_33, z_34, z_35, z_36, z_37, z_38, z_39, hP1, hK1, hD1⟩ := hB
  rw [ht] at hP1
  obtain ⟨hP, hD⟩ := va_join (wr := [(h0, .inr (4, fs_12)), (q_1, .inl (cA_2, 22, .inr (.inl (fun _ => 0))))]) (w1 := [(q_13, .inr (5, fo_15)), (sc_16, .inl (cS_20, 5, .inl (fun _ => 0))), (lw_17, .inr (3, lf_21)), (lc_22, .inl (cc1_24, 600, .inl (fun _ => 0))), (lb_23, .inl (cb1_25, 6, .inl (fun _ => 0))), (on_18, .inl (cN_26, 2, .inl nf_27)), (ot_19, .inl (cO_28, 2, .inl (fun _ => 0)))]) hP hD [2] [0, 1] rfl rfl (by decide) (by decide) hk1 hFc hP1 hD1
  have hK := hK.app (va_K.moved hvm.symm hK1)
  generalize H1 = H at hP hS ⊢
  have hP : va_P (dC, dI) vwCl [(h0, .inr (4, fs_12)), (q_1, .inl (cA_2, 22, .inr (.inl (fun _ => 0)))), (q_13, .inr (5, fo_15)), (sc_16, .inl (cS_20, 5, .inl (fun _ => 0))), (lw_17, .inr (3, lf_21)), (lc_22, .inl (cc1_24, 600, .inl (fun _ => 0))), (lb_23, .inl (cb1_25, 6, .inl (fun _ => 0))), (on_18, .inl (cN_26, 2, .inl nf_27)), (ot_19, .inl (cO_28, 2, .inl (fun _ => 0)))] H := hP
  have hD : va_D A [(h0, .inr (4, fs_12)), (q_1, .inl (cA_2, 22, .inr (.inl (fun _ => 0)))), (q_13, .inr (5, fo_15)), (sc_16, .inl (cS_20, 5, .inl (fun _ => 0))), (lw_17, .inr (3, lf_21)), (lc_22, .inl (cc1_24, 600, .inl (fun _ => 0))), (lb_23, .inl (cb1_25, 6, .inl (fun _ => 0))), (on_18, .inl (cN_26, 2, .inl nf_27)), (ot_19, .inl (cO_28, 2, .inl (fun _ => 0)))] := hD
  have hK : va_K (dC, dI) vwCl [(cA_2, .long), (cS_20, .int), (cc1_24, .int), (cb1_25, .int), (cN_26, .int), (cO_28, .boolean)] s := hK
  refine W.widen (k := 34) (n := 861) (by decide) (by decide) ?_
  try dsimp only at hw
  refine va_put (D := (dC, dI)) (ci := 4) (v := .ref q_13) (ty := .object "BowWalk$Shop") (C := RX4) (T := TX4) (N := 11) hx hb hts i_X4 tyX4 tyX4_ok nmX4 hown hK hP hD hS 0 rfl rfl 8 (by decide) k_17 (fun _ h9 => h9) rfl (by decide +kernel) rfl rfl (by rw [lfs_12]; decide) dX4_init_57 (fun H locs hP hD hS => ?_)
  have hP : va_P (dC, dI) vwCl [(h0, .inr (4, (fs_12.set 8 (.ref q_13)))), (q_1, .inl (cA_2, 22, .inr (.inl (fun _ => 0)))), (q_13, .inr (5, fo_15)), (sc_16, .inl (cS_20, 5, .inl (fun _ => 0))), (lw_17, .inr (3, lf_21)), (lc_22, .inl (cc1_24, 600, .inl (fun _ => 0))), (lb_23, .inl (cb1_25, 6, .inl (fun _ => 0))), (on_18, .inl (cN_26, 2, .inl nf_27)), (ot_19, .inl (cO_28, 2, .inl (fun _ => 0)))] H := hP
  have hD : va_D A [(h0, .inr (4, (fs_12.set 8 (.ref q_13)))), (q_1, .inl (cA_2, 22, .inr (.inl (fun _ => 0)))), (q_13, .inr (5, fo_15)), (sc_16, .inl (cS_20, 5, .inl (fun _ => 0))), (lw_17, .inr (3, lf_21)), (lc_22, .inl (cc1_24, 600, .inl (fun _ => 0))), (lb_23, .inl (cb1_25, 6, .inl (fun _ => 0))), (on_18, .inl (cN_26, 2, .inl nf_27)), (ot_19, .inl (cO_28, 2, .inl (fun _ => 0)))] := hD
  generalize efs_40 : (fs_12.set 8 (.ref q_13)) = fs_40 at hP hD
  have lfs_40 : fs_40.length = 11 := by rw [← efs_40, List.length_set]; exact lfs_12
  have ffs_40_0 : fs_40[0]? = some (.ref q_1) := by rw [← efs_40]; exact p1_sn (by decide) ffs_12_0
  have ffs_40_8 : fs_40[8]? = some (.ref q_13) := by rw [← efs_40]; exact p1_sa lfs_12 (by decide)
  refine lv_aload_n hx hb dX4_init_60 rfl (lv_at hl 0 rfl) ?_
  refine lv_iconst (v := 0) hx hb dX4_init_61 (by decide) ?_
  refine va_put (D := (dC, dI)) (ci := 4) (v := .int 0) (ty := .int) (C := RX4) (T := TX4) (N := 11) hx hb hts i_X4 tyX4 tyX4_ok nmX4 hown hK hP hD hS 0 rfl rfl 9 (by decide) k_18 (fun _ h9 => h9) rfl (by decide +kernel) rfl rfl (by rw [lfs_40]; decide) dX4_init_62 (fun H locs hP hD hS => ?_)
  have hP : va_P (dC, dI) vwCl [(h0, .inr (4, (fs_40.set 9 (.int 0)))), (q_1, .inl (cA_2, 22, .inr (.inl (fun _ => 0)))), (q_13, .inr (5, fo_15)), (sc_16, .inl (cS_20, 5, .inl (fun _ => 0))), (lw_17, .inr (3, lf_21)), (lc_22, .inl (cc1_24, 600, .inl (fun _ => 0))), (lb_23, .inl (cb1_25, 6, .inl (fun _ => 0))), (on_18, .inl (cN_26, 2, .inl nf_27)), (ot_19, .inl (cO_28, 2, .inl (fun _ => 0)))] H := hP
  have hD : va_D A [(h0, .inr (4, (fs_40.set 9 (.int 0)))), (q_1, .inl (cA_2, 22, .inr (.inl (fun _ => 0)))), (q_13, .inr (5, fo_15)), (sc_16, .inl (cS_20, 5, .inl (fun _ => 0))), (lw_17, .inr (3, lf_21)), (lc_22, .inl (cc1_24, 600, .inl (fun _ => 0))), (lb_23, .inl (cb1_25, 6, .inl (fun _ => 0))), (on_18, .inl (cN_26, 2, .inl nf_27)), (ot_19, .inl (cO_28, 2, .inl (fun _ => 0)))] := hD
  generalize efs_41 : (fs_40.set 9 (.int 0)) = fs_41 at hP hD
  have lfs_41 : fs_41.length = 11 := by rw [← efs_41, List.length_set]; exact lfs_40
  have ffs_41_0 : fs_41[0]? = some (.ref q_1) := by rw [← efs_41]; exact p1_sn (by decide) ffs_40_0
  have ffs_41_8 : fs_41[8]? = some (.ref q_13) := by rw [← efs_41]; exact p1_sn (by decide) ffs_40_8
  have ffs_41_9 : fs_41[9]? = some (.int 0) := by rw [← efs_41]; exact p1_sa lfs_40 (by decide)
  refine lv_aload_n hx hb dX4_init_65 rfl (lv_at hl 0 rfl) ?_
  refine lv_iconst (v := (-1)) hx hb dX4_init_66 (by decide) ?_
  refine va_put (D := (dC, dI)) (ci := 4) (v := .int (-1)) (ty := .int) (C := RX4) (T := TX4) (N := 11) hx hb hts i_X4 tyX4 tyX4_ok nmX4 hown hK hP hD hS 0 rfl rfl 10 (by decide) k_19 (fun _ h9 => h9) rfl (by decide +kernel) rfl rfl (by rw [lfs_41]; decide) dX4_init_67 (fun H locs hP hD hS => ?_)
  have hP : va_P (dC, dI) vwCl [(h0, .inr (4, (fs_41.set 10 (.int (-1))))), (q_1, .inl (cA_2, 22, .inr (.inl (fun _ => 0)))), (q_13, .inr (5, fo_15)), (sc_16, .inl (cS_20, 5, .inl (fun _ => 0))), (lw_17, .inr (3, lf_21)), (lc_22, .inl (cc1_24, 600, .inl (fun _ => 0))), (lb_23, .inl (cb1_25, 6, .inl (fun _ => 0))), (on_18, .inl (cN_26, 2, .inl nf_27)), (ot_19, .inl (cO_28, 2, .inl (fun _ => 0)))] H := hP
  have hD : va_D A [(h0, .inr (4, (fs_41.set 10 (.int (-1))))), (q_1, .inl (cA_2, 22, .inr (.inl (fun _ => 0)))), (q_13, .inr (5, fo_15)), (sc_16, .inl (cS_20, 5, .inl (fun _ => 0))), (lw_17, .inr (3, lf_21)), (lc_22, .inl (cc1_24, 600, .inl (fun _ => 0))), (lb_23, .inl (cb1_25, 6, .inl (fun _ => 0))), (on_18, .inl (cN_26, 2, .inl nf_27)), (ot_19, .inl (cO_28, 2, .inl (fun _ => 0)))] := hD
  generalize efs_42 : (fs_41.set 10 (.int (-1))) = fs_42 at hP hD
  have lfs_42 : fs_42.length = 11 := by rw [← efs_42, List.length_set]; exact lfs_41
  have ffs_42_0 : fs_42[0]? = some (.ref q_1) := by rw [← efs_42]; exact p1_sn (by decide) ffs_41_0
  have ffs_42_8 : fs_42[8]? = some (.ref q_13) := by rw [← efs_42]; exact p1_sn (by decide) ffs_41_8
  have ffs_42_9 : fs_42[9]? = some (.int 0) := by rw [← efs_42]; exact p1_sn (by decide) ffs_41_9
  have ffs_42_10 : fs_42[10]? = some (.int (-1)) := by rw [← efs_42]; exact p1_sa lfs_41 (by decide)
  refine lv_iconst (v := 0) hx hb dX4_init_70 (by decide) ?_
  refine lv_istore_n (lv' := [(1, .int 0), (0, .ref h0)]) hx hb dX4_init_71 rfl hl (by decide) rfl (fun ls hl => ?_)
  refine lv_iconst (v := 0) hx hb dX4_init_72 (by decide) ?_
  refine lv_istore_n (lv' := [(2, .int 0), (1, .int 0), (0, .ref h0)]) hx hb dX4_init_73 rfl hl (by decide) rfl (fun ls hl => ?_)
  have key : ∀ (fu k j : Nat) (x1 x2 : Int32) (wf : Nat → Int64) (H : Heap) (locs : List Loc) (ls : Array Slot), k ≤ 115 → 115 ≤ k + fu → j ≤ 22 → x2 = nI k → x1 = nI j → va_P (dC, dI) vwCl [(h0, .inr (4, fs_42)), (q_1, .inl (cA_2, 22, .inr (.inl wf))), (q_13, .inr (5, fo_15)), (sc_16, .inl (cS_20, 5, .inl (fun _ => 0))), (lw_17, .inr (3, lf_21)), (lc_22, .inl (cc1_24, 600, .inl (fun _ => 0))), (lb_23, .inl (cb1_25, 6, .inl (fun _ => 0))), (on_18, .inl (cN_26, 2, .inl nf_27)), (ot_19, .inl (cO_28, 2, .inl (fun _ => 0)))] H → va_D A [(h0, .inr (4, fs_42)), (q_1, .inl (cA_2, 22, .inr (.inl wf))), (q_13, .inr (5, fo_15)), (sc_16, .inl (cS_20, 5, .inl (fun _ => 0))), (lw_17, .inr (3, lf_21)), (lc_22, .inl (cc1_24, 600, .inl (fun _ => 0))), (lb_23, .inl (cb1_25, 6, .inl (fun _ => 0))), (on_18, .inl (cN_26, 2, .inl nf_27)), (ot_19, .inl (cO_28, 2, .inl (fun _ => 0)))] → va_S A s.heap H locs → lv_has ls 4 [(2, .int x2), (1, .int x1), (0, .ref h0)] → W p l e (headSpec zw_n_Reader { frames := 4, cells := 34, slots := 861, locals := 85 }).room s m ([.ref h0] : List Value).toArray below meth c H locs 34 861 (MQ below (va_Qv (fun (_ : Unit) => True) (fun _ t => ∃ (fo : List Value) (dsh : Nat) (dfo : List Value) (dsc : Nat) (dlw : Nat) (don : Nat) (dot : Nat) (dcS : ClassId) (dlf : List Value) (dlc : Nat) (dlb : Nat) (dcc1 : ClassId) (dcb1 : ClassId) (dcN : ClassId) (dnf : Nat → Int32) (dcO : ClassId), fo.length = 11 ∧ fo[8]? = some (.ref dsh) ∧ fo[9]? = some (.int 0) ∧ fo[10]? = some (.int (-1)) ∧ dfo.length = 15 ∧ dfo[0]? = some (.ref dsc) ∧ dfo[12]? = some (.ref dlw) ∧ dfo[13]? = some (.ref don) ∧ dfo[14]? = some (.ref dot) ∧ dlf.length = 6 ∧ dlf[0]? = some (.ref dlc) ∧ dlf[1]? = some (.ref dlb) ∧ dlf[3]? = some (.int 0) ∧ dlf[4]? = some (.int 0) ∧ dlf[5]? = some (.int 0) ∧ va_P (dC, dI) vwCl [(h0, .inr (4, fo)), (dsh, .inr (5, dfo)), (dsc, .inl (dcS, 5, .inl (fun _ => 0))), (dlw, .inr (3, dlf)), (dlc, .inl (dcc1, 600, .inl (fun _ => 0))), (dlb, .inl (dcb1, 6, .inl (fun _ => 0))), (don, .inl (dcN, 2, .inl dnf)), (dot, .inl (dcO, 2, .inl (fun _ => 0)))] t.heap ∧ va_K (dC, dI) vwCl [(dcS, .int), (dcc1, .int), (dcb1, .int), (dcN, .int), (dcO, .boolean)] t ∧ va_D A [(h0, .inr (4, fo)), (dsh, .inr (5, dfo)), (dsc, .inl (dcS, 5, .inl (fun _ => 0))), (dlw, .inr (3, dlf)), (dlc, .inl (dcc1, 600, .inl (fun _ => 0))), (dlb, .inl (dcb1, 6, .inl (fun _ => 0))), (don, .inl (dcN, 2, .inl dnf)), (dot, .inl (dcO, 2, .inl (fun _ => 0)))]) A) ([.ref h0] : List Value).toArray s 34 861 A) (F0 m 74 ls []) := by
    intro fu
    induction fu with
    | zero =>
      intro k j x1 x2 wf H locs ls hk hfu hj ek ej hP hD hS hl
      refine lv_iload_n hx hb dX4_init_74 rfl (lv_at hl 0 rfl) ?_
      refine va_ldcS hx hb hown r1 dX4_init_75 ?_
      have hPc := hP.sub (ws' := []) [] rfl
      have hDc := hD.sub (ws' := []) [] (by decide) rfl
      have hKc := hK.sub (tys' := []) [] rfl
      have hFc := va_free (wc := []) hD hS hA [] rfl
      refine va_calli (va_runV (As := []) (rest := [.int x2]) ⟨hx, hb, hml, hown, hts⟩ (s_length l dC dI H.size sK sV sf) (cwV 0 hts (p1_gV m_20 m_21 m_22 m_23 g_s_length gz_s_length) rfl rfl rfl (by decide +kernel) ⟨by decide, by decide⟩) ⟨fun a U g mk q => by obtain ⟨q0, q1, qP, qK, qD, qE⟩ := q; exact ⟨q0, q1, qP, va_K.moved (u := U) (U := U.calling g mk a) (Vm.Alike.refl U.vm) qK, qD, qE⟩, p1_recv t1 hS, fun U hU hW => ⟨rfl, by rw [hU], by rw [hU]; exact hPc, va_K.moved hW.alike hKc, hDc.weaken (fun _ _ _ _ => trivial), by rw [hU]; exact p1_st.warm (⟨t1, t2, t3, t4, z1, z2⟩ : p1_st sK sV sf A s s.heap) hW hS (fun q h => hFc q h)⟩⟩ rfl rfl hl.1 rfl (lv_room (Nat.le_of_ble_eq_true rfl)) dX4_init_77 ⟨by decide, by decide⟩) hS (fun q _ h => hFc q h) hFc (fun r_43 u t H1 locs ht hvm hw hB hz1 hk1 hS => ?_)
      obtain ⟨hP1, hK1, hD1⟩ := hB
      rw [ht] at hP1
      obtain ⟨hP, hD⟩ := va_join (wr := [(h0, .inr (4, fs_42)), (q_1, .inl (cA_2, 22, .inr (.inl wf))), (q_13, .inr (5, fo_15)), (sc_16, .inl (cS_20, 5, .inl (fun _ => 0))), (lw_17, .inr (3, lf_21)), (lc_22, .inl (cc1_24, 600, .inl (fun _ => 0))), (lb_23, .inl (cb1_25, 6, .inl (fun _ => 0))), (on_18, .inl (cN_26, 2, .inl nf_27)), (ot_19, .inl (cO_28, 2, .inl (fun _ => 0)))]) (w1 := []) hP hD [] [0, 1, 2, 3, 4, 5, 6, 7, 8] rfl rfl (by decide) (by decide) hk1 hFc hP1 hD1
      generalize H1 = H at hP hS ⊢
      have hP : va_P (dC, dI) vwCl [(h0, .inr (4, fs_42)), (q_1, .inl (cA_2, 22, .inr (.inl wf))), (q_13, .inr (5, fo_15)), (sc_16, .inl (cS_20, 5, .inl (fun _ => 0))), (lw_17, .inr (3, lf_21)), (lc_22, .inl (cc1_24, 600, .inl (fun _ => 0))), (lb_23, .inl (cb1_25, 6, .inl (fun _ => 0))), (on_18, .inl (cN_26, 2, .inl nf_27)), (ot_19, .inl (cO_28, 2, .inl (fun _ => 0)))] H := hP
      have hD : va_D A [(h0, .inr (4, fs_42)), (q_1, .inl (cA_2, 22, .inr (.inl wf))), (q_13, .inr (5, fo_15)), (sc_16, .inl (cS_20, 5, .inl (fun _ => 0))), (lw_17, .inr (3, lf_21)), (lc_22, .inl (cc1_24, 600, .inl (fun _ => 0))), (lb_23, .inl (cb1_25, 6, .inl (fun _ => 0))), (on_18, .inl (cN_26, 2, .inl nf_27)), (ot_19, .inl (cO_28, 2, .inl (fun _ => 0)))] := hD
      try dsimp only at hw
      obtain rfl : r_43 = 115 := hw
      refine lv_icmp_ge (tgt := 130) hx hb dX4_init_80 (by decide) (fun c80 => ?_) (fun c80 => ?_)
      · have hP9 := hP.sub (ws' := [(h0, .inr (4, fs_42)), (q_13, .inr (5, fo_15)), (sc_16, .inl (cS_20, 5, .inl (fun _ => 0))), (lw_17, .inr (3, lf_21)), (lc_22, .inl (cc1_24, 600, .inl (fun _ => 0))), (lb_23, .inl (cb1_25, 6, .inl (fun _ => 0))), (on_18, .inl (cN_26, 2, .inl nf_27)), (ot_19, .inl (cO_28, 2, .inl (fun _ => 0)))]) [0, 2, 3, 4, 5, 6, 7, 8] rfl
        have hD9 := hD.sub (ws' := [(h0, .inr (4, fs_42)), (q_13, .inr (5, fo_15)), (sc_16, .inl (cS_20, 5, .inl (fun _ => 0))), (lw_17, .inr (3, lf_21)), (lc_22, .inl (cc1_24, 600, .inl (fun _ => 0))), (lb_23, .inl (cb1_25, 6, .inl (fun _ => 0))), (on_18, .inl (cN_26, 2, .inl nf_27)), (ot_19, .inl (cO_28, 2, .inl (fun _ => 0)))]) [0, 2, 3, 4, 5, 6, 7, 8] (by decide) rfl
        have hK9 := hK.sub (tys' := [(cS_20, .int), (cc1_24, .int), (cb1_25, .int), (cN_26, .int), (cO_28, .boolean)]) [1, 2, 3, 4, 5] rfl
        exact W.vret hx hb hr (fun t ht hW => ⟨⟨(), rfl, trivial, fs_42, q_13, fo_15, sc_16, lw_17, on_18, ot_19, cS_20, lf_21, lc_22, lb_23, cc1_24, cb1_25, cN_26, nf_27, cO_28, lfs_42, ffs_42_8, ffs_42_9, ffs_42_10, z_29, z_30, z_31, z_32, z_33, z_34, z_35, z_36, z_37, z_38, z_39, by rw [ht]; exact hP9, va_K.moved hW.alike hK9, hD9⟩, hS.F ht⟩) hS.2.2 dX4_init_130
      · exact absurd (by rw [ek]; exact nI_le (a := 115) (b := k) (by omega) (by omega)) c80
    | succ fu ih =>
      intro k j x1 x2 wf H locs ls hk hfu hj ek ej hP hD hS hl
      refine lv_iload_n hx hb dX4_init_74 rfl (lv_at hl 0 rfl) ?_
      refine va_ldcS hx hb hown r1 dX4_init_75 ?_
      have hPc := hP.sub (ws' := []) [] rfl
      have hDc := hD.sub (ws' := []) [] (by decide) rfl
      have hKc := hK.sub (tys' := []) [] rfl
      have hFc := va_free (wc := []) hD hS hA [] rfl
      refine va_calli (va_runV (As := []) (rest := [.int x2]) ⟨hx, hb, hml, hown, hts⟩ (s_length l dC dI H.size sK sV sf) (cwV 0 hts (p1_gV m_20 m_21 m_22 m_23 g_s_length gz_s_length) rfl rfl rfl (by decide +kernel) ⟨by decide, by decide⟩) ⟨fun a U g mk q => by obtain ⟨q0, q1, qP, qK, qD, qE⟩ := q; exact ⟨q0, q1, qP, va_K.moved (u := U) (U := U.calling g mk a) (Vm.Alike.refl U.vm) qK, qD, qE⟩, p1_recv t1 hS, fun U hU hW => ⟨rfl, by rw [hU], by rw [hU]; exact hPc, va_K.moved hW.alike hKc, hDc.weaken (fun _ _ _ _ => trivial), by rw [hU]; exact p1_st.warm (⟨t1, t2, t3, t4, z1, z2⟩ : p1_st sK sV sf A s s.heap) hW hS (fun q h => hFc q h)⟩⟩ rfl rfl hl.1 rfl (lv_room (Nat.le_of_ble_eq_true rfl)) dX4_init_77 ⟨by decide, by decide⟩) hS (fun q _ h => hFc q h) hFc (fun r_44 u t H1 locs ht hvm hw hB hz1 hk1 hS => ?_)
      obtain ⟨hP1, hK1, hD1⟩ := hB
      rw [ht] at hP1
      obtain ⟨hP, hD⟩ := va_join (wr := [(h0, .inr (4, fs_42)), (q_1, .inl (cA_2, 22, .inr (.inl wf))), (q_13, .inr (5, fo_15)), (sc_16, .inl (cS_20, 5, .inl (fun _ => 0))), (lw_17, .inr (3, lf_21)), (lc_22, .inl (cc1_24, 600, .inl (fun _ => 0))), (lb_23, .inl (cb1_25, 6, .inl (fun _ => 0))), (on_18, .inl (cN_26, 2, .inl nf_27)), (ot_19, .inl (cO_28, 2, .inl (fun _ => 0)))]) (w1 := []) hP hD [] [0, 1, 2, 3, 4, 5, 6, 7, 8] rfl rfl (by decide) (by decide) hk1 hFc hP1 hD1
      generalize H1 = H at hP hS ⊢
      have hP : va_P (dC, dI) vwCl [(h0, .inr (4, fs_42)), (q_1, .inl (cA_2, 22, .inr (.inl wf))), (q_13, .inr (5, fo_15)), (sc_16, .inl (cS_20, 5, .inl (fun _ => 0))), (lw_17, .inr (3, lf_21)), (lc_22, .inl (cc1_24, 600, .inl (fun _ => 0))), (lb_23, .inl (cb1_25, 6, .inl (fun _ => 0))), (on_18, .inl (cN_26, 2, .inl nf_27)), (ot_19, .inl (cO_28, 2, .inl (fun _ => 0)))] H := hP
      have hD : va_D A [(h0, .inr (4, fs_42)), (q_1, .inl (cA_2, 22, .inr (.inl wf))), (q_13, .inr (5, fo_15)), (sc_16, .inl (cS_20, 5, .inl (fun _ => 0))), (lw_17, .inr (3, lf_21)), (lc_22, .inl (cc1_24, 600, .inl (fun _ => 0))), (lb_23, .inl (cb1_25, 6, .inl (fun _ => 0))), (on_18, .inl (cN_26, 2, .inl nf_27)), (ot_19, .inl (cO_28, 2, .inl (fun _ => 0)))] := hD
      try dsimp only at hw
      obtain rfl : r_44 = 115 := hw
      refine lv_icmp_ge (tgt := 130) hx hb dX4_init_80 (by decide) (fun c80 => ?_) (fun c80 => ?_)
      · have hP9 := hP.sub (ws' := [(h0, .inr (4, fs_42)), (q_13, .inr (5, fo_15)), (sc_16, .inl (cS_20, 5, .inl (fun _ => 0))), (lw_17, .inr (3, lf_21)), (lc_22, .inl (cc1_24, 600, .inl (fun _ => 0))), (lb_23, .inl (cb1_25, 6, .inl (fun _ => 0))), (on_18, .inl (cN_26, 2, .inl nf_27)), (ot_19, .inl (cO_28, 2, .inl (fun _ => 0)))]) [0, 2, 3, 4, 5, 6, 7, 8] rfl
        have hD9 := hD.sub (ws' := [(h0, .inr (4, fs_42)), (q_13, .inr (5, fo_15)), (sc_16, .inl (cS_20, 5, .inl (fun _ => 0))), (lw_17, .inr (3, lf_21)), (lc_22, .inl (cc1_24, 600, .inl (fun _ => 0))), (lb_23, .inl (cb1_25, 6, .inl (fun _ => 0))), (on_18, .inl (cN_26, 2, .inl nf_27)), (ot_19, .inl (cO_28, 2, .inl (fun _ => 0)))]) [0, 2, 3, 4, 5, 6, 7, 8] (by decide) rfl
        have hK9 := hK.sub (tys' := [(cS_20, .int), (cc1_24, .int), (cb1_25, .int), (cN_26, .int), (cO_28, .boolean)]) [1, 2, 3, 4, 5] rfl
        exact W.vret hx hb hr (fun t ht hW => ⟨⟨(), rfl, trivial, fs_42, q_13, fo_15, sc_16, lw_17, on_18, ot_19, cS_20, lf_21, lc_22, lb_23, cc1_24, cb1_25, cN_26, nf_27, cO_28, lfs_42, ffs_42_8, ffs_42_9, ffs_42_10, z_29, z_30, z_31, z_32, z_33, z_34, z_35, z_36, z_37, z_38, z_39, by rw [ht]; exact hP9, va_K.moved hW.alike hK9, hD9⟩, hS.F ht⟩) hS.2.2 dX4_init_130
      · have hlt : k < 115 := Nat.lt_of_not_le (fun q => c80 (by rw [ek]; exact nI_le (a := 115) (b := k) q (by omega)))
        refine lv_iload_n hx hb dX4_init_83 rfl (lv_at hl 1 rfl) ?_
        refine lv_bipush (v := 22) hx hb dX4_init_84 (by decide) ?_
        refine lv_icmp_ge (tgt := 130) hx hb dX4_init_86 (by decide) (fun c86 => ?_) (fun c86 => ?_)
        · have hP9 := hP.sub (ws' := [(h0, .inr (4, fs_42)), (q_13, .inr (5, fo_15)), (sc_16, .inl (cS_20, 5, .inl (fun _ => 0))), (lw_17, .inr (3, lf_21)), (lc_22, .inl (cc1_24, 600, .inl (fun _ => 0))), (lb_23, .inl (cb1_25, 6, .inl (fun _ => 0))), (on_18, .inl (cN_26, 2, .inl nf_27)), (ot_19, .inl (cO_28, 2, .inl (fun _ => 0)))]) [0, 2, 3, 4, 5, 6, 7, 8] rfl
          have hD9 := hD.sub (ws' := [(h0, .inr (4, fs_42)), (q_13, .inr (5, fo_15)), (sc_16, .inl (cS_20, 5, .inl (fun _ => 0))), (lw_17, .inr (3, lf_21)), (lc_22, .inl (cc1_24, 600, .inl (fun _ => 0))), (lb_23, .inl (cb1_25, 6, .inl (fun _ => 0))), (on_18, .inl (cN_26, 2, .inl nf_27)), (ot_19, .inl (cO_28, 2, .inl (fun _ => 0)))]) [0, 2, 3, 4, 5, 6, 7, 8] (by decide) rfl
          have hK9 := hK.sub (tys' := [(cS_20, .int), (cc1_24, .int), (cb1_25, .int), (cN_26, .int), (cO_28, .boolean)]) [1, 2, 3, 4, 5] rfl
          exact W.vret hx hb hr (fun t ht hW => ⟨⟨(), rfl, trivial, fs_42, q_13, fo_15, sc_16, lw_17, on_18, ot_19, cS_20, lf_21, lc_22, lb_23, cc1_24, cb1_25, cN_26, nf_27, cO_28, lfs_42, ffs_42_8, ffs_42_9, ffs_42_10, z_29, z_30, z_31, z_32, z_33, z_34, z_35, z_36, z_37, z_38, z_39, by rw [ht]; exact hP9, va_K.moved hW.alike hK9, hD9⟩, hS.F ht⟩) hS.2.2 dX4_init_130
        · have hjt : j < 22 := Nat.lt_of_not_le (fun q => c86 (by rw [ej]; exact nI_le (a := 22) (b := j) q (by omega)))
          refine va_ldcS hx hb hown r1 dX4_init_89 ?_
          refine lv_iload_n hx hb dX4_init_91 rfl (lv_at hl 0 rfl) ?_
          have hPc := hP.sub (ws' := []) [] rfl
          have hDc := hD.sub (ws' := []) [] (by decide) rfl
          have hKc := hK.sub (tys' := []) [] rfl
          have hFc := va_free (wc := []) hD hS hA [] rfl
          refine va_calli (va_runV (As := [.int x2]) (rest := []) ⟨hx, hb, hml, hown, hts⟩ (s_charAt l dC dI H.size sK x2 sV sf ((by rw [ek]; exact nI_pos (by omega))) ((Int32.not_le.mp c80))) (cwV 1 hts (p1_gV m_24 m_25 m_26 m_23 g_s_charAt gz_s_charAt) rfl rfl rfl (by decide +kernel) ⟨by decide, by decide⟩) ⟨fun a U g mk q => by obtain ⟨q0, q1, qP, qK, qD, qE⟩ := q; exact ⟨q0, q1, qP, va_K.moved (u := U) (U := U.calling g mk a) (Vm.Alike.refl U.vm) qK, qD, qE⟩, p1_recv t1 hS, fun U hU hW => ⟨rfl, by rw [hU], by rw [hU]; exact hPc, va_K.moved hW.alike hKc, hDc.weaken (fun _ _ _ _ => trivial), by rw [hU]; exact p1_st.warm (⟨t1, t2, t3, t4, z1, z2⟩ : p1_st sK sV sf A s s.heap) hW hS (fun q h => hFc q h)⟩⟩ rfl rfl hl.1 rfl (lv_room (Nat.le_of_ble_eq_true rfl)) dX4_init_92 ⟨by decide, by decide⟩) hS (fun q _ h => hFc q h) hFc (fun r_45 u t H1 locs ht hvm hw hB hz1 hk1 hS => ?_)
          obtain ⟨hP1, hK1, hD1⟩ := hB
          rw [ht] at hP1
          obtain ⟨hP, hD⟩ := va_join (wr := [(h0, .inr (4, fs_42)), (q_1, .inl (cA_2, 22, .inr (.inl wf))), (q_13, .inr (5, fo_15)), (sc_16, .inl (cS_20, 5, .inl (fun _ => 0))), (lw_17, .inr (3, lf_21)), (lc_22, .inl (cc1_24, 600, .inl (fun _ => 0))), (lb_23, .inl (cb1_25, 6, .inl (fun _ => 0))), (on_18, .inl (cN_26, 2, .inl nf_27)), (ot_19, .inl (cO_28, 2, .inl (fun _ => 0)))]) (w1 := []) hP hD [] [0, 1, 2, 3, 4, 5, 6, 7, 8] rfl rfl (by decide) (by decide) hk1 hFc hP1 hD1
          generalize H1 = H at hP hS ⊢
          have hP : va_P (dC, dI) vwCl [(h0, .inr (4, fs_42)), (q_1, .inl (cA_2, 22, .inr (.inl wf))), (q_13, .inr (5, fo_15)), (sc_16, .inl (cS_20, 5, .inl (fun _ => 0))), (lw_17, .inr (3, lf_21)), (lc_22, .inl (cc1_24, 600, .inl (fun _ => 0))), (lb_23, .inl (cb1_25, 6, .inl (fun _ => 0))), (on_18, .inl (cN_26, 2, .inl nf_27)), (ot_19, .inl (cO_28, 2, .inl (fun _ => 0)))] H := hP
          have hD : va_D A [(h0, .inr (4, fs_42)), (q_1, .inl (cA_2, 22, .inr (.inl wf))), (q_13, .inr (5, fo_15)), (sc_16, .inl (cS_20, 5, .inl (fun _ => 0))), (lw_17, .inr (3, lf_21)), (lc_22, .inl (cc1_24, 600, .inl (fun _ => 0))), (lb_23, .inl (cb1_25, 6, .inl (fun _ => 0))), (on_18, .inl (cN_26, 2, .inl nf_27)), (ot_19, .inl (cO_28, 2, .inl (fun _ => 0)))] := hD
          try dsimp only at hw
          have hw_46 := hw
          refine lv_istore_n (lv' := [(3, .int r_45), (2, .int x2), (1, .int x1), (0, .ref h0)]) hx hb dX4_init_95 rfl hl (by decide) rfl (fun ls hl => ?_)
          refine lv_iload_n hx hb dX4_init_96 rfl (lv_at hl 0 rfl) ?_
          refine lv_bipush (v := 32) hx hb dX4_init_97 (by decide) ?_
          refine lv_icmp_ne (tgt := 108) hx hb dX4_init_99 (by decide) (fun c99 => ?_) (fun c99 => ?_)
          · refine lv_aload_n hx hb dX4_init_108 rfl (lv_at hl 3 rfl) ?_
            refine va_get (D := (dC, dI)) (ci := 4) (v := .ref q_1) (C := RX4) (T := TX4) (N := 11) hx hb hts i_X4 hown hK hP 0 rfl rfl 0 (by decide) k_4 (fun _ h9 => h9) ffs_42_0 dX4_init_109 ?_
            refine lv_iload_n hx hb dX4_init_112 rfl (lv_at hl 2 rfl) ?_
            refine lv_aload_n hx hb dX4_init_113 rfl (lv_at hl 3 rfl) ?_
            refine va_get (D := (dC, dI)) (ci := 4) (v := .ref q_1) (C := RX4) (T := TX4) (N := 11) hx hb hts i_X4 hown hK hP 0 rfl rfl 0 (by decide) k_4 (fun _ h9 => h9) ffs_42_0 dX4_init_114 ?_
            refine lv_iload_n hx hb dX4_init_117 rfl (lv_at hl 2 rfl) ?_
            refine va_lald hx hb hK hP 1 0 rfl rfl (by rw [ej]; exact vp_in_nI hjt (by decide)) dX4_init_118 ?_
            refine lv_topl (fun w_47 ew_47 => ?_)
            refine lv_iload_n hx hb dX4_init_119 rfl (lv_at hl 0 rfl) ?_
            have hPc := hP.sub (ws' := []) [] rfl
            have hDc := hD.sub (ws' := []) [] (by decide) rfl
            have hKc := hK.sub (tys' := []) [] rfl
            have hFc := va_free (wc := []) hD hS hA [] rfl
            refine va_calll (va_runS (As := [.long w_47, .int r_45]) (rest := [.int x1, .ref q_1]) ⟨hx, hb, hml, hown, hts⟩ (c_withLetter l dC dI H.size w_47 r_45) (va_cwS 2 hts (p1_gS m_27 m_28 m_29 g_c_withLetter gz_c_withLetter) rfl rfl rfl (by decide +kernel) ⟨by decide, by decide⟩) ⟨fun a U g mk q => by obtain ⟨q0, q1, qP, qK, qD⟩ := q; exact ⟨q0, q1, qP, va_K.moved (u := U) (U := U.calling g mk a) (Vm.Alike.refl U.vm) qK, qD⟩, fun U hU hW => ⟨rfl, by rw [hU], by rw [hU]; exact hPc, va_K.moved hW.alike hKc, hDc.weaken (fun _ _ _ _ => trivial)⟩⟩ rfl rfl hl.1 rfl (lv_room (Nat.le_of_ble_eq_true rfl)) dX4_init_120 ⟨by decide, by decide⟩) hS (fun q _ h => hFc q h) hFc (fun r_48 u t H1 locs ht hvm hw hB hz1 hk1 hS => ?_)
            obtain ⟨hP1, hK1, hD1⟩ := hB
            rw [ht] at hP1
            obtain ⟨hP, hD⟩ := va_join (wr := [(h0, .inr (4, fs_42)), (q_1, .inl (cA_2, 22, .inr (.inl wf))), (q_13, .inr (5, fo_15)), (sc_16, .inl (cS_20, 5, .inl (fun _ => 0))), (lw_17, .inr (3, lf_21)), (lc_22, .inl (cc1_24, 600, .inl (fun _ => 0))), (lb_23, .inl (cb1_25, 6, .inl (fun _ => 0))), (on_18, .inl (cN_26, 2, .inl nf_27)), (ot_19, .inl (cO_28, 2, .inl (fun _ => 0)))]) (w1 := []) hP hD [] [0, 1, 2, 3, 4, 5, 6, 7, 8] rfl rfl (by decide) (by decide) hk1 hFc hP1 hD1
            generalize H1 = H at hP hS ⊢
            have hP : va_P (dC, dI) vwCl [(h0, .inr (4, fs_42)), (q_1, .inl (cA_2, 22, .inr (.inl wf))), (q_13, .inr (5, fo_15)), (sc_16, .inl (cS_20, 5, .inl (fun _ => 0))), (lw_17, .inr (3, lf_21)), (lc_22, .inl (cc1_24, 600, .inl (fun _ => 0))), (lb_23, .inl (cb1_25, 6, .inl (fun _ => 0))), (on_18, .inl (cN_26, 2, .inl nf_27)), (ot_19, .inl (cO_28, 2, .inl (fun _ => 0)))] H := hP
            have hD : va_D A [(h0, .inr (4, fs_42)), (q_1, .inl (cA_2, 22, .inr (.inl wf))), (q_13, .inr (5, fo_15)), (sc_16, .inl (cS_20, 5, .inl (fun _ => 0))), (lw_17, .inr (3, lf_21)), (lc_22, .inl (cc1_24, 600, .inl (fun _ => 0))), (lb_23, .inl (cb1_25, 6, .inl (fun _ => 0))), (on_18, .inl (cN_26, 2, .inl nf_27)), (ot_19, .inl (cO_28, 2, .inl (fun _ => 0)))] := hD
            try dsimp only at hw
            refine va_last hx hb hK hP hD hS 1 0 rfl rfl (by rw [ej]; exact vp_in_nI hjt (by decide)) dX4_init_123 (fun H locs hP hD hS => ?_)
            have hP : va_P (dC, dI) vwCl [(h0, .inr (4, fs_42)), (q_1, .inl (cA_2, 22, .inr (.inl (vp_updL wf x1.toNatClampNeg r_48)))), (q_13, .inr (5, fo_15)), (sc_16, .inl (cS_20, 5, .inl (fun _ => 0))), (lw_17, .inr (3, lf_21)), (lc_22, .inl (cc1_24, 600, .inl (fun _ => 0))), (lb_23, .inl (cb1_25, 6, .inl (fun _ => 0))), (on_18, .inl (cN_26, 2, .inl nf_27)), (ot_19, .inl (cO_28, 2, .inl (fun _ => 0)))] H := hP
            have hD : va_D A [(h0, .inr (4, fs_42)), (q_1, .inl (cA_2, 22, .inr (.inl (vp_updL wf x1.toNatClampNeg r_48)))), (q_13, .inr (5, fo_15)), (sc_16, .inl (cS_20, 5, .inl (fun _ => 0))), (lw_17, .inr (3, lf_21)), (lc_22, .inl (cc1_24, 600, .inl (fun _ => 0))), (lb_23, .inl (cb1_25, 6, .inl (fun _ => 0))), (on_18, .inl (cN_26, 2, .inl nf_27)), (ot_19, .inl (cO_28, 2, .inl (fun _ => 0)))] := hD
            generalize eg_49 : (vp_updL wf x1.toNatClampNeg r_48) = g_49 at hP hD
            obtain ⟨v_50, ev_50⟩ : ∃ y : Int32, y = x2 + 1 := ⟨_, rfl⟩
            refine lv_iinc (v := v_50) (lv' := [(2, .int v_50), (3, .int r_45), (1, .int x1), (0, .ref h0)]) hx hb dX4_init_124 hl (k := 1) rfl (by rw [ev_50]; rfl) (by decide) rfl (fun ls hl => ?_)
            refine lv_goto (tgt := 74) hx hb dX4_init_127 (by decide) ?_
            exact ih (k + 1) j x1 v_50 g_49 _ _ _ (by omega) (by omega) (by omega) (by rw [ev_50, ek]; exact nI_1 k) ej (hP.sub [0, 1, 2, 3, 4, 5, 6, 7, 8] rfl) (hD.sub [0, 1, 2, 3, 4, 5, 6, 7, 8] (by decide) rfl) hS (lv_sub hl [0, 2, 3] rfl)
          · obtain ⟨v_51, ev_51⟩ : ∃ y : Int32, y = x1 + 1 := ⟨_, rfl⟩
            refine lv_iinc (v := v_51) (lv' := [(1, .int v_51), (3, .int r_45), (2, .int x2), (0, .ref h0)]) hx hb dX4_init_102 hl (k := 2) rfl (by rw [ev_51]; rfl) (by decide) rfl (fun ls hl => ?_)
            refine lv_goto (tgt := 124) hx hb dX4_init_105 (by decide) ?_
            obtain ⟨v_52, ev_52⟩ : ∃ y : Int32, y = x2 + 1 := ⟨_, rfl⟩
            refine lv_iinc (v := v_52) (lv' := [(2, .int v_52), (1, .int v_51), (3, .int r_45), (0, .ref h0)]) hx hb dX4_init_124 hl (k := 2) rfl (by rw [ev_52]; rfl) (by decide) rfl (fun ls hl => ?_)
            refine lv_goto (tgt := 74) hx hb dX4_init_127 (by decide) ?_
            exact ih (k + 1) (j + 1) v_51 v_52 wf _ _ _ (by omega) (by omega) (by omega) (by rw [ev_52, ek]; exact nI_1 k) (by rw [ev_51, ej]; exact nI_1 j) (hP.sub [0, 1, 2, 3, 4, 5, 6, 7, 8] rfl) (hD.sub [0, 1, 2, 3, 4, 5, 6, 7, 8] (by decide) rfl) hS (lv_sub hl [0, 1, 3] rfl)
  exact key 115 0 0 0 0 _ _ _ _ (by decide) (by decide) (by decide) rfl rfl hP hD hS (lv_sub hl [0, 1, 2] rfl)
def zo_n_BowWalk : List Cond := [.code yX8_init cX8_init 2 none, .methodLink RX8 1 objectInit, .instanceMethod objectInit, .code objectInit ⟨#[0xb1]⟩ 1 none, .arrayClass .byte, .fieldLink RX8 9 "BowWalk" "tape" "[B", .classLink RX8 13 RX4, .instantiable RX4 11, .initialized RX4, .methodLink RX8 15 yX4_init, .instanceMethod yX4_init, .fieldLink RX8 16 "BowWalk" "reader" "LBowWalk$Reader;", .classLink RX8 20 RX0, .instantiable RX0 15, .initialized RX0, .instanceMethod yX0_init, .fieldLink RX8 23 "BowWalk" "bow" "LBowWalk$Bow;", .classLink RX8 27 RX7, .instantiable RX7 6, .initialized RX7, .instanceMethod yX7_init, .fieldLink RX8 30 "BowWalk" "trial" "LBowWalk$Trial;", .classLink RX8 34 RX2, .instantiable RX2 8, .initialized RX2, .instanceMethod yX2_init, .fieldLink RX8 37 "BowWalk" "films" "LBowWalk$Films;", .classLink RX8 41 RX1, .fieldLink RX8 43 "BowWalk" "boxes" "[LBowWalk$Box;", .arrayClass .int, .fieldLink RX8 49 "BowWalk" "lengths" "[I", .fieldLink RX8 53 "BowWalk" "held" "[I", .fieldLink RX8 56 "BowWalk" "opened" "[I", .classLink RX8 47 RX5, .instantiable RX5 15, .initialized RX5, .instanceMethod yX5_init, .fieldLink RX8 60 "BowWalk" "shop" "LBowWalk$Shop;", .fieldLink RX8 64 "BowWalk" "tapeLength" "I", .fieldLink RX8 68 "BowWalk" "tied" "Z", .fieldLink RX8 72 "BowWalk" "w" "I", .fieldLink RX8 75 "BowWalk" "time" "I", .instantiable RX1 3, .initialized RX1, .instanceMethod yX1_init]
def zw_n_BowWalk : List Cond := zo_n_BowWalk ++ (zw_n_Reader ++ (zw_n_Bow ++ (zw_n_Trial ++ (zw_n_Films ++ (zw_n_Shop ++ (zw_n_Box ++ (wsX80 ++ (wsX40 ++ (wsX00 ++ (wsX70 ++ (wsX20 ++ (wsX50 ++ (wsX10 ++ [])))))))))))))
theorem gz_n_BowWalk : zw_n_BowWalk.all goodWord = true := p1_ga (by decide +kernel) (p1_ga gz_n_Reader (p1_ga gz_n_Bow (p1_ga gz_n_Trial (p1_ga gz_n_Films (p1_ga gz_n_Shop (p1_ga gz_n_Box (p1_ga gk_X8 (p1_ga gk_X4 (p1_ga gk_X0 (p1_ga gk_X7 (p1_ga gk_X2 (p1_ga gk_X5 (p1_ga gk_X1 p1_g0)))))))))))))
theorem iz_n_BowWalk : ∀ w ∈ zw_n_BowWalk, w ∈ lw_tbl := p1_ia (p1_all [124, 125, 126, 127, 171, 499, 128, 129, 105, 130, 131, 500, 344, 345, 112, 347, 501, 406, 407, 113, 409, 502, 437, 438, 114, 440, 503, 475, 504, 173, 505, 506, 507, 477, 135, 106, 137, 508, 509, 510, 511, 512, 479, 115, 481] (by decide +kernel)) (p1_ia iz_n_Reader (p1_ia iz_n_Bow (p1_ia iz_n_Trial (p1_ia iz_n_Films (p1_ia iz_n_Shop (p1_ia iz_n_Box (p1_ia ik_X8 (p1_ia ik_X4 (p1_ia ik_X0 (p1_ia ik_X7 (p1_ia ik_X2 (p1_ia ik_X5 (p1_ia ik_X1 p1_i0)))))))))))))
set_option maxHeartbeats 4000000 in
set_option maxRecDepth 100000 in
theorem n_BowWalk (l : Launch) (dC : Nat → ClassId) (dI : Nat → Nat → Nat) (sz : Nat) (h0 : Nat) (fs : List Value) (l_fs : fs.length = 14) : Met l yX8_init zw_n_BowWalk ({ frames := 5, cells := 101, slots := 3802, locals := 108 }) (va_Pc [.ref h0] (fun U => U.heap.size = sz ∧ va_P (dC, dI) vwCl [(h0, .inr (7, fs))] U.heap ∧ va_K (dC, dI) vwCl [] U ∧ va_D (fun _ => True) [(h0, .inr (7, fs))] ∧ p1_ex (va_A [(h0, .inr (7, fs))] sz) U U.heap)) (va_Qv (fun (_ : Unit) => True) (fun _ t => ∃ (xo : List Value) (tp : Nat) (rd : Nat) (fl : Nat) (bx : Nat) (csh : Nat) (cT : ClassId) (ro : List Value) (dsh : Nat) (dfo : List Value) (dsc : Nat) (dlw : Nat) (don : Nat) (dot : Nat) (dcS : ClassId) (dlf : List Value) (dlc : Nat) (dlb : Nat) (dcc1 : ClassId) (dcb1 : ClassId) (dcN : ClassId) (dnf : Nat → Int32) (dcO : ClassId) (flo : List Value) (cfo : List Value) (csc : Nat) (clw : Nat) (ccS : ClassId) (clf : List Value) (cX : ClassId) (b0 : Nat) (bo0 : List Value) (b1 : Nat) (bo1 : List Value) (b2 : Nat) (bo2 : List Value), xo.length = 14 ∧ xo[0]? = some (.ref tp) ∧ xo[1]? = some (.ref rd) ∧ xo[4]? = some (.ref fl) ∧ xo[5]? = some (.ref bx) ∧ xo[9]? = some (.ref csh) ∧ xo[10]? = some (.int 0) ∧ xo[11]? = some (.int 0) ∧ xo[12]? = some (.int 1) ∧ xo[13]? = some (.int 0) ∧ ro.length = 11 ∧ ro[8]? = some (.ref dsh) ∧ ro[9]? = some (.int 0) ∧ ro[10]? = some (.int (-1)) ∧ dfo.length = 15 ∧ dfo[0]? = some (.ref dsc) ∧ dfo[12]? = some (.ref dlw) ∧ dfo[13]? = some (.ref don) ∧ dfo[14]? = some (.ref dot) ∧ dlf.length = 6 ∧ dlf[0]? = some (.ref dlc) ∧ dlf[1]? = some (.ref dlb) ∧ dlf[3]? = some (.int 0) ∧ dlf[4]? = some (.int 0) ∧ dlf[5]? = some (.int 0) ∧ flo.length = 8 ∧ flo[7]? = some (.int 0) ∧ cfo[0]? = some (.ref csc) ∧ cfo[12]? = some (.ref clw) ∧ clf[5]? = some (.int 0) ∧ bo0.length = 3 ∧ bo0[2]? = some (.int 0) ∧ bo1.length = 3 ∧ bo1[2]? = some (.int 0) ∧ bo2.length = 3 ∧ bo2[2]? = some (.int 0) ∧ va_P (dC, dI) vwCl [(h0, .inr (7, xo)), (tp, .inl (cT, 1600, .inl (fun _ => 0))), (rd, .inr (4, ro)), (dsh, .inr (5, dfo)), (dsc, .inl (dcS, 5, .inl (fun _ => 0))), (dlw, .inr (3, dlf)), (dlc, .inl (dcc1, 600, .inl (fun _ => 0))), (dlb, .inl (dcb1, 6, .inl (fun _ => 0))), (don, .inl (dcN, 2, .inl dnf)), (dot, .inl (dcO, 2, .inl (fun _ => 0))), (fl, .inr (2, flo)), (csh, .inr (5, cfo)), (csc, .inl (ccS, 5, .inl (fun _ => 0))), (clw, .inr (3, clf)), (bx, .inl (cX, 3, .inr (.inr (.inr (.inr (va_up (va_up (va_up (fun _ => none) (0 : Int32).toNatClampNeg (some b0)) (1 : Int32).toNatClampNeg (some b1)) (2 : Int32).toNatClampNeg (some b2))))))), (b0, .inr (1, bo0)), (b1, .inr (1, bo1)), (b2, .inr (1, bo2))] t.heap ∧ va_K (dC, dI) vwCl [(cT, .byte), (dcS, .int), (dcc1, .int), (dcb1, .int), (dcN, .int), (dcO, .boolean), (ccS, .int), (cX, .object RX1)] t ∧ va_D (va_A [(h0, .inr (7, fs))] sz) [(h0, .inr (7, xo)), (tp, .inl (cT, 1600, .inl (fun _ => 0))), (rd, .inr (4, ro)), (dsh, .inr (5, dfo)), (dsc, .inl (dcS, 5, .inl (fun _ => 0))), (dlw, .inr (3, dlf)), (dlc, .inl (dcc1, 600, .inl (fun _ => 0))), (dlb, .inl (dcb1, 6, .inl (fun _ => 0))), (don, .inl (dcN, 2, .inl dnf)), (dot, .inl (dcO, 2, .inl (fun _ => 0))), (fl, .inr (2, flo)), (csh, .inr (5, cfo)), (csc, .inl (ccS, 5, .inl (fun _ => 0))), (clw, .inr (3, clf)), (bx, .inl (cX, 3, .inr (.inr (.inr (.inr (va_up (va_up (va_up (fun _ => none) (0 : Int32).toNatClampNeg (some b0)) (1 : Int32).toNatClampNeg (some b1)) (2 : Int32).toNatClampNeg (some b2))))))), (b0, .inr (1, bo0)), (b1, .inr (1, bo1)), (b2, .inr (1, bo2))]) (va_A [(h0, .inr (7, fs))] sz)) 101 3802 (va_A [(h0, .inr (7, fs))] sz) := by
  refine Met.ofW (cc := cX8_init) (maxL := 2) (ret := none) (by decide) rfl ?_
  intro p e s m args below meth c s₁ B hml hv
  obtain ⟨rfl, hsz, hP, hK, hD0, hE⟩ := hv
  have hx := B.exec
  have hb := B.bytes
  have hr := B.returns
  have hts := atoms_spec (ws := zw_n_BowWalk) B.pre
  have hown : s.vm.findClass RX8 = some m.cls := findClass_of_methodNamed B.named
  have hlocks := B.notSynchronized
  have hin : meth.name = "<init>" := (name_of_methodNamed B.named B.method).1
  subst hsz
  have hD := hD0.self (sz := s.heap.size)
  generalize hAe : va_A [(h0, .inr (7, fs))] s.heap.size = A at hD hE ⊢
  have hA : ∀ q : Nat, s.heap.size ≤ q → A q := fun q h => by rw [← hAe]; exact Or.inr h
  have hS : va_S A s.heap s.heap [] := va_S.rf
  have hP : va_P (dC, dI) vwCl [(h0, .inr (7, fs))] s.heap := hP
  obtain ⟨sK, sV, ru, pu, sf, rf, pf, ⟨n1, n2, n3, n4, n5, n6, n7, n8, n9⟩, ⟨o1, o2, o3⟩, r1, ⟨t1, t2, t3, t4⟩, z1, z2, ⟨y1, y2⟩, ⟨w1, w2⟩⟩ := id hE
  have m_0 : (.methodLink RX8 1 objectInit : Cond) ∈ zw_n_BowWalk := List.mem_append_left _ (List.mem_of_getElem? (i := 1) rfl)
  have k_0 := hts _ m_0
  have m_1 : (.instanceMethod objectInit : Cond) ∈ zw_n_BowWalk := List.mem_append_left _ (List.mem_of_getElem? (i := 2) rfl)
  have k_1 := hts _ m_1
  have m_2 : (.code objectInit ⟨#[0xb1]⟩ 1 none : Cond) ∈ zw_n_BowWalk := List.mem_append_left _ (List.mem_of_getElem? (i := 3) rfl)
  have k_2 := hts _ m_2
  have m_3 : (.arrayClass .byte : Cond) ∈ zw_n_BowWalk := List.mem_append_left _ (List.mem_of_getElem? (i := 4) rfl)
  have k_3 := hts _ m_3
  have m_4 : (.fieldLink RX8 9 "BowWalk" "tape" "[B" : Cond) ∈ zw_n_BowWalk := List.mem_append_left _ (List.mem_of_getElem? (i := 5) rfl)
  have k_4 := hts _ m_4
  have m_5 : (.classLink RX8 13 RX4 : Cond) ∈ zw_n_BowWalk := List.mem_append_left _ (List.mem_of_getElem? (i := 6) rfl)
  have k_5 := hts _ m_5
  have m_6 : (.instantiable RX4 11 : Cond) ∈ zw_n_BowWalk := List.mem_append_left _ (List.mem_of_getElem? (i := 7) rfl)
  have k_6 := hts _ m_6
  have m_7 : (.initialized RX4 : Cond) ∈ zw_n_BowWalk := List.mem_append_left _ (List.mem_of_getElem? (i := 8) rfl)
  have k_7 := hts _ m_7
  have m_8 : (.methodLink RX8 15 yX4_init : Cond) ∈ zw_n_BowWalk := List.mem_append_left _ (List.mem_of_getElem? (i := 9) rfl)
  have k_8 := hts _ m_8
  have m_9 : (.instanceMethod yX4_init : Cond) ∈ zw_n_BowWalk := List.mem_append_left _ (List.mem_of_getElem? (i := 10) rfl)
  have k_9 := hts _ m_9
  have m_10 : (.fieldLink RX8 16 "BowWalk" "reader" "LBowWalk$Reader;" : Cond) ∈ zw_n_BowWalk := List.mem_append_left _ (List.mem_of_getElem? (i := 11) rfl)
  have k_10 := hts _ m_10
  have m_11 : (.classLink RX8 20 RX0 : Cond) ∈ zw_n_BowWalk := List.mem_append_left _ (List.mem_of_getElem? (i := 12) rfl)
  have k_11 := hts _ m_11
  have m_12 : (.instantiable RX0 15 : Cond) ∈ zw_n_BowWalk := List.mem_append_left _ (List.mem_of_getElem? (i := 13) rfl)
  have k_12 := hts _ m_12
  have m_13 : (.initialized RX0 : Cond) ∈ zw_n_BowWalk := List.mem_append_left _ (List.mem_of_getElem? (i := 14) rfl)
  have k_13 := hts _ m_13
  have m_14 : (.instanceMethod yX0_init : Cond) ∈ zw_n_BowWalk := List.mem_append_left _ (List.mem_of_getElem? (i := 15) rfl)
  have k_14 := hts _ m_14
  have m_15 : (.fieldLink RX8 23 "BowWalk" "bow" "LBowWalk$Bow;" : Cond) ∈ zw_n_BowWalk := List.mem_append_left _ (List.mem_of_getElem? (i := 16) rfl)
  have k_15 := hts _ m_15
  have m_16 : (.classLink RX8 27 RX7 : Cond) ∈ zw_n_BowWalk := List.mem_append_left _ (List.mem_of_getElem? (i := 17) rfl)
  have k_16 := hts _ m_16
  have m_17 : (.instantiable RX7 6 : Cond) ∈ zw_n_BowWalk := List.mem_append_left _ (List.mem_of_getElem? (i := 18) rfl)
  have k_17 := hts _ m_17
  have m_18 : (.initialized RX7 : Cond) ∈ zw_n_BowWalk := List.mem_append_left _ (List.mem_of_getElem? (i := 19) rfl)
  have k_18 := hts _ m_18
  have m_19 : (.instanceMethod yX7_init : Cond) ∈ zw_n_BowWalk := List.mem_append_left _ (List.mem_of_getElem? (i := 20) rfl)
  have k_19 := hts _ m_19
  have m_20 : (.fieldLink RX8 30 "BowWalk" "trial" "LBowWalk$Trial;" : Cond) ∈ zw_n_BowWalk := List.mem_append_left _ (List.mem_of_getElem? (i := 21) rfl)
  have k_20 := hts _ m_20
  have m_21 : (.classLink RX8 34 RX2 : Cond) ∈ zw_n_BowWalk := List.mem_append_left _ (List.mem_of_getElem? (i := 22) rfl)
  have k_21 := hts _ m_21
  have m_22 : (.instantiable RX2 8 : Cond) ∈ zw_n_BowWalk := List.mem_append_left _ (List.mem_of_getElem? (i := 23) rfl)
  have k_22 := hts _ m_22
  have m_23 : (.initialized RX2 : Cond) ∈ zw_n_BowWalk := List.mem_append_left _ (List.mem_of_getElem? (i := 24) rfl)
  have k_23 := hts _ m_23
  have m_24 : (.instanceMethod yX2_init : Cond) ∈ zw_n_BowWalk := List.mem_append_left _ (List.mem_of_getElem? (i := 25) rfl)
  have k_24 := hts _ m_24
  have m_25 : (.fieldLink RX8 37 "BowWalk" "films" "LBowWalk$Films;" : Cond) ∈ zw_n_BowWalk := List.mem_append_left _ (List.mem_of_getElem? (i := 26) rfl)
  have k_25 := hts _ m_25
  have m_26 : (.classLink RX8 41 RX1 : Cond) ∈ zw_n_BowWalk := List.mem_append_left _ (List.mem_of_getElem? (i := 27) rfl)
  have k_26 := hts _ m_26
  have m_27 : (.fieldLink RX8 43 "BowWalk" "boxes" "[LBowWalk$Box;" : Cond) ∈ zw_n_BowWalk := List.mem_append_left _ (List.mem_of_getElem? (i := 28) rfl)
  have k_27 := hts _ m_27
  have m_28 : (.arrayClass .int : Cond) ∈ zw_n_BowWalk := List.mem_append_left _ (List.mem_of_getElem? (i := 29) rfl)
  have k_28 := hts _ m_28
  have m_29 : (.fieldLink RX8 49 "BowWalk" "lengths" "[I" : Cond) ∈ zw_n_BowWalk := List.mem_append_left _ (List.mem_of_getElem? (i := 30) rfl)
  have k_29 := hts _ m_29
  have m_30 : (.fieldLink RX8 53 "BowWalk" "held" "[I" : Cond) ∈ zw_n_BowWalk := List.mem_append_left _ (List.mem_of_getElem? (i := 31) rfl)
  have k_30 := hts _ m_30
  have m_31 : (.fieldLink RX8 56 "BowWalk" "opened" "[I" : Cond) ∈ zw_n_BowWalk := List.mem_append_left _ (List.mem_of_getElem? (i := 32) rfl)
  have k_31 := hts _ m_31
  have m_32 : (.classLink RX8 47 RX5 : Cond) ∈ zw_n_BowWalk := List.mem_append_left _ (List.mem_of_getElem? (i := 33) rfl)
  have k_32 := hts _ m_32
  have m_33 : (.instantiable RX5 15 : Cond) ∈ zw_n_BowWalk := List.mem_append_left _ (List.mem_of_getElem? (i := 34) rfl)
  have k_33 := hts _ m_33
  have m_34 : (.initialized RX5 : Cond) ∈ zw_n_BowWalk := List.mem_append_left _ (List.mem_of_getElem? (i := 35) rfl)
  have k_34 := hts _ m_34
  have m_35 : (.instanceMethod yX5_init : Cond) ∈ zw_n_BowWalk := List.mem_append_left _ (List.mem_of_getElem? (i := 36) rfl)
  have k_35 := hts _ m_35
  have m_36 : (.fieldLink RX8 60 "BowWalk" "shop" "LBowWalk$Shop;" : Cond) ∈ zw_n_BowWalk := List.mem_append_left _ (List.mem_of_getElem? (i := 37) rfl)
  have k_36 := hts _ m_36
  have m_37 : (.fieldLink RX8 64 "BowWalk" "tapeLength" "I" : Cond) ∈ zw_n_BowWalk := List.mem_append_left _ (List.mem_of_getElem? (i := 38) rfl)
  have k_37 := hts _ m_37
  have m_38 : (.fieldLink RX8 68 "BowWalk" "tied" "Z" : Cond) ∈ zw_n_BowWalk := List.mem_append_left _ (List.mem_of_getElem? (i := 39) rfl)
  have k_38 := hts _ m_38
  have m_39 : (.fieldLink RX8 72 "BowWalk" "w" "I" : Cond) ∈ zw_n_BowWalk := List.mem_append_left _ (List.mem_of_getElem? (i := 40) rfl)
  have k_39 := hts _ m_39
  have m_40 : (.fieldLink RX8 75 "BowWalk" "time" "I" : Cond) ∈ zw_n_BowWalk := List.mem_append_left _ (List.mem_of_getElem? (i := 41) rfl)
  have k_40 := hts _ m_40
  have m_41 : (.instantiable RX1 3 : Cond) ∈ zw_n_BowWalk := List.mem_append_left _ (List.mem_of_getElem? (i := 42) rfl)
  have k_41 := hts _ m_41
  have m_42 : (.initialized RX1 : Cond) ∈ zw_n_BowWalk := List.mem_append_left _ (List.mem_of_getElem? (i := 43) rfl)
  have k_42 := hts _ m_42
  have m_43 : (.instanceMethod yX1_init : Cond) ∈ zw_n_BowWalk := List.mem_append_left _ (List.mem_of_getElem? (i := 44) rfl)
  have k_43 := hts _ m_43
  have g_n_Reader : ∀ w ∈ zw_n_Reader, w ∈ zw_n_BowWalk := fun w h => List.mem_append_right _ (List.mem_append_left _ h)
  have g_n_Bow : ∀ w ∈ zw_n_Bow, w ∈ zw_n_BowWalk := fun w h => List.mem_append_right _ (List.mem_append_right _ (List.mem_append_left _ h))
  have g_n_Trial : ∀ w ∈ zw_n_Trial, w ∈ zw_n_BowWalk := fun w h => List.mem_append_right _ (List.mem_append_right _ (List.mem_append_right _ (List.mem_append_left _ h)))
  have g_n_Films : ∀ w ∈ zw_n_Films, w ∈ zw_n_BowWalk := fun w h => List.mem_append_right _ (List.mem_append_right _ (List.mem_append_right _ (List.mem_append_right _ (List.mem_append_left _ h))))
  have g_n_Shop : ∀ w ∈ zw_n_Shop, w ∈ zw_n_BowWalk := fun w h => List.mem_append_right _ (List.mem_append_right _ (List.mem_append_right _ (List.mem_append_right _ (List.mem_append_right _ (List.mem_append_left _ h)))))
  have g_n_Box : ∀ w ∈ zw_n_Box, w ∈ zw_n_BowWalk := fun w h => List.mem_append_right _ (List.mem_append_right _ (List.mem_append_right _ (List.mem_append_right _ (List.mem_append_right _ (List.mem_append_right _ (List.mem_append_left _ h))))))
  have i_X8 : ∀ w ∈ u_ws RX8 TX8 14, w ∈ zw_n_BowWalk := fun w h => List.mem_append_right _ (List.mem_append_right _ (List.mem_append_right _ (List.mem_append_right _ (List.mem_append_right _ (List.mem_append_right _ (List.mem_append_right _ (List.mem_append_left _ h)))))))
  have i_X4 : ∀ w ∈ u_ws RX4 TX4 11, w ∈ zw_n_BowWalk := fun w h => List.mem_append_right _ (List.mem_append_right _ (List.mem_append_right _ (List.mem_append_right _ (List.mem_append_right _ (List.mem_append_right _ (List.mem_append_right _ (List.mem_append_right _ (List.mem_append_left _ h))))))))
  have i_X0 : ∀ w ∈ u_ws RX0 TX0 15, w ∈ zw_n_BowWalk := fun w h => List.mem_append_right _ (List.mem_append_right _ (List.mem_append_right _ (List.mem_append_right _ (List.mem_append_right _ (List.mem_append_right _ (List.mem_append_right _ (List.mem_append_right _ (List.mem_append_right _ (List.mem_append_left _ h)))))))))
  have i_X7 : ∀ w ∈ u_ws RX7 TX7 6, w ∈ zw_n_BowWalk := fun w h => List.mem_append_right _ (List.mem_append_right _ (List.mem_append_right _ (List.mem_append_right _ (List.mem_append_right _ (List.mem_append_right _ (List.mem_append_right _ (List.mem_append_right _ (List.mem_append_right _ (List.mem_append_right _ (List.mem_append_left _ h))))))))))
  have i_X2 : ∀ w ∈ u_ws RX2 TX2 8, w ∈ zw_n_BowWalk := fun w h => List.mem_append_right _ (List.mem_append_right _ (List.mem_append_right _ (List.mem_append_right _ (List.mem_append_right _ (List.mem_append_right _ (List.mem_append_right _ (List.mem_append_right _ (List.mem_append_right _ (List.mem_append_right _ (List.mem_append_right _ (List.mem_append_left _ h)))))))))))
  have i_X5 : ∀ w ∈ u_ws RX5 TX5 15, w ∈ zw_n_BowWalk := fun w h => List.mem_append_right _ (List.mem_append_right _ (List.mem_append_right _ (List.mem_append_right _ (List.mem_append_right _ (List.mem_append_right _ (List.mem_append_right _ (List.mem_append_right _ (List.mem_append_right _ (List.mem_append_right _ (List.mem_append_right _ (List.mem_append_right _ (List.mem_append_left _ h))))))))))))
  have i_X1 : ∀ w ∈ u_ws RX1 TX1 3, w ∈ zw_n_BowWalk := fun w h => List.mem_append_right _ (List.mem_append_right _ (List.mem_append_right _ (List.mem_append_right _ (List.mem_append_right _ (List.mem_append_right _ (List.mem_append_right _ (List.mem_append_right _ (List.mem_append_right _ (List.mem_append_right _ (List.mem_append_right _ (List.mem_append_right _ (List.mem_append_right _ (List.mem_append_left _ h)))))))))))))
  have hl := lv_entry ([.ref h0]) (n := 2) (Nat.le_of_ble_eq_true rfl)
  rw [lg_entry_eq]
  generalize (lg_sl ([.ref h0]) ++ List.replicate (2 - (lg_sl ([.ref h0])).length) Slot.unset).toArray = ls at hl ⊢
  have hl : lv_has ls 2 [(0, .ref h0)] := hl
  refine lv_aload_n hx hb dX8_init_0 rfl (lv_at hl 0 rfl) ?_
  refine W.objInit hx hb hown k_0 k_1 k_2 rfl (by rw [hml]; exact hl.1) rfl dX8_init_1 (Nat.le_of_ble_eq_true rfl) (Nat.le_of_ble_eq_true rfl) ?_
  refine W.eq (g2 := F0 m 4 ls []) rfl ?_
  refine lv_aload_n hx hb dX8_init_4 rfl (lv_at hl 0 rfl) ?_
  refine lv_sipush (v := 1600) hx hb dX8_init_5 (by decide) ?_
  refine va_newa (atype := .byte) (ty := .byte) (N' := 1600) (a0 := (1600, .inl (fun _ => 0))) hx hb k_3 rfl hK hP hD hS hA (fun _ => rfl) (by decide) rfl (by decide) (by decide) (by decide) dX8_init_8 (fun q_1 cA_2 H hK hP hD hS => ?_)
  have hP : va_P (dC, dI) vwCl [(h0, .inr (7, fs)), (q_1, .inl (cA_2, 1600, .inl (fun _ => 0)))] H := hP
  have hD : va_D A [(h0, .inr (7, fs)), (q_1, .inl (cA_2, 1600, .inl (fun _ => 0)))] := hD
  have hK : va_K (dC, dI) vwCl [(cA_2, .byte)] s := hK
  refine W.widen (k := 1) (n := 1600) (by decide) (by decide) ?_
  refine va_putF (D := (dC, dI)) (ci := 7) (v := .ref q_1) (ty := .array .byte) (C := RX8) (T := TX8) (N := 14) hx hb hts i_X8 tyX8 tyX8_ok nmX8 hown hK hP hD hS 0 rfl rfl 0 (by decide) k_4 (fun _ h9 => h9) rfl hin rfl (by decide +kernel) rfl rfl (by rw [l_fs]; decide) dX8_init_10 (fun H locs hP hD hS => ?_)
  have hP : va_P (dC, dI) vwCl [(h0, .inr (7, (fs.set 0 (.ref q_1)))), (q_1, .inl (cA_2, 1600, .inl (fun _ => 0)))] H := hP
  have hD : va_D A [(h0, .inr (7, (fs.set 0 (.ref q_1)))), (q_1, .inl (cA_2, 1600, .inl (fun _ => 0)))] := hD
  generalize efs_3 : (fs.set 0 (.ref q_1)) = fs_3 at hP hD
  have lfs_3 : fs_3.length = 14 := by rw [← efs_3, List.length_set]; exact l_fs
  have ffs_3_0 : fs_3[0]? = some (.ref q_1) := by rw [← efs_3]; exact p1_sa l_fs (by decide)
  refine lv_aload_n hx hb dX8_init_13 rfl (lv_at hl 0 rfl) ?_
  refine va_new (ci := 4) (fs := [.null, .null, .int 0, .int 0, .int 0, .int 0, .int 0, .long 0, .null, .int 0, .int 0]) (C := RX4) (T := TX4) (N := 11) hx hb hts i_X4 tyX4 tyX4_ok hown k_5 k_6 k_7 hK hP hD hS hA rfl (by decide) (by decide) (by decide) dX8_init_14 (fun q_4 H hP hD hS => ?_)
  have hP : va_P (dC, dI) vwCl [(h0, .inr (7, fs_3)), (q_1, .inl (cA_2, 1600, .inl (fun _ => 0))), (q_4, .inr (4, [.null, .null, .int 0, .int 0, .int 0, .int 0, .int 0, .long 0, .null, .int 0, .int 0]))] H := hP
  have hD : va_D A [(h0, .inr (7, fs_3)), (q_1, .inl (cA_2, 1600, .inl (fun _ => 0))), (q_4, .inr (4, [.null, .null, .int 0, .int 0, .int 0, .int 0, .int 0, .long 0, .null, .int 0, .int 0]))] := hD
  refine W.widen (k := 2) (n := 1611) (by decide) (by decide) ?_
  refine lv_dup hx hb dX8_init_17 rfl ?_
  have hPc := hP.sub (ws' := [(q_4, .inr (4, [.null, .null, .int 0, .int 0, .int 0, .int 0, .int 0, .long 0, .null, .int 0, .int 0]))]) [2] rfl
  have hDc := hD.sub (ws' := [(q_4, .inr (4, [.null, .null, .int 0, .int 0, .int 0, .int 0, .int 0, .long 0, .null, .int 0, .int 0]))]) [2] (by decide) rfl
  have hKc := hK.sub (tys' := []) [] rfl
  have hFc := va_free (wc := [(q_4, .inr (4, [.null, .null, .int 0, .int 0, .int 0, .int 0, .int 0, .long 0, .null, .int 0, .int 0]))]) hD hS hA [2] rfl
  refine va_callv (va_runI (As := []) (rest := [.ref q_4, .ref h0]) ⟨hx, hb, hml, hown, hts⟩ (n_Reader l dC dI H.size q_4 ([.null, .null, .int 0, .int 0, .int 0, .int 0, .int 0, .long 0, .null, .int 0, .int 0]) ((show [.null, .null, .int 0, .int 0, .int 0, .int 0, .int 0, .long 0, .null, .int 0, .int 0].length = 11 from rfl))) (cwI 0 hts (goodIn_sub g_n_Reader gz_n_Reader) rfl rfl rfl k_7 k_8 k_9 rfl (by decide +kernel) ⟨by decide, by decide⟩) ⟨fun a U g mk q => by obtain ⟨q0, q1, qP, qK, qD, qE⟩ := q; exact ⟨q0, q1, qP, va_K.moved (u := U) (U := U.calling g mk a) (Vm.Alike.refl U.vm) qK, qD, qE⟩, fun U hU hW => ⟨rfl, by rw [hU], by rw [hU]; exact hPc, va_K.moved hW.alike hKc, hDc.weaken (fun _ _ _ _ => trivial), by rw [hU]; exact p1_ex.warm hE hW hS (fun q h => hFc q h)⟩⟩ rfl rfl hl.1 rfl (lv_room (Nat.le_of_ble_eq_true rfl)) dX8_init_18 ⟨by decide, by decide⟩) hS (fun q _ h => hFc q h) hFc (fun u t H1 locs ht hvm hw hB hz1 hk1 hS => ?_)
  obtain ⟨fo_6, dsh_7, dfo_8, dsc_9, dlw_10, don_11, dot_12, dcS_13, dlf_14, dlc_15, dlb_16, dcc1_17, dcb1_18, dcN_19, dnf_20, dcO_21, z_22, z_23, z_24, z_25, z_26, z_27, z_28, z_29, z_30, z_31, z_32, z_33, z_34, z_35, z_36, hP1, hK1, hD1⟩ := hB
  rw [ht] at hP1
  obtain ⟨hP, hD⟩ := va_join (wr := [(h0, .inr (7, fs_3)), (q_1, .inl (cA_2, 1600, .inl (fun _ => 0)))]) (w1 := [(q_4, .inr (4, fo_6)), (dsh_7, .inr (5, dfo_8)), (dsc_9, .inl (dcS_13, 5, .inl (fun _ => 0))), (dlw_10, .inr (3, dlf_14)), (dlc_15, .inl (dcc1_17, 600, .inl (fun _ => 0))), (dlb_16, .inl (dcb1_18, 6, .inl (fun _ => 0))), (don_11, .inl (dcN_19, 2, .inl dnf_20)), (dot_12, .inl (dcO_21, 2, .inl (fun _ => 0)))]) hP hD [2] [0, 1] rfl rfl (by decide) (by decide) hk1 hFc hP1 hD1
  have hK := hK.app (va_K.moved hvm.symm hK1)
  generalize H1 = H at hP hS ⊢
  have hP : va_P (dC, dI) vwCl [(h0, .inr (7, fs_3)), (q_1, .inl (cA_2, 1600, .inl (fun _ => 0))), (q_4, .inr (4, fo_6)), (dsh_7, .inr (5, dfo_8)), (dsc_9, .inl (dcS_13, 5, .inl (fun _ => 0))), (dlw_10, .inr (3, dlf_14)), (dlc_15, .inl (dcc1_17, 600, .inl (fun _ => 0))), (dlb_16, .inl (dcb1_18, 6, .inl (fun _ => 0))), (don_11, .inl (dcN_19, 2, .inl dnf_20)), (dot_12, .inl (dcO_21, 2, .inl (fun _ => 0)))] H := hP
  have hD : va_D A [(h0, .inr (7, fs_3)), (q_1, .inl (cA_2, 1600, .inl (fun _ => 0))), (q_4, .inr (4, fo_6)), (dsh_7, .inr (5, dfo_8)), (dsc_9, .inl (dcS_13, 5, .inl (fun _ => 0))), (dlw_10, .inr (3, dlf_14)), (dlc_15, .inl (dcc1_17, 600, .inl (fun _ => 0))), (dlb_16, .inl (dcb1_18, 6, .inl (fun _ => 0))), (don_11, .inl (dcN_19, 2, .inl dnf_20)), (dot_12, .inl (dcO_21, 2, .inl (fun _ => 0)))] := hD
  have hK : va_K (dC, dI) vwCl [(cA_2, .byte), (dcS_13, .int), (dcc1_17, .int), (dcb1_18, .int), (dcN_19, .int), (dcO_21, .boolean)] s := hK
  refine W.widen (k := 36) (n := 2472) (by decide) (by decide) ?_
  try dsimp only at hw
  refine va_putF (D := (dC, dI)) (ci := 7) (v := .ref q_4) (ty := .object "BowWalk$Reader") (C := RX8) (T := TX8) (N := 14) hx hb hts i_X8 tyX8 tyX8_ok nmX8 hown hK hP hD hS 0 rfl rfl 1 (by decide) k_10 (fun _ h9 => h9) rfl hin rfl (by decide +kernel) rfl rfl (by rw [lfs_3]; decide) dX8_init_21 (fun H locs hP hD hS => ?_)
  have hP : va_P (dC, dI) vwCl [(h0, .inr (7, (fs_3.set 1 (.ref q_4)))), (q_1, .inl (cA_2, 1600, .inl (fun _ => 0))), (q_4, .inr (4, fo_6)), (dsh_7, .inr (5, dfo_8)), (dsc_9, .inl (dcS_13, 5, .inl (fun _ => 0))), (dlw_10, .inr (3, dlf_14)), (dlc_15, .inl (dcc1_17, 600, .inl (fun _ => 0))), (dlb_16, .inl (dcb1_18, 6, .inl (fun _ => 0))), (don_11, .inl (dcN_19, 2, .inl dnf_20)), (dot_12, .inl (dcO_21, 2, .inl (fun _ => 0)))] H := hP
  have hD : va_D A [(h0, .inr (7, (fs_3.set 1 (.ref q_4)))), (q_1, .inl (cA_2, 1600, .inl (fun _ => 0))), (q_4, .inr (4, fo_6)), (dsh_7, .inr (5, dfo_8)), (dsc_9, .inl (dcS_13, 5, .inl (fun _ => 0))), (dlw_10, .inr (3, dlf_14)), (dlc_15, .inl (dcc1_17, 600, .inl (fun _ => 0))), (dlb_16, .inl (dcb1_18, 6, .inl (fun _ => 0))), (don_11, .inl (dcN_19, 2, .inl dnf_20)), (dot_12, .inl (dcO_21, 2, .inl (fun _ => 0)))] := hD
  generalize efs_37 : (fs_3.set 1 (.ref q_4)) = fs_37 at hP hD
  have lfs_37 : fs_37.length = 14 := by rw [← efs_37, List.length_set]; exact lfs_3
  have ffs_37_0 : fs_37[0]? = some (.ref q_1) := by rw [← efs_37]; exact p1_sn (by decide) ffs_3_0
  have ffs_37_1 : fs_37[1]? = some (.ref q_4) := by rw [← efs_37]; exact p1_sa lfs_3 (by decide)
  refine lv_aload_n hx hb dX8_init_24 rfl (lv_at hl 0 rfl) ?_
  refine va_new (ci := 0) (fs := [.null, .null, .int 0, .int 0, .int 0, .int 0, .int 0, .int 0, .int 0, .int 0, .int 0, .int 0, .int 0, .int 0, .int 0]) (C := RX0) (T := TX0) (N := 15) hx hb hts i_X0 tyX0 tyX0_ok hown k_11 k_12 k_13 hK hP hD hS hA rfl (by decide) (by decide) (by decide) dX8_init_25 (fun q_38 H hP hD hS => ?_)
  have hP : va_P (dC, dI) vwCl [(h0, .inr (7, fs_37)), (q_1, .inl (cA_2, 1600, .inl (fun _ => 0))), (q_4, .inr (4, fo_6)), (dsh_7, .inr (5, dfo_8)), (dsc_9, .inl (dcS_13, 5, .inl (fun _ => 0))), (dlw_10, .inr (3, dlf_14)), (dlc_15, .inl (dcc1_17, 600, .inl (fun _ => 0))), (dlb_16, .inl (dcb1_18, 6, .inl (fun _ => 0))), (don_11, .inl (dcN_19, 2, .inl dnf_20)), (dot_12, .inl (dcO_21, 2, .inl (fun _ => 0))), (q_38, .inr (0, [.null, .null, .int 0, .int 0, .int 0, .int 0, .int 0, .int 0, .int 0, .int 0, .int 0, .int 0, .int 0, .int 0, .int 0]))] H := hP
  have hD : va_D A [(h0, .inr (7, fs_37)), (q_1, .inl (cA_2, 1600, .inl (fun _ => 0))), (q_4, .inr (4, fo_6)), (dsh_7, .inr (5, dfo_8)), (dsc_9, .inl (dcS_13, 5, .inl (fun _ => 0))), (dlw_10, .inr (3, dlf_14)), (dlc_15, .inl (dcc1_17, 600, .inl (fun _ => 0))), (dlb_16, .inl (dcb1_18, 6, .inl (fun _ => 0))), (don_11, .inl (dcN_19, 2, .inl dnf_20)), (dot_12, .inl (dcO_21, 2, .inl (fun _ => 0))), (q_38, .inr (0, [.null, .null, .int 0, .int 0, .int 0, .int 0, .int 0, .int 0, .int 0, .int 0, .int 0, .int 0, .int 0, .int 0, .int 0]))] := hD
  refine W.widen (k := 37) (n := 2487) (by decide) (by decide) ?_
  refine lv_dup hx hb dX8_init_28 rfl ?_
  have hPc := hP.sub (ws' := [(q_38, .inr (0, [.null, .null, .int 0, .int 0, .int 0, .int 0, .int 0, .int 0, .int 0, .int 0, .int 0, .int 0, .int 0, .int 0, .int 0]))]) [10] rfl
  have hDc := hD.sub (ws' := [(q_38, .inr (0, [.null, .null, .int 0, .int 0, .int 0, .int 0, .int 0, .int 0, .int 0, .int 0, .int 0, .int 0, .int 0, .int 0, .int 0]))]) [10] (by decide) rfl
  have hKc := hK.sub (tys' := []) [] rfl
  have hFc := va_free (wc := [(q_38, .inr (0, [.null, .null, .int 0, .int 0, .int 0, .int 0, .int 0, .int 0, .int 0, .int 0, .int 0, .int 0, .int 0, .int 0, .int 0]))]) hD hS hA [10] rfl
  refine va_callv (va_runIN (As := []) (rest := [.ref q_38, .ref h0]) ⟨hx, hb, hml, hown, hts⟩ (n_Bow l dC dI H.size q_38 ([.null, .null, .int 0, .int 0, .int 0, .int 0, .int 0, .int 0, .int 0, .int 0, .int 0, .int 0, .int 0, .int 0, .int 0]) ((show [.null, .null, .int 0, .int 0, .int 0, .int 0, .int 0, .int 0, .int 0, .int 0, .int 0, .int 0, .int 0, .int 0, .int 0].length = 15 from rfl))) ⟨va_cnB 0 hts (goodIn_sub g_n_Bow gz_n_Bow) rfl rfl rfl n3 k_13 (by decide +kernel) ⟨by decide, by decide⟩, rfl, k_14⟩ ⟨fun a U g mk q => by obtain ⟨q0, q1, qP, qK, qD⟩ := q; exact ⟨q0, q1, qP, va_K.moved (u := U) (U := U.calling g mk a) (Vm.Alike.refl U.vm) qK, qD⟩, fun U hU hW => ⟨rfl, by rw [hU], by rw [hU]; exact hPc, va_K.moved hW.alike hKc, hDc.weaken (fun _ _ _ _ => trivial)⟩⟩ rfl rfl hl.1 rfl (lv_room (Nat.le_of_ble_eq_true rfl)) dX8_init_29 ⟨by decide, by decide⟩) hS (fun q _ h => hFc q h) hFc (fun u t H1 locs ht hvm hw hB hz1 hk1 hS => ?_)
  obtain ⟨hP1, hK1, hD1⟩ := hB
  rw [ht] at hP1
  obtain ⟨hP, hD⟩ := va_join (wr := [(h0, .inr (7, fs_37)), (q_1, .inl (cA_2, 1600, .inl (fun _ => 0))), (q_4, .inr (4, fo_6)), (dsh_7, .inr (5, dfo_8)), (dsc_9, .inl (dcS_13, 5, .inl (fun _ => 0))), (dlw_10, .inr (3, dlf_14)), (dlc_15, .inl (dcc1_17, 600, .inl (fun _ => 0))), (dlb_16, .inl (dcb1_18, 6, .inl (fun _ => 0))), (don_11, .inl (dcN_19, 2, .inl dnf_20)), (dot_12, .inl (dcO_21, 2, .inl (fun _ => 0)))]) (w1 := []) hP hD [10] [0, 1, 2, 3, 4, 5, 6, 7, 8, 9] rfl rfl (by decide) (by decide) hk1 hFc hP1 hD1
  generalize H1 = H at hP hS ⊢
  have hP : va_P (dC, dI) vwCl [(h0, .inr (7, fs_37)), (q_1, .inl (cA_2, 1600, .inl (fun _ => 0))), (q_4, .inr (4, fo_6)), (dsh_7, .inr (5, dfo_8)), (dsc_9, .inl (dcS_13, 5, .inl (fun _ => 0))), (dlw_10, .inr (3, dlf_14)), (dlc_15, .inl (dcc1_17, 600, .inl (fun _ => 0))), (dlb_16, .inl (dcb1_18, 6, .inl (fun _ => 0))), (don_11, .inl (dcN_19, 2, .inl dnf_20)), (dot_12, .inl (dcO_21, 2, .inl (fun _ => 0)))] H := hP
  have hD : va_D A [(h0, .inr (7, fs_37)), (q_1, .inl (cA_2, 1600, .inl (fun _ => 0))), (q_4, .inr (4, fo_6)), (dsh_7, .inr (5, dfo_8)), (dsc_9, .inl (dcS_13, 5, .inl (fun _ => 0))), (dlw_10, .inr (3, dlf_14)), (dlc_15, .inl (dcc1_17, 600, .inl (fun _ => 0))), (dlb_16, .inl (dcb1_18, 6, .inl (fun _ => 0))), (don_11, .inl (dcN_19, 2, .inl dnf_20)), (dot_12, .inl (dcO_21, 2, .inl (fun _ => 0)))] := hD
  refine W.widen (k := 39) (n := 2501) (by decide) (by decide) ?_
  try dsimp only at hw
  refine va_putF (D := (dC, dI)) (ci := 7) (v := .ref q_38) (ty := .object "BowWalk$Bow") (C := RX8) (T := TX8) (N := 14) hx hb hts i_X8 tyX8 tyX8_ok nmX8 hown hK hP hD hS 0 rfl rfl 2 (by decide) k_15 (fun _ h9 => h9) rfl hin rfl (by decide +kernel) rfl rfl (by rw [lfs_37]; decide) dX8_init_32 (fun H locs hP hD hS => ?_)
  have hP : va_P (dC, dI) vwCl [(h0, .inr (7, (fs_37.set 2 (.ref q_38)))), (q_1, .inl (cA_2, 1600, .inl (fun _ => 0))), (q_4, .inr (4, fo_6)), (dsh_7, .inr (5, dfo_8)), (dsc_9, .inl (dcS_13, 5, .inl (fun _ => 0))), (dlw_10, .inr (3, dlf_14)), (dlc_15, .inl (dcc1_17, 600, .inl (fun _ => 0))), (dlb_16, .inl (dcb1_18, 6, .inl (fun _ => 0))), (don_11, .inl (dcN_19, 2, .inl dnf_20)), (dot_12, .inl (dcO_21, 2, .inl (fun _ => 0)))] H := hP
  have hD : va_D A [(h0, .inr (7, (fs_37.set 2 (.ref q_38)))), (q_1, .inl (cA_2, 1600, .inl (fun _ => 0))), (q_4, .inr (4, fo_6)), (dsh_7, .inr (5, dfo_8)), (dsc_9, .inl (dcS_13, 5, .inl (fun _ => 0))), (dlw_10, .inr (3, dlf_14)), (dlc_15, .inl (dcc1_17, 600, .inl (fun _ => 0))), (dlb_16, .inl (dcb1_18, 6, .inl (fun _ => 0))), (don_11, .inl (dcN_19, 2, .inl dnf_20)), (dot_12, .inl (dcO_21, 2, .inl (fun _ => 0)))] := hD
  generalize efs_40 : (fs_37.set 2 (.ref q_38)) = fs_40 at hP hD
  have lfs_40 : fs_40.length = 14 := by rw [← efs_40, List.length_set]; exact lfs_37
  have ffs_40_0 : fs_40[0]? = some (.ref q_1) := by rw [← efs_40]; exact p1_sn (by decide) ffs_37_0
  have ffs_40_1 : fs_40[1]? = some (.ref q_4) := by rw [← efs_40]; exact p1_sn (by decide) ffs_37_1
  have ffs_40_2 : fs_40[2]? = some (.ref q_38) := by rw [← efs_40]; exact p1_sa lfs_37 (by decide)
  refine lv_aload_n hx hb dX8_init_35 rfl (lv_at hl 0 rfl) ?_
  refine va_new (ci := 6) (fs := [.null, .null, .null, .int 0, .int 0, .int 0]) (C := RX7) (T := TX7) (N := 6) hx hb hts i_X7 tyX7 tyX7_ok hown k_16 k_17 k_18 hK hP hD hS hA rfl (by decide) (by decide) (by decide) dX8_init_36 (fun q_41 H hP hD hS => ?_)
  have hP : va_P (dC, dI) vwCl [(h0, .inr (7, fs_40)), (q_1, .inl (cA_2, 1600, .inl (fun _ => 0))), (q_4, .inr (4, fo_6)), (dsh_7, .inr (5, dfo_8)), (dsc_9, .inl (dcS_13, 5, .inl (fun _ => 0))), (dlw_10, .inr (3, dlf_14)), (dlc_15, .inl (dcc1_17, 600, .inl (fun _ => 0))), (dlb_16, .inl (dcb1_18, 6, .inl (fun _ => 0))), (don_11, .inl (dcN_19, 2, .inl dnf_20)), (dot_12, .inl (dcO_21, 2, .inl (fun _ => 0))), (q_41, .inr (6, [.null, .null, .null, .int 0, .int 0, .int 0]))] H := hP
  have hD : va_D A [(h0, .inr (7, fs_40)), (q_1, .inl (cA_2, 1600, .inl (fun _ => 0))), (q_4, .inr (4, fo_6)), (dsh_7, .inr (5, dfo_8)), (dsc_9, .inl (dcS_13, 5, .inl (fun _ => 0))), (dlw_10, .inr (3, dlf_14)), (dlc_15, .inl (dcc1_17, 600, .inl (fun _ => 0))), (dlb_16, .inl (dcb1_18, 6, .inl (fun _ => 0))), (don_11, .inl (dcN_19, 2, .inl dnf_20)), (dot_12, .inl (dcO_21, 2, .inl (fun _ => 0))), (q_41, .inr (6, [.null, .null, .null, .int 0, .int 0, .int 0]))] := hD
  refine W.widen (k := 40) (n := 2507) (by decide) (by decide) ?_
  refine lv_dup hx hb dX8_init_39 rfl ?_
  have hPc := hP.sub (ws' := [(q_41, .inr (6, [.null, .null, .null, .int 0, .int 0, .int 0]))]) [10] rfl
  have hDc := hD.sub (ws' := [(q_41, .inr (6, [.null, .null, .null, .int 0, .int 0, .int 0]))]) [10] (by decide) rfl
  have hKc := hK.sub (tys' := []) [] rfl
  have hFc := va_free (wc := [(q_41, .inr (6, [.null, .null, .null, .int 0, .int 0, .int 0]))]) hD hS hA [10] rfl
  refine va_callv (va_runIN (As := []) (rest := [.ref q_41, .ref h0]) ⟨hx, hb, hml, hown, hts⟩ (n_Trial l dC dI H.size q_41 ([.null, .null, .null, .int 0, .int 0, .int 0]) ((show [.null, .null, .null, .int 0, .int 0, .int 0].length = 6 from rfl))) ⟨va_cnB 0 hts (goodIn_sub g_n_Trial gz_n_Trial) rfl rfl rfl n4 k_18 (by decide +kernel) ⟨by decide, by decide⟩, rfl, k_19⟩ ⟨fun a U g mk q => by obtain ⟨q0, q1, qP, qK, qD, qE⟩ := q; exact ⟨q0, q1, qP, va_K.moved (u := U) (U := U.calling g mk a) (Vm.Alike.refl U.vm) qK, qD, qE⟩, fun U hU hW => ⟨rfl, by rw [hU], by rw [hU]; exact hPc, va_K.moved hW.alike hKc, hDc.weaken (fun _ _ _ _ => trivial), by rw [hU]; exact p1_ex.warm hE hW hS (fun q h => hFc q h)⟩⟩ rfl rfl hl.1 rfl (lv_room (Nat.le_of_ble_eq_true rfl)) dX8_init_40 ⟨by decide, by decide⟩) hS (fun q _ h => hFc q h) hFc (fun u t H1 locs ht hvm hw hB hz1 hk1 hS => ?_)
  obtain ⟨hP1, hK1, hD1⟩ := hB
  rw [ht] at hP1
  obtain ⟨hP, hD⟩ := va_join (wr := [(h0, .inr (7, fs_40)), (q_1, .inl (cA_2, 1600, .inl (fun _ => 0))), (q_4, .inr (4, fo_6)), (dsh_7, .inr (5, dfo_8)), (dsc_9, .inl (dcS_13, 5, .inl (fun _ => 0))), (dlw_10, .inr (3, dlf_14)), (dlc_15, .inl (dcc1_17, 600, .inl (fun _ => 0))), (dlb_16, .inl (dcb1_18, 6, .inl (fun _ => 0))), (don_11, .inl (dcN_19, 2, .inl dnf_20)), (dot_12, .inl (dcO_21, 2, .inl (fun _ => 0)))]) (w1 := []) hP hD [10] [0, 1, 2, 3, 4, 5, 6, 7, 8, 9] rfl rfl (by decide) (by decide) hk1 hFc hP1 hD1
  generalize H1 = H at hP hS ⊢
  have hP : va_P (dC, dI) vwCl [(h0, .inr (7, fs_40)), (q_1, .inl (cA_2, 1600, .inl (fun _ => 0))), (q_4, .inr (4, fo_6)), (dsh_7, .inr (5, dfo_8)), (dsc_9, .inl (dcS_13, 5, .inl (fun _ => 0))), (dlw_10, .inr (3, dlf_14)), (dlc_15, .inl (dcc1_17, 600, .inl (fun _ => 0))), (dlb_16, .inl (dcb1_18, 6, .inl (fun _ => 0))), (don_11, .inl (dcN_19, 2, .inl dnf_20)), (dot_12, .inl (dcO_21, 2, .inl (fun _ => 0)))] H := hP
  have hD : va_D A [(h0, .inr (7, fs_40)), (q_1, .inl (cA_2, 1600, .inl (fun _ => 0))), (q_4, .inr (4, fo_6)), (dsh_7, .inr (5, dfo_8)), (dsc_9, .inl (dcS_13, 5, .inl (fun _ => 0))), (dlw_10, .inr (3, dlf_14)), (dlc_15, .inl (dcc1_17, 600, .inl (fun _ => 0))), (dlb_16, .inl (dcb1_18, 6, .inl (fun _ => 0))), (don_11, .inl (dcN_19, 2, .inl dnf_20)), (dot_12, .inl (dcO_21, 2, .inl (fun _ => 0)))] := hD
  refine W.widen (k := 45) (n := 2552) (by decide) (by decide) ?_
  try dsimp only at hw
  refine va_putF (D := (dC, dI)) (ci := 7) (v := .ref q_41) (ty := .object "BowWalk$Trial") (C := RX8) (T := TX8) (N := 14) hx hb hts i_X8 tyX8 tyX8_ok nmX8 hown hK hP hD hS 0 rfl rfl 3 (by decide) k_20 (fun _ h9 => h9) rfl hin rfl (by decide +kernel) rfl rfl (by rw [lfs_40]; decide) dX8_init_43 (fun H locs hP hD hS => ?_)
  have hP : va_P (dC, dI) vwCl [(h0, .inr (7, (fs_40.set 3 (.ref q_41)))), (q_1, .inl (cA_2, 1600, .inl (fun _ => 0))), (q_4, .inr (4, fo_6)), (dsh_7, .inr (5, dfo_8)), (dsc_9, .inl (dcS_13, 5, .inl (fun _ => 0))), (dlw_10, .inr (3, dlf_14)), (dlc_15, .inl (dcc1_17, 600, .inl (fun _ => 0))), (dlb_16, .inl (dcb1_18, 6, .inl (fun _ => 0))), (don_11, .inl (dcN_19, 2, .inl dnf_20)), (dot_12, .inl (dcO_21, 2, .inl (fun _ => 0)))] H := hP
  have hD : va_D A [(h0, .inr (7, (fs_40.set 3 (.ref q_41)))), (q_1, .inl (cA_2, 1600, .inl (fun _ => 0))), (q_4, .inr (4, fo_6)), (dsh_7, .inr (5, dfo_8)), (dsc_9, .inl (dcS_13, 5, .inl (fun _ => 0))), (dlw_10, .inr (3, dlf_14)), (dlc_15, .inl (dcc1_17, 600, .inl (fun _ => 0))), (dlb_16, .inl (dcb1_18, 6, .inl (fun _ => 0))), (don_11, .inl (dcN_19, 2, .inl dnf_20)), (dot_12, .inl (dcO_21, 2, .inl (fun _ => 0)))] := hD
  generalize efs_43 : (fs_40.set 3 (.ref q_41)) = fs_43 at hP hD
  have lfs_43 : fs_43.length = 14 := by rw [← efs_43, List.length_set]; exact lfs_40
  have ffs_43_0 : fs_43[0]? = some (.ref q_1) := by rw [← efs_43]; exact p1_sn (by decide) ffs_40_0
  have ffs_43_1 : fs_43[1]? = some (.ref q_4) := by rw [← efs_43]; exact p1_sn (by decide) ffs_40_1
  have ffs_43_2 : fs_43[2]? = some (.ref q_38) := by rw [← efs_43]; exact p1_sn (by decide) ffs_40_2
  have ffs_43_3 : fs_43[3]? = some (.ref q_41) := by rw [← efs_43]; exact p1_sa lfs_40 (by decide)
  refine lv_aload_n hx hb dX8_init_46 rfl (lv_at hl 0 rfl) ?_
  refine va_new (ci := 2) (fs := [.null, .null, .null, .null, .null, .null, .null, .int 0]) (C := RX2) (T := TX2) (N := 8) hx hb hts i_X2 tyX2 tyX2_ok hown k_21 k_22 k_23 hK hP hD hS hA rfl (by decide) (by decide) (by decide) dX8_init_47 (fun q_44 H hP hD hS => ?_)
  have hP : va_P (dC, dI) vwCl [(h0, .inr (7, fs_43)), (q_1, .inl (cA_2, 1600, .inl (fun _ => 0))), (q_4, .inr (4, fo_6)), (dsh_7, .inr (5, dfo_8)), (dsc_9, .inl (dcS_13, 5, .inl (fun _ => 0))), (dlw_10, .inr (3, dlf_14)), (dlc_15, .inl (dcc1_17, 600, .inl (fun _ => 0))), (dlb_16, .inl (dcb1_18, 6, .inl (fun _ => 0))), (don_11, .inl (dcN_19, 2, .inl dnf_20)), (dot_12, .inl (dcO_21, 2, .inl (fun _ => 0))), (q_44, .inr (2, [.null, .null, .null, .null, .null, .null, .null, .int 0]))] H := hP
  have hD : va_D A [(h0, .inr (7, fs_43)), (q_1, .inl (cA_2, 1600, .inl (fun _ => 0))), (q_4, .inr (4, fo_6)), (dsh_7, .inr (5, dfo_8)), (dsc_9, .inl (dcS_13, 5, .inl (fun _ => 0))), (dlw_10, .inr (3, dlf_14)), (dlc_15, .inl (dcc1_17, 600, .inl (fun _ => 0))), (dlb_16, .inl (dcb1_18, 6, .inl (fun _ => 0))), (don_11, .inl (dcN_19, 2, .inl dnf_20)), (dot_12, .inl (dcO_21, 2, .inl (fun _ => 0))), (q_44, .inr (2, [.null, .null, .null, .null, .null, .null, .null, .int 0]))] := hD
  refine W.widen (k := 46) (n := 2560) (by decide) (by decide) ?_
  refine lv_dup hx hb dX8_init_50 rfl ?_
  have hPc := hP.sub (ws' := [(q_44, .inr (2, [.null, .null, .null, .null, .null, .null, .null, .int 0]))]) [10] rfl
  have hDc := hD.sub (ws' := [(q_44, .inr (2, [.null, .null, .null, .null, .null, .null, .null, .int 0]))]) [10] (by decide) rfl
  have hKc := hK.sub (tys' := []) [] rfl
  have hFc := va_free (wc := [(q_44, .inr (2, [.null, .null, .null, .null, .null, .null, .null, .int 0]))]) hD hS hA [10] rfl
  refine va_callv (va_runIN (As := []) (rest := [.ref q_44, .ref h0]) ⟨hx, hb, hml, hown, hts⟩ (n_Films l dC dI H.size q_44 ([.null, .null, .null, .null, .null, .null, .null, .int 0]) ((show [.null, .null, .null, .null, .null, .null, .null, .int 0].length = 8 from rfl))) ⟨va_cnB 0 hts (goodIn_sub g_n_Films gz_n_Films) rfl rfl rfl n6 k_23 (by decide +kernel) ⟨by decide, by decide⟩, rfl, k_24⟩ ⟨fun a U g mk q => by obtain ⟨q0, q1, qP, qK, qD⟩ := q; exact ⟨q0, q1, qP, va_K.moved (u := U) (U := U.calling g mk a) (Vm.Alike.refl U.vm) qK, qD⟩, fun U hU hW => ⟨rfl, by rw [hU], by rw [hU]; exact hPc, va_K.moved hW.alike hKc, hDc.weaken (fun _ _ _ _ => trivial)⟩⟩ rfl rfl hl.1 rfl (lv_room (Nat.le_of_ble_eq_true rfl)) dX8_init_51 ⟨by decide, by decide⟩) hS (fun q _ h => hFc q h) hFc (fun u t H1 locs ht hvm hw hB hz1 hk1 hS => ?_)
  obtain ⟨fo_46, z_47, z_48, hP1, hK1, hD1⟩ := hB
  rw [ht] at hP1
  obtain ⟨hP, hD⟩ := va_join (wr := [(h0, .inr (7, fs_43)), (q_1, .inl (cA_2, 1600, .inl (fun _ => 0))), (q_4, .inr (4, fo_6)), (dsh_7, .inr (5, dfo_8)), (dsc_9, .inl (dcS_13, 5, .inl (fun _ => 0))), (dlw_10, .inr (3, dlf_14)), (dlc_15, .inl (dcc1_17, 600, .inl (fun _ => 0))), (dlb_16, .inl (dcb1_18, 6, .inl (fun _ => 0))), (don_11, .inl (dcN_19, 2, .inl dnf_20)), (dot_12, .inl (dcO_21, 2, .inl (fun _ => 0)))]) (w1 := [(q_44, .inr (2, fo_46))]) hP hD [10] [0, 1, 2, 3, 4, 5, 6, 7, 8, 9] rfl rfl (by decide) (by decide) hk1 hFc hP1 hD1
  generalize H1 = H at hP hS ⊢
  have hP : va_P (dC, dI) vwCl [(h0, .inr (7, fs_43)), (q_1, .inl (cA_2, 1600, .inl (fun _ => 0))), (q_4, .inr (4, fo_6)), (dsh_7, .inr (5, dfo_8)), (dsc_9, .inl (dcS_13, 5, .inl (fun _ => 0))), (dlw_10, .inr (3, dlf_14)), (dlc_15, .inl (dcc1_17, 600, .inl (fun _ => 0))), (dlb_16, .inl (dcb1_18, 6, .inl (fun _ => 0))), (don_11, .inl (dcN_19, 2, .inl dnf_20)), (dot_12, .inl (dcO_21, 2, .inl (fun _ => 0))), (q_44, .inr (2, fo_46))] H := hP
  have hD : va_D A [(h0, .inr (7, fs_43)), (q_1, .inl (cA_2, 1600, .inl (fun _ => 0))), (q_4, .inr (4, fo_6)), (dsh_7, .inr (5, dfo_8)), (dsc_9, .inl (dcS_13, 5, .inl (fun _ => 0))), (dlw_10, .inr (3, dlf_14)), (dlc_15, .inl (dcc1_17, 600, .inl (fun _ => 0))), (dlb_16, .inl (dcb1_18, 6, .inl (fun _ => 0))), (don_11, .inl (dcN_19, 2, .inl dnf_20)), (dot_12, .inl (dcO_21, 2, .inl (fun _ => 0))), (q_44, .inr (2, fo_46))] := hD
  refine W.widen (k := 53) (n := 2840) (by decide) (by decide) ?_
  try dsimp only at hw
  refine va_putF (D := (dC, dI)) (ci := 7) (v := .ref q_44) (ty := .object "BowWalk$Films") (C := RX8) (T := TX8) (N := 14) hx hb hts i_X8 tyX8 tyX8_ok nmX8 hown hK hP hD hS 0 rfl rfl 4 (by decide) k_25 (fun _ h9 => h9) rfl hin rfl (by decide +kernel) rfl rfl (by rw [lfs_43]; decide) dX8_init_54 (fun H locs hP hD hS => ?_)
  have hP : va_P (dC, dI) vwCl [(h0, .inr (7, (fs_43.set 4 (.ref q_44)))), (q_1, .inl (cA_2, 1600, .inl (fun _ => 0))), (q_4, .inr (4, fo_6)), (dsh_7, .inr (5, dfo_8)), (dsc_9, .inl (dcS_13, 5, .inl (fun _ => 0))), (dlw_10, .inr (3, dlf_14)), (dlc_15, .inl (dcc1_17, 600, .inl (fun _ => 0))), (dlb_16, .inl (dcb1_18, 6, .inl (fun _ => 0))), (don_11, .inl (dcN_19, 2, .inl dnf_20)), (dot_12, .inl (dcO_21, 2, .inl (fun _ => 0))), (q_44, .inr (2, fo_46))] H := hP
  have hD : va_D A [(h0, .inr (7, (fs_43.set 4 (.ref q_44)))), (q_1, .inl (cA_2, 1600, .inl (fun _ => 0))), (q_4, .inr (4, fo_6)), (dsh_7, .inr (5, dfo_8)), (dsc_9, .inl (dcS_13, 5, .inl (fun _ => 0))), (dlw_10, .inr (3, dlf_14)), (dlc_15, .inl (dcc1_17, 600, .inl (fun _ => 0))), (dlb_16, .inl (dcb1_18, 6, .inl (fun _ => 0))), (don_11, .inl (dcN_19, 2, .inl dnf_20)), (dot_12, .inl (dcO_21, 2, .inl (fun _ => 0))), (q_44, .inr (2, fo_46))] := hD
  generalize efs_49 : (fs_43.set 4 (.ref q_44)) = fs_49 at hP hD
  have lfs_49 : fs_49.length = 14 := by rw [← efs_49, List.length_set]; exact lfs_43
  have ffs_49_0 : fs_49[0]? = some (.ref q_1) := by rw [← efs_49]; exact p1_sn (by decide) ffs_43_0
  have ffs_49_1 : fs_49[1]? = some (.ref q_4) := by rw [← efs_49]; exact p1_sn (by decide) ffs_43_1
  have ffs_49_2 : fs_49[2]? = some (.ref q_38) := by rw [← efs_49]; exact p1_sn (by decide) ffs_43_2
  have ffs_49_3 : fs_49[3]? = some (.ref q_41) := by rw [← efs_49]; exact p1_sn (by decide) ffs_43_3
  have ffs_49_4 : fs_49[4]? = some (.ref q_44) := by rw [← efs_49]; exact p1_sa lfs_43 (by decide)
  refine lv_aload_n hx hb dX8_init_57 rfl (lv_at hl 0 rfl) ?_
  refine lv_iconst (v := 3) hx hb dX8_init_58 (by decide) ?_
  refine va_newq (C := RX1) (N' := 3) hx hb hown k_26 o3 hK hP hD hS hA (by decide) rfl (by decide) (by decide) (by decide) dX8_init_59 (fun q_50 cA_51 H hK hP hD hS => ?_)
  have hP : va_P (dC, dI) vwCl [(h0, .inr (7, fs_49)), (q_1, .inl (cA_2, 1600, .inl (fun _ => 0))), (q_4, .inr (4, fo_6)), (dsh_7, .inr (5, dfo_8)), (dsc_9, .inl (dcS_13, 5, .inl (fun _ => 0))), (dlw_10, .inr (3, dlf_14)), (dlc_15, .inl (dcc1_17, 600, .inl (fun _ => 0))), (dlb_16, .inl (dcb1_18, 6, .inl (fun _ => 0))), (don_11, .inl (dcN_19, 2, .inl dnf_20)), (dot_12, .inl (dcO_21, 2, .inl (fun _ => 0))), (q_44, .inr (2, fo_46)), (q_50, .inl (cA_51, 3, .inr (.inr (.inr (.inr (fun _ => none))))))] H := hP
  have hD : va_D A [(h0, .inr (7, fs_49)), (q_1, .inl (cA_2, 1600, .inl (fun _ => 0))), (q_4, .inr (4, fo_6)), (dsh_7, .inr (5, dfo_8)), (dsc_9, .inl (dcS_13, 5, .inl (fun _ => 0))), (dlw_10, .inr (3, dlf_14)), (dlc_15, .inl (dcc1_17, 600, .inl (fun _ => 0))), (dlb_16, .inl (dcb1_18, 6, .inl (fun _ => 0))), (don_11, .inl (dcN_19, 2, .inl dnf_20)), (dot_12, .inl (dcO_21, 2, .inl (fun _ => 0))), (q_44, .inr (2, fo_46)), (q_50, .inl (cA_51, 3, .inr (.inr (.inr (.inr (fun _ => none))))))] := hD
  have hK : va_K (dC, dI) vwCl [(cA_2, .byte), (dcS_13, .int), (dcc1_17, .int), (dcb1_18, .int), (dcN_19, .int), (dcO_21, .boolean), (cA_51, .object RX1)] s := hK
  refine W.widen (k := 54) (n := 2843) (by decide) (by decide) ?_
  refine va_putF (D := (dC, dI)) (ci := 7) (v := .ref q_50) (ty := .array (.object "BowWalk$Box")) (C := RX8) (T := TX8) (N := 14) hx hb hts i_X8 tyX8 tyX8_ok nmX8 hown hK hP hD hS 0 rfl rfl 5 (by decide) k_27 (fun _ h9 => h9) rfl hin rfl (by decide +kernel) rfl rfl (by rw [lfs_49]; decide) dX8_init_62 (fun H locs hP hD hS => ?_)
  have hP : va_P (dC, dI) vwCl [(h0, .inr (7, (fs_49.set 5 (.ref q_50)))), (q_1, .inl (cA_2, 1600, .inl (fun _ => 0))), (q_4, .inr (4, fo_6)), (dsh_7, .inr (5, dfo_8)), (dsc_9, .inl (dcS_13, 5, .inl (fun _ => 0))), (dlw_10, .inr (3, dlf_14)), (dlc_15, .inl (dcc1_17, 600, .inl (fun _ => 0))), (dlb_16, .inl (dcb1_18, 6, .inl (fun _ => 0))), (don_11, .inl (dcN_19, 2, .inl dnf_20)), (dot_12, .inl (dcO_21, 2, .inl (fun _ => 0))), (q_44, .inr (2, fo_46)), (q_50, .inl (cA_51, 3, .inr (.inr (.inr (.inr (fun _ => none))))))] H := hP
  have hD : va_D A [(h0, .inr (7, (fs_49.set 5 (.ref q_50)))), (q_1, .inl (cA_2, 1600, .inl (fun _ => 0))), (q_4, .inr (4, fo_6)), (dsh_7, .inr (5, dfo_8)), (dsc_9, .inl (dcS_13, 5, .inl (fun _ => 0))), (dlw_10, .inr (3, dlf_14)), (dlc_15, .inl (dcc1_17, 600, .inl (fun _ => 0))), (dlb_16, .inl (dcb1_18, 6, .inl (fun _ => 0))), (don_11, .inl (dcN_19, 2, .inl dnf_20)), (dot_12, .inl (dcO_21, 2, .inl (fun _ => 0))), (q_44, .inr (2, fo_46)), (q_50, .inl (cA_51, 3, .inr (.inr (.inr (.inr (fun _ => none))))))] := hD
  generalize efs_52 : (fs_49.set 5 (.ref q_50)) = fs_52 at hP hD
  have lfs_52 : fs_52.length = 14 := by rw [← efs_52, List.length_set]; exact lfs_49
  have ffs_52_0 : fs_52[0]? = some (.ref q_1) := by rw [← efs_52]; exact p1_sn (by decide) ffs_49_0
  have ffs_52_1 : fs_52[1]? = some (.ref q_4) := by rw [← efs_52]; exact p1_sn (by decide) ffs_49_1
  have ffs_52_2 : fs_52[2]? = some (.ref q_38) := by rw [← efs_52]; exact p1_sn (by decide) ffs_49_2
  have ffs_52_3 : fs_52[3]? = some (.ref q_41) := by rw [← efs_52]; exact p1_sn (by decide) ffs_49_3
  have ffs_52_4 : fs_52[4]? = some (.ref q_44) := by rw [← efs_52]; exact p1_sn (by decide) ffs_49_4
  have ffs_52_5 : fs_52[5]? = some (.ref q_50) := by rw [← efs_52]; exact p1_sa lfs_49 (by decide)
  refine lv_aload_n hx hb dX8_init_65 rfl (lv_at hl 0 rfl) ?_
  refine lv_bipush (v := 12) hx hb dX8_init_66 (by decide) ?_
  refine va_newa (atype := .int) (ty := .int) (N' := 12) (a0 := (12, .inl (fun _ => 0))) hx hb k_28 rfl hK hP hD hS hA (fun _ => rfl) (by decide) rfl (by decide) (by decide) (by decide) dX8_init_68 (fun q_53 cA_54 H hK hP hD hS => ?_)
  have hP : va_P (dC, dI) vwCl [(h0, .inr (7, fs_52)), (q_1, .inl (cA_2, 1600, .inl (fun _ => 0))), (q_4, .inr (4, fo_6)), (dsh_7, .inr (5, dfo_8)), (dsc_9, .inl (dcS_13, 5, .inl (fun _ => 0))), (dlw_10, .inr (3, dlf_14)), (dlc_15, .inl (dcc1_17, 600, .inl (fun _ => 0))), (dlb_16, .inl (dcb1_18, 6, .inl (fun _ => 0))), (don_11, .inl (dcN_19, 2, .inl dnf_20)), (dot_12, .inl (dcO_21, 2, .inl (fun _ => 0))), (q_44, .inr (2, fo_46)), (q_50, .inl (cA_51, 3, .inr (.inr (.inr (.inr (fun _ => none)))))), (q_53, .inl (cA_54, 12, .inl (fun _ => 0)))] H := hP
  have hD : va_D A [(h0, .inr (7, fs_52)), (q_1, .inl (cA_2, 1600, .inl (fun _ => 0))), (q_4, .inr (4, fo_6)), (dsh_7, .inr (5, dfo_8)), (dsc_9, .inl (dcS_13, 5, .inl (fun _ => 0))), (dlw_10, .inr (3, dlf_14)), (dlc_15, .inl (dcc1_17, 600, .inl (fun _ => 0))), (dlb_16, .inl (dcb1_18, 6, .inl (fun _ => 0))), (don_11, .inl (dcN_19, 2, .inl dnf_20)), (dot_12, .inl (dcO_21, 2, .inl (fun _ => 0))), (q_44, .inr (2, fo_46)), (q_50, .inl (cA_51, 3, .inr (.inr (.inr (.inr (fun _ => none)))))), (q_53, .inl (cA_54, 12, .inl (fun _ => 0)))] := hD
  have hK : va_K (dC, dI) vwCl [(cA_2, .byte), (dcS_13, .int), (dcc1_17, .int), (dcb1_18, .int), (dcN_19, .int), (dcO_21, .boolean), (cA_51, .object RX1), (cA_54, .int)] s := hK
  refine W.widen (k := 55) (n := 2855) (by decide) (by decide) ?_
  refine va_putF (D := (dC, dI)) (ci := 7) (v := .ref q_53) (ty := .array .int) (C := RX8) (T := TX8) (N := 14) hx hb hts i_X8 tyX8 tyX8_ok nmX8 hown hK hP hD hS 0 rfl rfl 6 (by decide) k_29 (fun _ h9 => h9) rfl hin rfl (by decide +kernel) rfl rfl (by rw [lfs_52]; decide) dX8_init_70 (fun H locs hP hD hS => ?_)
  have hP : va_P (dC, dI) vwCl [(h0, .inr (7, (fs_52.set 6 (.ref q_53)))), (q_1, .inl (cA_2, 1600, .inl (fun _ => 0))), (q_4, .inr (4, fo_6)), (dsh_7, .inr (5, dfo_8)), (dsc_9, .inl (dcS_13, 5, .inl (fun _ => 0))), (dlw_10, .inr (3, dlf_14)), (dlc_15, .inl (dcc1_17, 600, .inl (fun _ => 0))), (dlb_16, .inl (dcb1_18, 6, .inl (fun _ => 0))), (don_11, .inl (dcN_19, 2, .inl dnf_20)), (dot_12, .inl (dcO_21, 2, .inl (fun _ => 0))), (q_44, .inr (2, fo_46)), (q_50, .inl (cA_51, 3, .inr (.inr (.inr (.inr (fun _ => none)))))), (q_53, .inl (cA_54, 12, .inl (fun _ => 0)))] H := hP
  have hD : va_D A [(h0, .inr (7, (fs_52.set 6 (.ref q_53)))), (q_1, .inl (cA_2, 1600, .inl (fun _ => 0))), (q_4, .inr (4, fo_6)), (dsh_7, .inr (5, dfo_8)), (dsc_9, .inl (dcS_13, 5, .inl (fun _ => 0))), (dlw_10, .inr (3, dlf_14)), (dlc_15, .inl (dcc1_17, 600, .inl (fun _ => 0))), (dlb_16, .inl (dcb1_18, 6, .inl (fun _ => 0))), (don_11, .inl (dcN_19, 2, .inl dnf_20)), (dot_12, .inl (dcO_21, 2, .inl (fun _ => 0))), (q_44, .inr (2, fo_46)), (q_50, .inl (cA_51, 3, .inr (.inr (.inr (.inr (fun _ => none)))))), (q_53, .inl (cA_54, 12, .inl (fun _ => 0)))] := hD
  generalize efs_55 : (fs_52.set 6 (.ref q_53)) = fs_55 at hP hD
  have lfs_55 : fs_55.length = 14 := by rw [← efs_55, List.length_set]; exact lfs_52
  have ffs_55_0 : fs_55[0]? = some (.ref q_1) := by rw [← efs_55]; exact p1_sn (by decide) ffs_52_0
  have ffs_55_1 : fs_55[1]? = some (.ref q_4) := by rw [← efs_55]; exact p1_sn (by decide) ffs_52_1
  have ffs_55_2 : fs_55[2]? = some (.ref q_38) := by rw [← efs_55]; exact p1_sn (by decide) ffs_52_2
  have ffs_55_3 : fs_55[3]? = some (.ref q_41) := by rw [← efs_55]; exact p1_sn (by decide) ffs_52_3
  have ffs_55_4 : fs_55[4]? = some (.ref q_44) := by rw [← efs_55]; exact p1_sn (by decide) ffs_52_4
  have ffs_55_5 : fs_55[5]? = some (.ref q_50) := by rw [← efs_55]; exact p1_sn (by decide) ffs_52_5
  have ffs_55_6 : fs_55[6]? = some (.ref q_53) := by rw [← efs_55]; exact p1_sa lfs_52 (by decide)
  have hP := hP.sub (ws' := [(h0, .inr (7, fs_55)), (q_1, .inl (cA_2, 1600, .inl (fun _ => 0))), (q_4, .inr (4, fo_6)), (dsh_7, .inr (5, dfo_8)), (dsc_9, .inl (dcS_13, 5, .inl (fun _ => 0))), (dlw_10, .inr (3, dlf_14)), (dlc_15, .inl (dcc1_17, 600, .inl (fun _ => 0))), (dlb_16, .inl (dcb1_18, 6, .inl (fun _ => 0))), (don_11, .inl (dcN_19, 2, .inl dnf_20)), (dot_12, .inl (dcO_21, 2, .inl (fun _ => 0))), (q_44, .inr (2, fo_46)), (q_50, .inl (cA_51, 3, .inr (.inr (.inr (.inr (fun _ => none))))))]) [0, 1, 2, 3, 4, 5, 6, 7, 8, 9, 10, 11] rfl
  have hD := hD.sub (ws' := [(h0, .inr (7, fs_55)), (q_1, .inl (cA_2, 1600, .inl (fun _ => 0))), (q_4, .inr (4, fo_6)), (dsh_7, .inr (5, dfo_8)), (dsc_9, .inl (dcS_13, 5, .inl (fun _ => 0))), (dlw_10, .inr (3, dlf_14)), (dlc_15, .inl (dcc1_17, 600, .inl (fun _ => 0))), (dlb_16, .inl (dcb1_18, 6, .inl (fun _ => 0))), (don_11, .inl (dcN_19, 2, .inl dnf_20)), (dot_12, .inl (dcO_21, 2, .inl (fun _ => 0))), (q_44, .inr (2, fo_46)), (q_50, .inl (cA_51, 3, .inr (.inr (.inr (.inr (fun _ => none))))))]) [0, 1, 2, 3, 4, 5, 6, 7, 8, 9, 10, 11] (by decide) rfl
  have hK := hK.sub (tys' := [(cA_2, .byte), (dcS_13, .int), (dcc1_17, .int), (dcb1_18, .int), (dcN_19, .int), (dcO_21, .boolean), (cA_51, .object RX1)]) [0, 1, 2, 3, 4, 5, 6] rfl
  refine lv_aload_n hx hb dX8_init_73 rfl (lv_at hl 0 rfl) ?_
  refine lv_bipush (v := 6) hx hb dX8_init_74 (by decide) ?_
  refine va_newa (atype := .int) (ty := .int) (N' := 6) (a0 := (6, .inl (fun _ => 0))) hx hb k_28 rfl hK hP hD hS hA (fun _ => rfl) (by decide) rfl (by decide) (by decide) (by decide) dX8_init_76 (fun q_56 cA_57 H hK hP hD hS => ?_)
  have hP : va_P (dC, dI) vwCl [(h0, .inr (7, fs_55)), (q_1, .inl (cA_2, 1600, .inl (fun _ => 0))), (q_4, .inr (4, fo_6)), (dsh_7, .inr (5, dfo_8)), (dsc_9, .inl (dcS_13, 5, .inl (fun _ => 0))), (dlw_10, .inr (3, dlf_14)), (dlc_15, .inl (dcc1_17, 600, .inl (fun _ => 0))), (dlb_16, .inl (dcb1_18, 6, .inl (fun _ => 0))), (don_11, .inl (dcN_19, 2, .inl dnf_20)), (dot_12, .inl (dcO_21, 2, .inl (fun _ => 0))), (q_44, .inr (2, fo_46)), (q_50, .inl (cA_51, 3, .inr (.inr (.inr (.inr (fun _ => none)))))), (q_56, .inl (cA_57, 6, .inl (fun _ => 0)))] H := hP
  have hD : va_D A [(h0, .inr (7, fs_55)), (q_1, .inl (cA_2, 1600, .inl (fun _ => 0))), (q_4, .inr (4, fo_6)), (dsh_7, .inr (5, dfo_8)), (dsc_9, .inl (dcS_13, 5, .inl (fun _ => 0))), (dlw_10, .inr (3, dlf_14)), (dlc_15, .inl (dcc1_17, 600, .inl (fun _ => 0))), (dlb_16, .inl (dcb1_18, 6, .inl (fun _ => 0))), (don_11, .inl (dcN_19, 2, .inl dnf_20)), (dot_12, .inl (dcO_21, 2, .inl (fun _ => 0))), (q_44, .inr (2, fo_46)), (q_50, .inl (cA_51, 3, .inr (.inr (.inr (.inr (fun _ => none)))))), (q_56, .inl (cA_57, 6, .inl (fun _ => 0)))] := hD
  have hK : va_K (dC, dI) vwCl [(cA_2, .byte), (dcS_13, .int), (dcc1_17, .int), (dcb1_18, .int), (dcN_19, .int), (dcO_21, .boolean), (cA_51, .object RX1), (cA_57, .int)] s := hK
  refine W.widen (k := 56) (n := 2861) (by decide) (by decide) ?_
  refine va_putF (D := (dC, dI)) (ci := 7) (v := .ref q_56) (ty := .array .int) (C := RX8) (T := TX8) (N := 14) hx hb hts i_X8 tyX8 tyX8_ok nmX8 hown hK hP hD hS 0 rfl rfl 7 (by decide) k_30 (fun _ h9 => h9) rfl hin rfl (by decide +kernel) rfl rfl (by rw [lfs_55]; decide) dX8_init_78 (fun H locs hP hD hS => ?_)
  have hP : va_P (dC, dI) vwCl [(h0, .inr (7, (fs_55.set 7 (.ref q_56)))), (q_1, .inl (cA_2, 1600, .inl (fun _ => 0))), (q_4, .inr (4, fo_6)), (dsh_7, .inr (5, dfo_8)), (dsc_9, .inl (dcS_13, 5, .inl (fun _ => 0))), (dlw_10, .inr (3, dlf_14)), (dlc_15, .inl (dcc1_17, 600, .inl (fun _ => 0))), (dlb_16, .inl (dcb1_18, 6, .inl (fun _ => 0))), (don_11, .inl (dcN_19, 2, .inl dnf_20)), (dot_12, .inl (dcO_21, 2, .inl (fun _ => 0))), (q_44, .inr (2, fo_46)), (q_50, .inl (cA_51, 3, .inr (.inr (.inr (.inr (fun _ => none)))))), (q_56, .inl (cA_57, 6, .inl (fun _ => 0)))] H := hP
  have hD : va_D A [(h0, .inr (7, (fs_55.set 7 (.ref q_56)))), (q_1, .inl (cA_2, 1600, .inl (fun _ => 0))), (q_4, .inr (4, fo_6)), (dsh_7, .inr (5, dfo_8)), (dsc_9, .inl (dcS_13, 5, .inl (fun _ => 0))), (dlw_10, .inr (3, dlf_14)), (dlc_15, .inl (dcc1_17, 600, .inl (fun _ => 0))), (dlb_16, .inl (dcb1_18, 6, .inl (fun _ => 0))), (don_11, .inl (dcN_19, 2, .inl dnf_20)), (dot_12, .inl (dcO_21, 2, .inl (fun _ => 0))), (q_44, .inr (2, fo_46)), (q_50, .inl (cA_51, 3, .inr (.inr (.inr (.inr (fun _ => none)))))), (q_56, .inl (cA_57, 6, .inl (fun _ => 0)))] := hD
  generalize efs_58 : (fs_55.set 7 (.ref q_56)) = fs_58 at hP hD
  have lfs_58 : fs_58.length = 14 := by rw [← efs_58, List.length_set]; exact lfs_55
  have ffs_58_0 : fs_58[0]? = some (.ref q_1) := by rw [← efs_58]; exact p1_sn (by decide) ffs_55_0
  have ffs_58_1 : fs_58[1]? = some (.ref q_4) := by rw [← efs_58]; exact p1_sn (by decide) ffs_55_1
  have ffs_58_2 : fs_58[2]? = some (.ref q_38) := by rw [← efs_58]; exact p1_sn (by decide) ffs_55_2
  have ffs_58_3 : fs_58[3]? = some (.ref q_41) := by rw [← efs_58]; exact p1_sn (by decide) ffs_55_3
  have ffs_58_4 : fs_58[4]? = some (.ref q_44) := by rw [← efs_58]; exact p1_sn (by decide) ffs_55_4
  have ffs_58_5 : fs_58[5]? = some (.ref q_50) := by rw [← efs_58]; exact p1_sn (by decide) ffs_55_5
  have ffs_58_6 : fs_58[6]? = some (.ref q_53) := by rw [← efs_58]; exact p1_sn (by decide) ffs_55_6
  have ffs_58_7 : fs_58[7]? = some (.ref q_56) := by rw [← efs_58]; exact p1_sa lfs_55 (by decide)
  have hP := hP.sub (ws' := [(h0, .inr (7, fs_58)), (q_1, .inl (cA_2, 1600, .inl (fun _ => 0))), (q_4, .inr (4, fo_6)), (dsh_7, .inr (5, dfo_8)), (dsc_9, .inl (dcS_13, 5, .inl (fun _ => 0))), (dlw_10, .inr (3, dlf_14)), (dlc_15, .inl (dcc1_17, 600, .inl (fun _ => 0))), (dlb_16, .inl (dcb1_18, 6, .inl (fun _ => 0))), (don_11, .inl (dcN_19, 2, .inl dnf_20)), (dot_12, .inl (dcO_21, 2, .inl (fun _ => 0))), (q_44, .inr (2, fo_46)), (q_50, .inl (cA_51, 3, .inr (.inr (.inr (.inr (fun _ => none))))))]) [0, 1, 2, 3, 4, 5, 6, 7, 8, 9, 10, 11] rfl
  have hD := hD.sub (ws' := [(h0, .inr (7, fs_58)), (q_1, .inl (cA_2, 1600, .inl (fun _ => 0))), (q_4, .inr (4, fo_6)), (dsh_7, .inr (5, dfo_8)), (dsc_9, .inl (dcS_13, 5, .inl (fun _ => 0))), (dlw_10, .inr (3, dlf_14)), (dlc_15, .inl (dcc1_17, 600, .inl (fun _ => 0))), (dlb_16, .inl (dcb1_18, 6, .inl (fun _ => 0))), (don_11, .inl (dcN_19, 2, .inl dnf_20)), (dot_12, .inl (dcO_21, 2, .inl (fun _ => 0))), (q_44, .inr (2, fo_46)), (q_50, .inl (cA_51, 3, .inr (.inr (.inr (.inr (fun _ => none))))))]) [0, 1, 2, 3, 4, 5, 6, 7, 8, 9, 10, 11] (by decide) rfl
  have hK := hK.sub (tys' := [(cA_2, .byte), (dcS_13, .int), (dcc1_17, .int), (dcb1_18, .int), (dcN_19, .int), (dcO_21, .boolean), (cA_51, .object RX1)]) [0, 1, 2, 3, 4, 5, 6] rfl
  refine lv_aload_n hx hb dX8_init_81 rfl (lv_at hl 0 rfl) ?_
  refine lv_bipush (v := 6) hx hb dX8_init_82 (by decide) ?_
  refine va_newa (atype := .int) (ty := .int) (N' := 6) (a0 := (6, .inl (fun _ => 0))) hx hb k_28 rfl hK hP hD hS hA (fun _ => rfl) (by decide) rfl (by decide) (by decide) (by decide) dX8_init_84 (fun q_59 cA_60 H hK hP hD hS => ?_)
  have hP : va_P (dC, dI) vwCl [(h0, .inr (7, fs_58)), (q_1, .inl (cA_2, 1600, .inl (fun _ => 0))), (q_4, .inr (4, fo_6)), (dsh_7, .inr (5, dfo_8)), (dsc_9, .inl (dcS_13, 5, .inl (fun _ => 0))), (dlw_10, .inr (3, dlf_14)), (dlc_15, .inl (dcc1_17, 600, .inl (fun _ => 0))), (dlb_16, .inl (dcb1_18, 6, .inl (fun _ => 0))), (don_11, .inl (dcN_19, 2, .inl dnf_20)), (dot_12, .inl (dcO_21, 2, .inl (fun _ => 0))), (q_44, .inr (2, fo_46)), (q_50, .inl (cA_51, 3, .inr (.inr (.inr (.inr (fun _ => none)))))), (q_59, .inl (cA_60, 6, .inl (fun _ => 0)))] H := hP
  have hD : va_D A [(h0, .inr (7, fs_58)), (q_1, .inl (cA_2, 1600, .inl (fun _ => 0))), (q_4, .inr (4, fo_6)), (dsh_7, .inr (5, dfo_8)), (dsc_9, .inl (dcS_13, 5, .inl (fun _ => 0))), (dlw_10, .inr (3, dlf_14)), (dlc_15, .inl (dcc1_17, 600, .inl (fun _ => 0))), (dlb_16, .inl (dcb1_18, 6, .inl (fun _ => 0))), (don_11, .inl (dcN_19, 2, .inl dnf_20)), (dot_12, .inl (dcO_21, 2, .inl (fun _ => 0))), (q_44, .inr (2, fo_46)), (q_50, .inl (cA_51, 3, .inr (.inr (.inr (.inr (fun _ => none)))))), (q_59, .inl (cA_60, 6, .inl (fun _ => 0)))] := hD
  have hK : va_K (dC, dI) vwCl [(cA_2, .byte), (dcS_13, .int), (dcc1_17, .int), (dcb1_18, .int), (dcN_19, .int), (dcO_21, .boolean), (cA_51, .object RX1), (cA_60, .int)] s := hK
  refine W.widen (k := 57) (n := 2867) (by decide) (by decide) ?_
  refine va_putF (D := (dC, dI)) (ci := 7) (v := .ref q_59) (ty := .array .int) (C := RX8) (T := TX8) (N := 14) hx hb hts i_X8 tyX8 tyX8_ok nmX8 hown hK hP hD hS 0 rfl rfl 8 (by decide) k_31 (fun _ h9 => h9) rfl hin rfl (by decide +kernel) rfl rfl (by rw [lfs_58]; decide) dX8_init_86 (fun H locs hP hD hS => ?_)
  have hP : va_P (dC, dI) vwCl [(h0, .inr (7, (fs_58.set 8 (.ref q_59)))), (q_1, .inl (cA_2, 1600, .inl (fun _ => 0))), (q_4, .inr (4, fo_6)), (dsh_7, .inr (5, dfo_8)), (dsc_9, .inl (dcS_13, 5, .inl (fun _ => 0))), (dlw_10, .inr (3, dlf_14)), (dlc_15, .inl (dcc1_17, 600, .inl (fun _ => 0))), (dlb_16, .inl (dcb1_18, 6, .inl (fun _ => 0))), (don_11, .inl (dcN_19, 2, .inl dnf_20)), (dot_12, .inl (dcO_21, 2, .inl (fun _ => 0))), (q_44, .inr (2, fo_46)), (q_50, .inl (cA_51, 3, .inr (.inr (.inr (.inr (fun _ => none)))))), (q_59, .inl (cA_60, 6, .inl (fun _ => 0)))] H := hP
  have hD : va_D A [(h0, .inr (7, (fs_58.set 8 (.ref q_59)))), (q_1, .inl (cA_2, 1600, .inl (fun _ => 0))), (q_4, .inr (4, fo_6)), (dsh_7, .inr (5, dfo_8)), (dsc_9, .inl (dcS_13, 5, .inl (fun _ => 0))), (dlw_10, .inr (3, dlf_14)), (dlc_15, .inl (dcc1_17, 600, .inl (fun _ => 0))), (dlb_16, .inl (dcb1_18, 6, .inl (fun _ => 0))), (don_11, .inl (dcN_19, 2, .inl dnf_20)), (dot_12, .inl (dcO_21, 2, .inl (fun _ => 0))), (q_44, .inr (2, fo_46)), (q_50, .inl (cA_51, 3, .inr (.inr (.inr (.inr (fun _ => none)))))), (q_59, .inl (cA_60, 6, .inl (fun _ => 0)))] := hD
  generalize efs_61 : (fs_58.set 8 (.ref q_59)) = fs_61 at hP hD
  have lfs_61 : fs_61.length = 14 := by rw [← efs_61, List.length_set]; exact lfs_58
  have ffs_61_0 : fs_61[0]? = some (.ref q_1) := by rw [← efs_61]; exact p1_sn (by decide) ffs_58_0
  have ffs_61_1 : fs_61[1]? = some (.ref q_4) := by rw [← efs_61]; exact p1_sn (by decide) ffs_58_1
  have ffs_61_2 : fs_61[2]? = some (.ref q_38) := by rw [← efs_61]; exact p1_sn (by decide) ffs_58_2
  have ffs_61_3 : fs_61[3]? = some (.ref q_41) := by rw [← efs_61]; exact p1_sn (by decide) ffs_58_3
  have ffs_61_4 : fs_61[4]? = some (.ref q_44) := by rw [← efs_61]; exact p1_sn (by decide) ffs_58_4
  have ffs_61_5 : fs_61[5]? = some (.ref q_50) := by rw [← efs_61]; exact p1_sn (by decide) ffs_58_5
  have ffs_61_6 : fs_61[6]? = some (.ref q_53) := by rw [← efs_61]; exact p1_sn (by decide) ffs_58_6
  have ffs_61_7 : fs_61[7]? = some (.ref q_56) := by rw [← efs_61]; exact p1_sn (by decide) ffs_58_7
  have ffs_61_8 : fs_61[8]? = some (.ref q_59) := by rw [← efs_61]; exact p1_sa lfs_58 (by decide)
  have hP := hP.sub (ws' := [(h0, .inr (7, fs_61)), (q_1, .inl (cA_2, 1600, .inl (fun _ => 0))), (q_4, .inr (4, fo_6)), (dsh_7, .inr (5, dfo_8)), (dsc_9, .inl (dcS_13, 5, .inl (fun _ => 0))), (dlw_10, .inr (3, dlf_14)), (dlc_15, .inl (dcc1_17, 600, .inl (fun _ => 0))), (dlb_16, .inl (dcb1_18, 6, .inl (fun _ => 0))), (don_11, .inl (dcN_19, 2, .inl dnf_20)), (dot_12, .inl (dcO_21, 2, .inl (fun _ => 0))), (q_44, .inr (2, fo_46)), (q_50, .inl (cA_51, 3, .inr (.inr (.inr (.inr (fun _ => none))))))]) [0, 1, 2, 3, 4, 5, 6, 7, 8, 9, 10, 11] rfl
  have hD := hD.sub (ws' := [(h0, .inr (7, fs_61)), (q_1, .inl (cA_2, 1600, .inl (fun _ => 0))), (q_4, .inr (4, fo_6)), (dsh_7, .inr (5, dfo_8)), (dsc_9, .inl (dcS_13, 5, .inl (fun _ => 0))), (dlw_10, .inr (3, dlf_14)), (dlc_15, .inl (dcc1_17, 600, .inl (fun _ => 0))), (dlb_16, .inl (dcb1_18, 6, .inl (fun _ => 0))), (don_11, .inl (dcN_19, 2, .inl dnf_20)), (dot_12, .inl (dcO_21, 2, .inl (fun _ => 0))), (q_44, .inr (2, fo_46)), (q_50, .inl (cA_51, 3, .inr (.inr (.inr (.inr (fun _ => none))))))]) [0, 1, 2, 3, 4, 5, 6, 7, 8, 9, 10, 11] (by decide) rfl
  have hK := hK.sub (tys' := [(cA_2, .byte), (dcS_13, .int), (dcc1_17, .int), (dcb1_18, .int), (dcN_19, .int), (dcO_21, .boolean), (cA_51, .object RX1)]) [0, 1, 2, 3, 4, 5, 6] rfl
  refine lv_aload_n hx hb dX8_init_89 rfl (lv_at hl 0 rfl) ?_
  refine va_new (ci := 5) (fs := [.null, .null, .null, .null, .null, .null, .null, .null, .null, .null, .null, .null, .null, .null, .null]) (C := RX5) (T := TX5) (N := 15) hx hb hts i_X5 tyX5 tyX5_ok hown k_32 k_33 k_34 hK hP hD hS hA rfl (by decide) (by decide) (by decide) dX8_init_90 (fun q_62 H hP hD hS => ?_)
  have hP : va_P (dC, dI) vwCl [(h0, .inr (7, fs_61)), (q_1, .inl (cA_2, 1600, .inl (fun _ => 0))), (q_4, .inr (4, fo_6)), (dsh_7, .inr (5, dfo_8)), (dsc_9, .inl (dcS_13, 5, .inl (fun _ => 0))), (dlw_10, .inr (3, dlf_14)), (dlc_15, .inl (dcc1_17, 600, .inl (fun _ => 0))), (dlb_16, .inl (dcb1_18, 6, .inl (fun _ => 0))), (don_11, .inl (dcN_19, 2, .inl dnf_20)), (dot_12, .inl (dcO_21, 2, .inl (fun _ => 0))), (q_44, .inr (2, fo_46)), (q_50, .inl (cA_51, 3, .inr (.inr (.inr (.inr (fun _ => none)))))), (q_62, .inr (5, [.null, .null, .null, .null, .null, .null, .null, .null, .null, .null, .null, .null, .null, .null, .null]))] H := hP
  have hD : va_D A [(h0, .inr (7, fs_61)), (q_1, .inl (cA_2, 1600, .inl (fun _ => 0))), (q_4, .inr (4, fo_6)), (dsh_7, .inr (5, dfo_8)), (dsc_9, .inl (dcS_13, 5, .inl (fun _ => 0))), (dlw_10, .inr (3, dlf_14)), (dlc_15, .inl (dcc1_17, 600, .inl (fun _ => 0))), (dlb_16, .inl (dcb1_18, 6, .inl (fun _ => 0))), (don_11, .inl (dcN_19, 2, .inl dnf_20)), (dot_12, .inl (dcO_21, 2, .inl (fun _ => 0))), (q_44, .inr (2, fo_46)), (q_50, .inl (cA_51, 3, .inr (.inr (.inr (.inr (fun _ => none)))))), (q_62, .inr (5, [.null, .null, .null, .null, .null, .null, .null, .null, .null, .null, .null, .null, .null, .null, .null]))] := hD
  refine W.widen (k := 58) (n := 2882) (by decide) (by decide) ?_
  refine lv_dup hx hb dX8_init_93 rfl ?_
  have hPc := hP.sub (ws' := [(q_62, .inr (5, [.null, .null, .null, .null, .null, .null, .null, .null, .null, .null, .null, .null, .null, .null, .null]))]) [12] rfl
  have hDc := hD.sub (ws' := [(q_62, .inr (5, [.null, .null, .null, .null, .null, .null, .null, .null, .null, .null, .null, .null, .null, .null, .null]))]) [12] (by decide) rfl
  have hKc := hK.sub (tys' := []) [] rfl
  have hFc := va_free (wc := [(q_62, .inr (5, [.null, .null, .null, .null, .null, .null, .null, .null, .null, .null, .null, .null, .null, .null, .null]))]) hD hS hA [12] rfl
  refine va_callv (va_runIN (As := []) (rest := [.ref q_62, .ref h0]) ⟨hx, hb, hml, hown, hts⟩ (n_Shop l dC dI H.size q_62 ([.null, .null, .null, .null, .null, .null, .null, .null, .null, .null, .null, .null, .null, .null, .null]) ((show [.null, .null, .null, .null, .null, .null, .null, .null, .null, .null, .null, .null, .null, .null, .null].length = 15 from rfl))) ⟨va_cnB 0 hts (goodIn_sub g_n_Shop gz_n_Shop) rfl rfl rfl n7 k_34 (by decide +kernel) ⟨by decide, by decide⟩, rfl, k_35⟩ ⟨fun a U g mk q => by obtain ⟨q0, q1, qP, qK, qD, qE⟩ := q; exact ⟨q0, q1, qP, va_K.moved (u := U) (U := U.calling g mk a) (Vm.Alike.refl U.vm) qK, qD, qE⟩, fun U hU hW => ⟨rfl, by rw [hU], by rw [hU]; exact hPc, va_K.moved hW.alike hKc, hDc.weaken (fun _ _ _ _ => trivial), by rw [hU]; exact p1_ex.warm hE hW hS (fun q h => hFc q h)⟩⟩ rfl rfl hl.1 rfl (lv_room (Nat.le_of_ble_eq_true rfl)) dX8_init_94 ⟨by decide, by decide⟩) hS (fun q _ h => hFc q h) hFc (fun u t H1 locs ht hvm hw hB hz1 hk1 hS => ?_)
  obtain ⟨fo_64, sc_65, lw_66, on_67, ot_68, cS_69, lf_70, lc_71, lb_72, cc1_73, cb1_74, cN_75, nf_76, cO_77, z_78, z_79, z_80, z_81, z_82, z_83, z_84, z_85, z_86, z_87, z_88, hP1, hK1, hD1⟩ := hB
  rw [ht] at hP1
  obtain ⟨hP, hD⟩ := va_join (wr := [(h0, .inr (7, fs_61)), (q_1, .inl (cA_2, 1600, .inl (fun _ => 0))), (q_4, .inr (4, fo_6)), (dsh_7, .inr (5, dfo_8)), (dsc_9, .inl (dcS_13, 5, .inl (fun _ => 0))), (dlw_10, .inr (3, dlf_14)), (dlc_15, .inl (dcc1_17, 600, .inl (fun _ => 0))), (dlb_16, .inl (dcb1_18, 6, .inl (fun _ => 0))), (don_11, .inl (dcN_19, 2, .inl dnf_20)), (dot_12, .inl (dcO_21, 2, .inl (fun _ => 0))), (q_44, .inr (2, fo_46)), (q_50, .inl (cA_51, 3, .inr (.inr (.inr (.inr (fun _ => none))))))]) (w1 := [(q_62, .inr (5, fo_64)), (sc_65, .inl (cS_69, 5, .inl (fun _ => 0))), (lw_66, .inr (3, lf_70)), (lc_71, .inl (cc1_73, 600, .inl (fun _ => 0))), (lb_72, .inl (cb1_74, 6, .inl (fun _ => 0))), (on_67, .inl (cN_75, 2, .inl nf_76)), (ot_68, .inl (cO_77, 2, .inl (fun _ => 0)))]) hP hD [12] [0, 1, 2, 3, 4, 5, 6, 7, 8, 9, 10, 11] rfl rfl (by decide) (by decide) hk1 hFc hP1 hD1
  have hK := hK.app (va_K.moved hvm.symm hK1)
  generalize H1 = H at hP hS ⊢
  have hP : va_P (dC, dI) vwCl [(h0, .inr (7, fs_61)), (q_1, .inl (cA_2, 1600, .inl (fun _ => 0))), (q_4, .inr (4, fo_6)), (dsh_7, .inr (5, dfo_8)), (dsc_9, .inl (dcS_13, 5, .inl (fun _ => 0))), (dlw_10, .inr (3, dlf_14)), (dlc_15, .inl (dcc1_17, 600, .inl (fun _ => 0))), (dlb_16, .inl (dcb1_18, 6, .inl (fun _ => 0))), (don_11, .inl (dcN_19, 2, .inl dnf_20)), (dot_12, .inl (dcO_21, 2, .inl (fun _ => 0))), (q_44, .inr (2, fo_46)), (q_50, .inl (cA_51, 3, .inr (.inr (.inr (.inr (fun _ => none)))))), (q_62, .inr (5, fo_64)), (sc_65, .inl (cS_69, 5, .inl (fun _ => 0))), (lw_66, .inr (3, lf_70)), (lc_71, .inl (cc1_73, 600, .inl (fun _ => 0))), (lb_72, .inl (cb1_74, 6, .inl (fun _ => 0))), (on_67, .inl (cN_75, 2, .inl nf_76)), (ot_68, .inl (cO_77, 2, .inl (fun _ => 0)))] H := hP
  have hD : va_D A [(h0, .inr (7, fs_61)), (q_1, .inl (cA_2, 1600, .inl (fun _ => 0))), (q_4, .inr (4, fo_6)), (dsh_7, .inr (5, dfo_8)), (dsc_9, .inl (dcS_13, 5, .inl (fun _ => 0))), (dlw_10, .inr (3, dlf_14)), (dlc_15, .inl (dcc1_17, 600, .inl (fun _ => 0))), (dlb_16, .inl (dcb1_18, 6, .inl (fun _ => 0))), (don_11, .inl (dcN_19, 2, .inl dnf_20)), (dot_12, .inl (dcO_21, 2, .inl (fun _ => 0))), (q_44, .inr (2, fo_46)), (q_50, .inl (cA_51, 3, .inr (.inr (.inr (.inr (fun _ => none)))))), (q_62, .inr (5, fo_64)), (sc_65, .inl (cS_69, 5, .inl (fun _ => 0))), (lw_66, .inr (3, lf_70)), (lc_71, .inl (cc1_73, 600, .inl (fun _ => 0))), (lb_72, .inl (cb1_74, 6, .inl (fun _ => 0))), (on_67, .inl (cN_75, 2, .inl nf_76)), (ot_68, .inl (cO_77, 2, .inl (fun _ => 0)))] := hD
  have hK : va_K (dC, dI) vwCl [(cA_2, .byte), (dcS_13, .int), (dcc1_17, .int), (dcb1_18, .int), (dcN_19, .int), (dcO_21, .boolean), (cA_51, .object RX1), (cS_69, .int), (cc1_73, .int), (cb1_74, .int), (cN_75, .int), (cO_77, .boolean)] s := hK
  refine W.widen (k := 89) (n := 3706) (by decide) (by decide) ?_
  try dsimp only at hw
  refine va_put (D := (dC, dI)) (ci := 7) (v := .ref q_62) (ty := .object "BowWalk$Shop") (C := RX8) (T := TX8) (N := 14) hx hb hts i_X8 tyX8 tyX8_ok nmX8 hown hK hP hD hS 0 rfl rfl 9 (by decide) k_36 (fun _ h9 => h9) rfl (by decide +kernel) rfl rfl (by rw [lfs_61]; decide) dX8_init_97 (fun H locs hP hD hS => ?_)
  have hP : va_P (dC, dI) vwCl [(h0, .inr (7, (fs_61.set 9 (.ref q_62)))), (q_1, .inl (cA_2, 1600, .inl (fun _ => 0))), (q_4, .inr (4, fo_6)), (dsh_7, .inr (5, dfo_8)), (dsc_9, .inl (dcS_13, 5, .inl (fun _ => 0))), (dlw_10, .inr (3, dlf_14)), (dlc_15, .inl (dcc1_17, 600, .inl (fun _ => 0))), (dlb_16, .inl (dcb1_18, 6, .inl (fun _ => 0))), (don_11, .inl (dcN_19, 2, .inl dnf_20)), (dot_12, .inl (dcO_21, 2, .inl (fun _ => 0))), (q_44, .inr (2, fo_46)), (q_50, .inl (cA_51, 3, .inr (.inr (.inr (.inr (fun _ => none)))))), (q_62, .inr (5, fo_64)), (sc_65, .inl (cS_69, 5, .inl (fun _ => 0))), (lw_66, .inr (3, lf_70)), (lc_71, .inl (cc1_73, 600, .inl (fun _ => 0))), (lb_72, .inl (cb1_74, 6, .inl (fun _ => 0))), (on_67, .inl (cN_75, 2, .inl nf_76)), (ot_68, .inl (cO_77, 2, .inl (fun _ => 0)))] H := hP
  have hD : va_D A [(h0, .inr (7, (fs_61.set 9 (.ref q_62)))), (q_1, .inl (cA_2, 1600, .inl (fun _ => 0))), (q_4, .inr (4, fo_6)), (dsh_7, .inr (5, dfo_8)), (dsc_9, .inl (dcS_13, 5, .inl (fun _ => 0))), (dlw_10, .inr (3, dlf_14)), (dlc_15, .inl (dcc1_17, 600, .inl (fun _ => 0))), (dlb_16, .inl (dcb1_18, 6, .inl (fun _ => 0))), (don_11, .inl (dcN_19, 2, .inl dnf_20)), (dot_12, .inl (dcO_21, 2, .inl (fun _ => 0))), (q_44, .inr (2, fo_46)), (q_50, .inl (cA_51, 3, .inr (.inr (.inr (.inr (fun _ => none)))))), (q_62, .inr (5, fo_64)), (sc_65, .inl (cS_69, 5, .inl (fun _ => 0))), (lw_66, .inr (3, lf_70)), (lc_71, .inl (cc1_73, 600, .inl (fun _ => 0))), (lb_72, .inl (cb1_74, 6, .inl (fun _ => 0))), (on_67, .inl (cN_75, 2, .inl nf_76)), (ot_68, .inl (cO_77, 2, .inl (fun _ => 0)))] := hD
  generalize efs_89 : (fs_61.set 9 (.ref q_62)) = fs_89 at hP hD
  have lfs_89 : fs_89.length = 14 := by rw [← efs_89, List.length_set]; exact lfs_61
  have ffs_89_0 : fs_89[0]? = some (.ref q_1) := by rw [← efs_89]; exact p1_sn (by decide) ffs_61_0
  have ffs_89_1 : fs_89[1]? = some (.ref q_4) := by rw [← efs_89]; exact p1_sn (by decide) ffs_61_1
  have ffs_89_2 : fs_89[2]? = some (.ref q_38) := by rw [← efs_89]; exact p1_sn (by decide) ffs_61_2
  have ffs_89_3 : fs_89[3]? = some (.ref q_41) := by rw [← efs_89]; exact p1_sn (by decide) ffs_61_3
  have ffs_89_4 : fs_89[4]? = some (.ref q_44) := by rw [← efs_89]; exact p1_sn (by decide) ffs_61_4
  have ffs_89_5 : fs_89[5]? = some (.ref q_50) := by rw [← efs_89]; exact p1_sn (by decide) ffs_61_5
  have ffs_89_6 : fs_89[6]? = some (.ref q_53) := by rw [← efs_89]; exact p1_sn (by decide) ffs_61_6
  have ffs_89_7 : fs_89[7]? = some (.ref q_56) := by rw [← efs_89]; exact p1_sn (by decide) ffs_61_7
  have ffs_89_8 : fs_89[8]? = some (.ref q_59) := by rw [← efs_89]; exact p1_sn (by decide) ffs_61_8
  have ffs_89_9 : fs_89[9]? = some (.ref q_62) := by rw [← efs_89]; exact p1_sa lfs_61 (by decide)
  refine lv_aload_n hx hb dX8_init_100 rfl (lv_at hl 0 rfl) ?_
  refine lv_iconst (v := 0) hx hb dX8_init_101 (by decide) ?_
  refine va_put (D := (dC, dI)) (ci := 7) (v := .int 0) (ty := .int) (C := RX8) (T := TX8) (N := 14) hx hb hts i_X8 tyX8 tyX8_ok nmX8 hown hK hP hD hS 0 rfl rfl 10 (by decide) k_37 (fun _ h9 => h9) rfl (by decide +kernel) rfl rfl (by rw [lfs_89]; decide) dX8_init_102 (fun H locs hP hD hS => ?_)
  have hP : va_P (dC, dI) vwCl [(h0, .inr (7, (fs_89.set 10 (.int 0)))), (q_1, .inl (cA_2, 1600, .inl (fun _ => 0))), (q_4, .inr (4, fo_6)), (dsh_7, .inr (5, dfo_8)), (dsc_9, .inl (dcS_13, 5, .inl (fun _ => 0))), (dlw_10, .inr (3, dlf_14)), (dlc_15, .inl (dcc1_17, 600, .inl (fun _ => 0))), (dlb_16, .inl (dcb1_18, 6, .inl (fun _ => 0))), (don_11, .inl (dcN_19, 2, .inl dnf_20)), (dot_12, .inl (dcO_21, 2, .inl (fun _ => 0))), (q_44, .inr (2, fo_46)), (q_50, .inl (cA_51, 3, .inr (.inr (.inr (.inr (fun _ => none)))))), (q_62, .inr (5, fo_64)), (sc_65, .inl (cS_69, 5, .inl (fun _ => 0))), (lw_66, .inr (3, lf_70)), (lc_71, .inl (cc1_73, 600, .inl (fun _ => 0))), (lb_72, .inl (cb1_74, 6, .inl (fun _ => 0))), (on_67, .inl (cN_75, 2, .inl nf_76)), (ot_68, .inl (cO_77, 2, .inl (fun _ => 0)))] H := hP
  have hD : va_D A [(h0, .inr (7, (fs_89.set 10 (.int 0)))), (q_1, .inl (cA_2, 1600, .inl (fun _ => 0))), (q_4, .inr (4, fo_6)), (dsh_7, .inr (5, dfo_8)), (dsc_9, .inl (dcS_13, 5, .inl (fun _ => 0))), (dlw_10, .inr (3, dlf_14)), (dlc_15, .inl (dcc1_17, 600, .inl (fun _ => 0))), (dlb_16, .inl (dcb1_18, 6, .inl (fun _ => 0))), (don_11, .inl (dcN_19, 2, .inl dnf_20)), (dot_12, .inl (dcO_21, 2, .inl (fun _ => 0))), (q_44, .inr (2, fo_46)), (q_50, .inl (cA_51, 3, .inr (.inr (.inr (.inr (fun _ => none)))))), (q_62, .inr (5, fo_64)), (sc_65, .inl (cS_69, 5, .inl (fun _ => 0))), (lw_66, .inr (3, lf_70)), (lc_71, .inl (cc1_73, 600, .inl (fun _ => 0))), (lb_72, .inl (cb1_74, 6, .inl (fun _ => 0))), (on_67, .inl (cN_75, 2, .inl nf_76)), (ot_68, .inl (cO_77, 2, .inl (fun _ => 0)))] := hD
  generalize efs_90 : (fs_89.set 10 (.int 0)) = fs_90 at hP hD
  have lfs_90 : fs_90.length = 14 := by rw [← efs_90, List.length_set]; exact lfs_89
  have ffs_90_0 : fs_90[0]? = some (.ref q_1) := by rw [← efs_90]; exact p1_sn (by decide) ffs_89_0
  have ffs_90_1 : fs_90[1]? = some (.ref q_4) := by rw [← efs_90]; exact p1_sn (by decide) ffs_89_1
  have ffs_90_2 : fs_90[2]? = some (.ref q_38) := by rw [← efs_90]; exact p1_sn (by decide) ffs_89_2
  have ffs_90_3 : fs_90[3]? = some (.ref q_41) := by rw [← efs_90]; exact p1_sn (by decide) ffs_89_3
  have ffs_90_4 : fs_90[4]? = some (.ref q_44) := by rw [← efs_90]; exact p1_sn (by decide) ffs_89_4
  have ffs_90_5 : fs_90[5]? = some (.ref q_50) := by rw [← efs_90]; exact p1_sn (by decide) ffs_89_5
  have ffs_90_6 : fs_90[6]? = some (.ref q_53) := by rw [← efs_90]; exact p1_sn (by decide) ffs_89_6
  have ffs_90_7 : fs_90[7]? = some (.ref q_56) := by rw [← efs_90]; exact p1_sn (by decide) ffs_89_7
  have ffs_90_8 : fs_90[8]? = some (.ref q_59) := by rw [← efs_90]; exact p1_sn (by decide) ffs_89_8
  have ffs_90_9 : fs_90[9]? = some (.ref q_62) := by rw [← efs_90]; exact p1_sn (by decide) ffs_89_9
  have ffs_90_10 : fs_90[10]? = some (.int 0) := by rw [← efs_90]; exact p1_sa lfs_89 (by decide)
  refine lv_aload_n hx hb dX8_init_105 rfl (lv_at hl 0 rfl) ?_
  refine lv_iconst (v := 0) hx hb dX8_init_106 (by decide) ?_
  refine va_put (D := (dC, dI)) (ci := 7) (v := .int 0) (ty := .boolean) (C := RX8) (T := TX8) (N := 14) hx hb hts i_X8 tyX8 tyX8_ok nmX8 hown hK hP hD hS 0 rfl rfl 11 (by decide) k_38 (fun _ h9 => h9) rfl (by decide +kernel) rfl rfl (by rw [lfs_90]; decide) dX8_init_107 (fun H locs hP hD hS => ?_)
  have hP : va_P (dC, dI) vwCl [(h0, .inr (7, (fs_90.set 11 (.int 0)))), (q_1, .inl (cA_2, 1600, .inl (fun _ => 0))), (q_4, .inr (4, fo_6)), (dsh_7, .inr (5, dfo_8)), (dsc_9, .inl (dcS_13, 5, .inl (fun _ => 0))), (dlw_10, .inr (3, dlf_14)), (dlc_15, .inl (dcc1_17, 600, .inl (fun _ => 0))), (dlb_16, .inl (dcb1_18, 6, .inl (fun _ => 0))), (don_11, .inl (dcN_19, 2, .inl dnf_20)), (dot_12, .inl (dcO_21, 2, .inl (fun _ => 0))), (q_44, .inr (2, fo_46)), (q_50, .inl (cA_51, 3, .inr (.inr (.inr (.inr (fun _ => none)))))), (q_62, .inr (5, fo_64)), (sc_65, .inl (cS_69, 5, .inl (fun _ => 0))), (lw_66, .inr (3, lf_70)), (lc_71, .inl (cc1_73, 600, .inl (fun _ => 0))), (lb_72, .inl (cb1_74, 6, .inl (fun _ => 0))), (on_67, .inl (cN_75, 2, .inl nf_76)), (ot_68, .inl (cO_77, 2, .inl (fun _ => 0)))] H := hP
  have hD : va_D A [(h0, .inr (7, (fs_90.set 11 (.int 0)))), (q_1, .inl (cA_2, 1600, .inl (fun _ => 0))), (q_4, .inr (4, fo_6)), (dsh_7, .inr (5, dfo_8)), (dsc_9, .inl (dcS_13, 5, .inl (fun _ => 0))), (dlw_10, .inr (3, dlf_14)), (dlc_15, .inl (dcc1_17, 600, .inl (fun _ => 0))), (dlb_16, .inl (dcb1_18, 6, .inl (fun _ => 0))), (don_11, .inl (dcN_19, 2, .inl dnf_20)), (dot_12, .inl (dcO_21, 2, .inl (fun _ => 0))), (q_44, .inr (2, fo_46)), (q_50, .inl (cA_51, 3, .inr (.inr (.inr (.inr (fun _ => none)))))), (q_62, .inr (5, fo_64)), (sc_65, .inl (cS_69, 5, .inl (fun _ => 0))), (lw_66, .inr (3, lf_70)), (lc_71, .inl (cc1_73, 600, .inl (fun _ => 0))), (lb_72, .inl (cb1_74, 6, .inl (fun _ => 0))), (on_67, .inl (cN_75, 2, .inl nf_76)), (ot_68, .inl (cO_77, 2, .inl (fun _ => 0)))] := hD
  generalize efs_91 : (fs_90.set 11 (.int 0)) = fs_91 at hP hD
  have lfs_91 : fs_91.length = 14 := by rw [← efs_91, List.length_set]; exact lfs_90
  have ffs_91_0 : fs_91[0]? = some (.ref q_1) := by rw [← efs_91]; exact p1_sn (by decide) ffs_90_0
  have ffs_91_1 : fs_91[1]? = some (.ref q_4) := by rw [← efs_91]; exact p1_sn (by decide) ffs_90_1
  have ffs_91_2 : fs_91[2]? = some (.ref q_38) := by rw [← efs_91]; exact p1_sn (by decide) ffs_90_2
  have ffs_91_3 : fs_91[3]? = some (.ref q_41) := by rw [← efs_91]; exact p1_sn (by decide) ffs_90_3
  have ffs_91_4 : fs_91[4]? = some (.ref q_44) := by rw [← efs_91]; exact p1_sn (by decide) ffs_90_4
  have ffs_91_5 : fs_91[5]? = some (.ref q_50) := by rw [← efs_91]; exact p1_sn (by decide) ffs_90_5
  have ffs_91_6 : fs_91[6]? = some (.ref q_53) := by rw [← efs_91]; exact p1_sn (by decide) ffs_90_6
  have ffs_91_7 : fs_91[7]? = some (.ref q_56) := by rw [← efs_91]; exact p1_sn (by decide) ffs_90_7
  have ffs_91_8 : fs_91[8]? = some (.ref q_59) := by rw [← efs_91]; exact p1_sn (by decide) ffs_90_8
  have ffs_91_9 : fs_91[9]? = some (.ref q_62) := by rw [← efs_91]; exact p1_sn (by decide) ffs_90_9
  have ffs_91_10 : fs_91[10]? = some (.int 0) := by rw [← efs_91]; exact p1_sn (by decide) ffs_90_10
  have ffs_91_11 : fs_91[11]? = some (.int 0) := by rw [← efs_91]; exact p1_sa lfs_90 (by decide)
  refine lv_aload_n hx hb dX8_init_110 rfl (lv_at hl 0 rfl) ?_
  refine lv_iconst (v := 1) hx hb dX8_init_111 (by decide) ?_
  refine va_put (D := (dC, dI)) (ci := 7) (v := .int 1) (ty := .int) (C := RX8) (T := TX8) (N := 14) hx hb hts i_X8 tyX8 tyX8_ok nmX8 hown hK hP hD hS 0 rfl rfl 12 (by decide) k_39 (fun _ h9 => h9) rfl (by decide +kernel) rfl rfl (by rw [lfs_91]; decide) dX8_init_112 (fun H locs hP hD hS => ?_)
  have hP : va_P (dC, dI) vwCl [(h0, .inr (7, (fs_91.set 12 (.int 1)))), (q_1, .inl (cA_2, 1600, .inl (fun _ => 0))), (q_4, .inr (4, fo_6)), (dsh_7, .inr (5, dfo_8)), (dsc_9, .inl (dcS_13, 5, .inl (fun _ => 0))), (dlw_10, .inr (3, dlf_14)), (dlc_15, .inl (dcc1_17, 600, .inl (fun _ => 0))), (dlb_16, .inl (dcb1_18, 6, .inl (fun _ => 0))), (don_11, .inl (dcN_19, 2, .inl dnf_20)), (dot_12, .inl (dcO_21, 2, .inl (fun _ => 0))), (q_44, .inr (2, fo_46)), (q_50, .inl (cA_51, 3, .inr (.inr (.inr (.inr (fun _ => none)))))), (q_62, .inr (5, fo_64)), (sc_65, .inl (cS_69, 5, .inl (fun _ => 0))), (lw_66, .inr (3, lf_70)), (lc_71, .inl (cc1_73, 600, .inl (fun _ => 0))), (lb_72, .inl (cb1_74, 6, .inl (fun _ => 0))), (on_67, .inl (cN_75, 2, .inl nf_76)), (ot_68, .inl (cO_77, 2, .inl (fun _ => 0)))] H := hP
  have hD : va_D A [(h0, .inr (7, (fs_91.set 12 (.int 1)))), (q_1, .inl (cA_2, 1600, .inl (fun _ => 0))), (q_4, .inr (4, fo_6)), (dsh_7, .inr (5, dfo_8)), (dsc_9, .inl (dcS_13, 5, .inl (fun _ => 0))), (dlw_10, .inr (3, dlf_14)), (dlc_15, .inl (dcc1_17, 600, .inl (fun _ => 0))), (dlb_16, .inl (dcb1_18, 6, .inl (fun _ => 0))), (don_11, .inl (dcN_19, 2, .inl dnf_20)), (dot_12, .inl (dcO_21, 2, .inl (fun _ => 0))), (q_44, .inr (2, fo_46)), (q_50, .inl (cA_51, 3, .inr (.inr (.inr (.inr (fun _ => none)))))), (q_62, .inr (5, fo_64)), (sc_65, .inl (cS_69, 5, .inl (fun _ => 0))), (lw_66, .inr (3, lf_70)), (lc_71, .inl (cc1_73, 600, .inl (fun _ => 0))), (lb_72, .inl (cb1_74, 6, .inl (fun _ => 0))), (on_67, .inl (cN_75, 2, .inl nf_76)), (ot_68, .inl (cO_77, 2, .inl (fun _ => 0)))] := hD
  generalize efs_92 : (fs_91.set 12 (.int 1)) = fs_92 at hP hD
  have lfs_92 : fs_92.length = 14 := by rw [← efs_92, List.length_set]; exact lfs_91
  have ffs_92_0 : fs_92[0]? = some (.ref q_1) := by rw [← efs_92]; exact p1_sn (by decide) ffs_91_0
  have ffs_92_1 : fs_92[1]? = some (.ref q_4) := by rw [← efs_92]; exact p1_sn (by decide) ffs_91_1
  have ffs_92_2 : fs_92[2]? = some (.ref q_38) := by rw [← efs_92]; exact p1_sn (by decide) ffs_91_2
  have ffs_92_3 : fs_92[3]? = some (.ref q_41) := by rw [← efs_92]; exact p1_sn (by decide) ffs_91_3
  have ffs_92_4 : fs_92[4]? = some (.ref q_44) := by rw [← efs_92]; exact p1_sn (by decide) ffs_91_4
  have ffs_92_5 : fs_92[5]? = some (.ref q_50) := by rw [← efs_92]; exact p1_sn (by decide) ffs_91_5
  have ffs_92_6 : fs_92[6]? = some (.ref q_53) := by rw [← efs_92]; exact p1_sn (by decide) ffs_91_6
  have ffs_92_7 : fs_92[7]? = some (.ref q_56) := by rw [← efs_92]; exact p1_sn (by decide) ffs_91_7
  have ffs_92_8 : fs_92[8]? = some (.ref q_59) := by rw [← efs_92]; exact p1_sn (by decide) ffs_91_8
  have ffs_92_9 : fs_92[9]? = some (.ref q_62) := by rw [← efs_92]; exact p1_sn (by decide) ffs_91_9
  have ffs_92_10 : fs_92[10]? = some (.int 0) := by rw [← efs_92]; exact p1_sn (by decide) ffs_91_10
  have ffs_92_11 : fs_92[11]? = some (.int 0) := by rw [← efs_92]; exact p1_sn (by decide) ffs_91_11
  have ffs_92_12 : fs_92[12]? = some (.int 1) := by rw [← efs_92]; exact p1_sa lfs_91 (by decide)
  refine lv_aload_n hx hb dX8_init_115 rfl (lv_at hl 0 rfl) ?_
  refine lv_iconst (v := 0) hx hb dX8_init_116 (by decide) ?_
  refine va_put (D := (dC, dI)) (ci := 7) (v := .int 0) (ty := .int) (C := RX8) (T := TX8) (N := 14) hx hb hts i_X8 tyX8 tyX8_ok nmX8 hown hK hP hD hS 0 rfl rfl 13 (by decide) k_40 (fun _ h9 => h9) rfl (by decide +kernel) rfl rfl (by rw [lfs_92]; decide) dX8_init_117 (fun H locs hP hD hS => ?_)
  have hP : va_P (dC, dI) vwCl [(h0, .inr (7, (fs_92.set 13 (.int 0)))), (q_1, .inl (cA_2, 1600, .inl (fun _ => 0))), (q_4, .inr (4, fo_6)), (dsh_7, .inr (5, dfo_8)), (dsc_9, .inl (dcS_13, 5, .inl (fun _ => 0))), (dlw_10, .inr (3, dlf_14)), (dlc_15, .inl (dcc1_17, 600, .inl (fun _ => 0))), (dlb_16, .inl (dcb1_18, 6, .inl (fun _ => 0))), (don_11, .inl (dcN_19, 2, .inl dnf_20)), (dot_12, .inl (dcO_21, 2, .inl (fun _ => 0))), (q_44, .inr (2, fo_46)), (q_50, .inl (cA_51, 3, .inr (.inr (.inr (.inr (fun _ => none)))))), (q_62, .inr (5, fo_64)), (sc_65, .inl (cS_69, 5, .inl (fun _ => 0))), (lw_66, .inr (3, lf_70)), (lc_71, .inl (cc1_73, 600, .inl (fun _ => 0))), (lb_72, .inl (cb1_74, 6, .inl (fun _ => 0))), (on_67, .inl (cN_75, 2, .inl nf_76)), (ot_68, .inl (cO_77, 2, .inl (fun _ => 0)))] H := hP
  have hD : va_D A [(h0, .inr (7, (fs_92.set 13 (.int 0)))), (q_1, .inl (cA_2, 1600, .inl (fun _ => 0))), (q_4, .inr (4, fo_6)), (dsh_7, .inr (5, dfo_8)), (dsc_9, .inl (dcS_13, 5, .inl (fun _ => 0))), (dlw_10, .inr (3, dlf_14)), (dlc_15, .inl (dcc1_17, 600, .inl (fun _ => 0))), (dlb_16, .inl (dcb1_18, 6, .inl (fun _ => 0))), (don_11, .inl (dcN_19, 2, .inl dnf_20)), (dot_12, .inl (dcO_21, 2, .inl (fun _ => 0))), (q_44, .inr (2, fo_46)), (q_50, .inl (cA_51, 3, .inr (.inr (.inr (.inr (fun _ => none)))))), (q_62, .inr (5, fo_64)), (sc_65, .inl (cS_69, 5, .inl (fun _ => 0))), (lw_66, .inr (3, lf_70)), (lc_71, .inl (cc1_73, 600, .inl (fun _ => 0))), (lb_72, .inl (cb1_74, 6, .inl (fun _ => 0))), (on_67, .inl (cN_75, 2, .inl nf_76)), (ot_68, .inl (cO_77, 2, .inl (fun _ => 0)))] := hD
  generalize efs_93 : (fs_92.set 13 (.int 0)) = fs_93 at hP hD
  have lfs_93 : fs_93.length = 14 := by rw [← efs_93, List.length_set]; exact lfs_92
  have ffs_93_0 : fs_93[0]? = some (.ref q_1) := by rw [← efs_93]; exact p1_sn (by decide) ffs_92_0
  have ffs_93_1 : fs_93[1]? = some (.ref q_4) := by rw [← efs_93]; exact p1_sn (by decide) ffs_92_1
  have ffs_93_2 : fs_93[2]? = some (.ref q_38) := by rw [← efs_93]; exact p1_sn (by decide) ffs_92_2
  have ffs_93_3 : fs_93[3]? = some (.ref q_41) := by rw [← efs_93]; exact p1_sn (by decide) ffs_92_3
  have ffs_93_4 : fs_93[4]? = some (.ref q_44) := by rw [← efs_93]; exact p1_sn (by decide) ffs_92_4
  have ffs_93_5 : fs_93[5]? = some (.ref q_50) := by rw [← efs_93]; exact p1_sn (by decide) ffs_92_5
  have ffs_93_6 : fs_93[6]? = some (.ref q_53) := by rw [← efs_93]; exact p1_sn (by decide) ffs_92_6
  have ffs_93_7 : fs_93[7]? = some (.ref q_56) := by rw [← efs_93]; exact p1_sn (by decide) ffs_92_7
  have ffs_93_8 : fs_93[8]? = some (.ref q_59) := by rw [← efs_93]; exact p1_sn (by decide) ffs_92_8
  have ffs_93_9 : fs_93[9]? = some (.ref q_62) := by rw [← efs_93]; exact p1_sn (by decide) ffs_92_9
  have ffs_93_10 : fs_93[10]? = some (.int 0) := by rw [← efs_93]; exact p1_sn (by decide) ffs_92_10
  have ffs_93_11 : fs_93[11]? = some (.int 0) := by rw [← efs_93]; exact p1_sn (by decide) ffs_92_11
  have ffs_93_12 : fs_93[12]? = some (.int 1) := by rw [← efs_93]; exact p1_sn (by decide) ffs_92_12
  have ffs_93_13 : fs_93[13]? = some (.int 0) := by rw [← efs_93]; exact p1_sa lfs_92 (by decide)
  refine lv_iconst (v := 0) hx hb dX8_init_120 (by decide) ?_
  refine lv_istore_n (lv' := [(1, .int 0), (0, .ref h0)]) hx hb dX8_init_121 rfl hl (by decide) rfl (fun ls hl => ?_)
  refine lv_iload_n hx hb dX8_init_122 rfl (lv_at hl 0 rfl) ?_
  refine lv_iconst (v := 3) hx hb dX8_init_123 (by decide) ?_
  refine lv_icmp_ge (tgt := 146) hx hb dX8_init_124 (by decide) (fun c9 => absurd c9 (by decide)) (fun _ => ?_)
  refine lv_aload_n hx hb dX8_init_127 rfl (lv_at hl 1 rfl) ?_
  refine va_get (D := (dC, dI)) (ci := 7) (v := .ref q_50) (C := RX8) (T := TX8) (N := 14) hx hb hts i_X8 hown hK hP 0 rfl rfl 5 (by decide) k_27 (fun _ h9 => h9) ffs_93_5 dX8_init_128 ?_
  refine lv_iload_n hx hb dX8_init_131 rfl (lv_at hl 0 rfl) ?_
  refine va_new (ci := 1) (fs := [.null, .int 0, .int 0]) (C := RX1) (T := TX1) (N := 3) hx hb hts i_X1 tyX1 tyX1_ok hown k_26 k_41 k_42 hK hP hD hS hA rfl (by decide) (by decide) (by decide) dX8_init_132 (fun q_95 H hP hD hS => ?_)
  have hP : va_P (dC, dI) vwCl [(h0, .inr (7, fs_93)), (q_1, .inl (cA_2, 1600, .inl (fun _ => 0))), (q_4, .inr (4, fo_6)), (dsh_7, .inr (5, dfo_8)), (dsc_9, .inl (dcS_13, 5, .inl (fun _ => 0))), (dlw_10, .inr (3, dlf_14)), (dlc_15, .inl (dcc1_17, 600, .inl (fun _ => 0))), (dlb_16, .inl (dcb1_18, 6, .inl (fun _ => 0))), (don_11, .inl (dcN_19, 2, .inl dnf_20)), (dot_12, .inl (dcO_21, 2, .inl (fun _ => 0))), (q_44, .inr (2, fo_46)), (q_50, .inl (cA_51, 3, .inr (.inr (.inr (.inr (fun _ => none)))))), (q_62, .inr (5, fo_64)), (sc_65, .inl (cS_69, 5, .inl (fun _ => 0))), (lw_66, .inr (3, lf_70)), (lc_71, .inl (cc1_73, 600, .inl (fun _ => 0))), (lb_72, .inl (cb1_74, 6, .inl (fun _ => 0))), (on_67, .inl (cN_75, 2, .inl nf_76)), (ot_68, .inl (cO_77, 2, .inl (fun _ => 0))), (q_95, .inr (1, [.null, .int 0, .int 0]))] H := hP
  have hD : va_D A [(h0, .inr (7, fs_93)), (q_1, .inl (cA_2, 1600, .inl (fun _ => 0))), (q_4, .inr (4, fo_6)), (dsh_7, .inr (5, dfo_8)), (dsc_9, .inl (dcS_13, 5, .inl (fun _ => 0))), (dlw_10, .inr (3, dlf_14)), (dlc_15, .inl (dcc1_17, 600, .inl (fun _ => 0))), (dlb_16, .inl (dcb1_18, 6, .inl (fun _ => 0))), (don_11, .inl (dcN_19, 2, .inl dnf_20)), (dot_12, .inl (dcO_21, 2, .inl (fun _ => 0))), (q_44, .inr (2, fo_46)), (q_50, .inl (cA_51, 3, .inr (.inr (.inr (.inr (fun _ => none)))))), (q_62, .inr (5, fo_64)), (sc_65, .inl (cS_69, 5, .inl (fun _ => 0))), (lw_66, .inr (3, lf_70)), (lc_71, .inl (cc1_73, 600, .inl (fun _ => 0))), (lb_72, .inl (cb1_74, 6, .inl (fun _ => 0))), (on_67, .inl (cN_75, 2, .inl nf_76)), (ot_68, .inl (cO_77, 2, .inl (fun _ => 0))), (q_95, .inr (1, [.null, .int 0, .int 0]))] := hD
  refine W.widen (k := 90) (n := 3709) (by decide) (by decide) ?_
  refine lv_dup hx hb dX8_init_135 rfl ?_
  have hPc := hP.sub (ws' := [(q_95, .inr (1, [.null, .int 0, .int 0]))]) [19] rfl
  have hDc := hD.sub (ws' := [(q_95, .inr (1, [.null, .int 0, .int 0]))]) [19] (by decide) rfl
  have hKc := hK.sub (tys' := []) [] rfl
  have hFc := va_free (wc := [(q_95, .inr (1, [.null, .int 0, .int 0]))]) hD hS hA [19] rfl
  refine va_callv (va_runIN (As := []) (rest := [.ref q_95, .int 0, .ref q_50]) ⟨hx, hb, hml, hown, hts⟩ (n_Box l dC dI H.size q_95 ([.null, .int 0, .int 0]) ((show [.null, .int 0, .int 0].length = 3 from rfl))) ⟨va_cnB 0 hts (goodIn_sub g_n_Box gz_n_Box) rfl rfl rfl n8 k_42 (by decide +kernel) ⟨by decide, by decide⟩, rfl, k_43⟩ ⟨fun a U g mk q => by obtain ⟨q0, q1, qP, qK, qD, qE⟩ := q; exact ⟨q0, q1, qP, va_K.moved (u := U) (U := U.calling g mk a) (Vm.Alike.refl U.vm) qK, qD, qE⟩, fun U hU hW => ⟨rfl, by rw [hU], by rw [hU]; exact hPc, va_K.moved hW.alike hKc, hDc.weaken (fun _ _ _ _ => trivial), by rw [hU]; exact p1_ex.warm hE hW hS (fun q h => hFc q h)⟩⟩ rfl rfl hl.1 rfl (lv_room (Nat.le_of_ble_eq_true rfl)) dX8_init_136 ⟨by decide, by decide⟩) hS (fun q _ h => hFc q h) hFc (fun u t H1 locs ht hvm hw hB hz1 hk1 hS => ?_)
  obtain ⟨fo_97, z_98, z_99, hP1, hK1, hD1⟩ := hB
  rw [ht] at hP1
  obtain ⟨hP, hD⟩ := va_join (wr := [(h0, .inr (7, fs_93)), (q_1, .inl (cA_2, 1600, .inl (fun _ => 0))), (q_4, .inr (4, fo_6)), (dsh_7, .inr (5, dfo_8)), (dsc_9, .inl (dcS_13, 5, .inl (fun _ => 0))), (dlw_10, .inr (3, dlf_14)), (dlc_15, .inl (dcc1_17, 600, .inl (fun _ => 0))), (dlb_16, .inl (dcb1_18, 6, .inl (fun _ => 0))), (don_11, .inl (dcN_19, 2, .inl dnf_20)), (dot_12, .inl (dcO_21, 2, .inl (fun _ => 0))), (q_44, .inr (2, fo_46)), (q_50, .inl (cA_51, 3, .inr (.inr (.inr (.inr (fun _ => none)))))), (q_62, .inr (5, fo_64)), (sc_65, .inl (cS_69, 5, .inl (fun _ => 0))), (lw_66, .inr (3, lf_70)), (lc_71, .inl (cc1_73, 600, .inl (fun _ => 0))), (lb_72, .inl (cb1_74, 6, .inl (fun _ => 0))), (on_67, .inl (cN_75, 2, .inl nf_76)), (ot_68, .inl (cO_77, 2, .inl (fun _ => 0)))]) (w1 := [(q_95, .inr (1, fo_97))]) hP hD [19] [0, 1, 2, 3, 4, 5, 6, 7, 8, 9, 10, 11, 12, 13, 14, 15, 16, 17, 18] rfl rfl (by decide) (by decide) hk1 hFc hP1 hD1
  generalize H1 = H at hP hS ⊢
  have hP : va_P (dC, dI) vwCl [(h0, .inr (7, fs_93)), (q_1, .inl (cA_2, 1600, .inl (fun _ => 0))), (q_4, .inr (4, fo_6)), (dsh_7, .inr (5, dfo_8)), (dsc_9, .inl (dcS_13, 5, .inl (fun _ => 0))), (dlw_10, .inr (3, dlf_14)), (dlc_15, .inl (dcc1_17, 600, .inl (fun _ => 0))), (dlb_16, .inl (dcb1_18, 6, .inl (fun _ => 0))), (don_11, .inl (dcN_19, 2, .inl dnf_20)), (dot_12, .inl (dcO_21, 2, .inl (fun _ => 0))), (q_44, .inr (2, fo_46)), (q_50, .inl (cA_51, 3, .inr (.inr (.inr (.inr (fun _ => none)))))), (q_62, .inr (5, fo_64)), (sc_65, .inl (cS_69, 5, .inl (fun _ => 0))), (lw_66, .inr (3, lf_70)), (lc_71, .inl (cc1_73, 600, .inl (fun _ => 0))), (lb_72, .inl (cb1_74, 6, .inl (fun _ => 0))), (on_67, .inl (cN_75, 2, .inl nf_76)), (ot_68, .inl (cO_77, 2, .inl (fun _ => 0))), (q_95, .inr (1, fo_97))] H := hP
  have hD : va_D A [(h0, .inr (7, fs_93)), (q_1, .inl (cA_2, 1600, .inl (fun _ => 0))), (q_4, .inr (4, fo_6)), (dsh_7, .inr (5, dfo_8)), (dsc_9, .inl (dcS_13, 5, .inl (fun _ => 0))), (dlw_10, .inr (3, dlf_14)), (dlc_15, .inl (dcc1_17, 600, .inl (fun _ => 0))), (dlb_16, .inl (dcb1_18, 6, .inl (fun _ => 0))), (don_11, .inl (dcN_19, 2, .inl dnf_20)), (dot_12, .inl (dcO_21, 2, .inl (fun _ => 0))), (q_44, .inr (2, fo_46)), (q_50, .inl (cA_51, 3, .inr (.inr (.inr (.inr (fun _ => none)))))), (q_62, .inr (5, fo_64)), (sc_65, .inl (cS_69, 5, .inl (fun _ => 0))), (lw_66, .inr (3, lf_70)), (lc_71, .inl (cc1_73, 600, .inl (fun _ => 0))), (lb_72, .inl (cb1_74, 6, .inl (fun _ => 0))), (on_67, .inl (cN_75, 2, .inl nf_76)), (ot_68, .inl (cO_77, 2, .inl (fun _ => 0))), (q_95, .inr (1, fo_97))] := hD
  refine W.widen (k := 93) (n := 3738) (by decide) (by decide) ?_
  try dsimp only at hw
  refine va_astq hx hb hK hP hD hS 11 6 19 1 rfl rfl rfl rfl (p1_in (i := 0) (n := 3) (by decide)) dX8_init_139 (fun H locs hP hD hS => ?_)
  have hP : va_P (dC, dI) vwCl [(h0, .inr (7, fs_93)), (q_1, .inl (cA_2, 1600, .inl (fun _ => 0))), (q_4, .inr (4, fo_6)), (dsh_7, .inr (5, dfo_8)), (dsc_9, .inl (dcS_13, 5, .inl (fun _ => 0))), (dlw_10, .inr (3, dlf_14)), (dlc_15, .inl (dcc1_17, 600, .inl (fun _ => 0))), (dlb_16, .inl (dcb1_18, 6, .inl (fun _ => 0))), (don_11, .inl (dcN_19, 2, .inl dnf_20)), (dot_12, .inl (dcO_21, 2, .inl (fun _ => 0))), (q_44, .inr (2, fo_46)), (q_50, .inl (cA_51, 3, .inr (.inr (.inr (.inr (va_up (fun _ => none) (0 : Int32).toNatClampNeg (some q_95))))))), (q_62, .inr (5, fo_64)), (sc_65, .inl (cS_69, 5, .inl (fun _ => 0))), (lw_66, .inr (3, lf_70)), (lc_71, .inl (cc1_73, 600, .inl (fun _ => 0))), (lb_72, .inl (cb1_74, 6, .inl (fun _ => 0))), (on_67, .inl (cN_75, 2, .inl nf_76)), (ot_68, .inl (cO_77, 2, .inl (fun _ => 0))), (q_95, .inr (1, fo_97))] H := hP
  have hD : va_D A [(h0, .inr (7, fs_93)), (q_1, .inl (cA_2, 1600, .inl (fun _ => 0))), (q_4, .inr (4, fo_6)), (dsh_7, .inr (5, dfo_8)), (dsc_9, .inl (dcS_13, 5, .inl (fun _ => 0))), (dlw_10, .inr (3, dlf_14)), (dlc_15, .inl (dcc1_17, 600, .inl (fun _ => 0))), (dlb_16, .inl (dcb1_18, 6, .inl (fun _ => 0))), (don_11, .inl (dcN_19, 2, .inl dnf_20)), (dot_12, .inl (dcO_21, 2, .inl (fun _ => 0))), (q_44, .inr (2, fo_46)), (q_50, .inl (cA_51, 3, .inr (.inr (.inr (.inr (va_up (fun _ => none) (0 : Int32).toNatClampNeg (some q_95))))))), (q_62, .inr (5, fo_64)), (sc_65, .inl (cS_69, 5, .inl (fun _ => 0))), (lw_66, .inr (3, lf_70)), (lc_71, .inl (cc1_73, 600, .inl (fun _ => 0))), (lb_72, .inl (cb1_74, 6, .inl (fun _ => 0))), (on_67, .inl (cN_75, 2, .inl nf_76)), (ot_68, .inl (cO_77, 2, .inl (fun _ => 0))), (q_95, .inr (1, fo_97))] := hD
  refine lv_iinc (v := 1) (lv' := [(1, .int 1), (0, .ref h0)]) hx hb dX8_init_140 hl (k := 0) rfl (by decide) (by decide) rfl (fun ls hl => ?_)
  refine lv_goto (tgt := 122) hx hb dX8_init_143 (by decide) ?_
  refine lv_iload_n hx hb dX8_init_122 rfl (lv_at hl 0 rfl) ?_
  refine lv_iconst (v := 3) hx hb dX8_init_123 (by decide) ?_
  refine lv_icmp_ge (tgt := 146) hx hb dX8_init_124 (by decide) (fun c9 => absurd c9 (by decide)) (fun _ => ?_)
  refine lv_aload_n hx hb dX8_init_127 rfl (lv_at hl 1 rfl) ?_
  refine va_get (D := (dC, dI)) (ci := 7) (v := .ref q_50) (C := RX8) (T := TX8) (N := 14) hx hb hts i_X8 hown hK hP 0 rfl rfl 5 (by decide) k_27 (fun _ h9 => h9) ffs_93_5 dX8_init_128 ?_
  refine lv_iload_n hx hb dX8_init_131 rfl (lv_at hl 0 rfl) ?_
  refine va_new (ci := 1) (fs := [.null, .int 0, .int 0]) (C := RX1) (T := TX1) (N := 3) hx hb hts i_X1 tyX1 tyX1_ok hown k_26 k_41 k_42 hK hP hD hS hA rfl (by decide) (by decide) (by decide) dX8_init_132 (fun q_101 H hP hD hS => ?_)
  have hP : va_P (dC, dI) vwCl [(h0, .inr (7, fs_93)), (q_1, .inl (cA_2, 1600, .inl (fun _ => 0))), (q_4, .inr (4, fo_6)), (dsh_7, .inr (5, dfo_8)), (dsc_9, .inl (dcS_13, 5, .inl (fun _ => 0))), (dlw_10, .inr (3, dlf_14)), (dlc_15, .inl (dcc1_17, 600, .inl (fun _ => 0))), (dlb_16, .inl (dcb1_18, 6, .inl (fun _ => 0))), (don_11, .inl (dcN_19, 2, .inl dnf_20)), (dot_12, .inl (dcO_21, 2, .inl (fun _ => 0))), (q_44, .inr (2, fo_46)), (q_50, .inl (cA_51, 3, .inr (.inr (.inr (.inr (va_up (fun _ => none) (0 : Int32).toNatClampNeg (some q_95))))))), (q_62, .inr (5, fo_64)), (sc_65, .inl (cS_69, 5, .inl (fun _ => 0))), (lw_66, .inr (3, lf_70)), (lc_71, .inl (cc1_73, 600, .inl (fun _ => 0))), (lb_72, .inl (cb1_74, 6, .inl (fun _ => 0))), (on_67, .inl (cN_75, 2, .inl nf_76)), (ot_68, .inl (cO_77, 2, .inl (fun _ => 0))), (q_95, .inr (1, fo_97)), (q_101, .inr (1, [.null, .int 0, .int 0]))] H := hP
  have hD : va_D A [(h0, .inr (7, fs_93)), (q_1, .inl (cA_2, 1600, .inl (fun _ => 0))), (q_4, .inr (4, fo_6)), (dsh_7, .inr (5, dfo_8)), (dsc_9, .inl (dcS_13, 5, .inl (fun _ => 0))), (dlw_10, .inr (3, dlf_14)), (dlc_15, .inl (dcc1_17, 600, .inl (fun _ => 0))), (dlb_16, .inl (dcb1_18, 6, .inl (fun _ => 0))), (don_11, .inl (dcN_19, 2, .inl dnf_20)), (dot_12, .inl (dcO_21, 2, .inl (fun _ => 0))), (q_44, .inr (2, fo_46)), (q_50, .inl (cA_51, 3, .inr (.inr (.inr (.inr (va_up (fun _ => none) (0 : Int32).toNatClampNeg (some q_95))))))), (q_62, .inr (5, fo_64)), (sc_65, .inl (cS_69, 5, .inl (fun _ => 0))), (lw_66, .inr (3, lf_70)), (lc_71, .inl (cc1_73, 600, .inl (fun _ => 0))), (lb_72, .inl (cb1_74, 6, .inl (fun _ => 0))), (on_67, .inl (cN_75, 2, .inl nf_76)), (ot_68, .inl (cO_77, 2, .inl (fun _ => 0))), (q_95, .inr (1, fo_97)), (q_101, .inr (1, [.null, .int 0, .int 0]))] := hD
  refine W.widen (k := 94) (n := 3741) (by decide) (by decide) ?_
  refine lv_dup hx hb dX8_init_135 rfl ?_
  have hPc := hP.sub (ws' := [(q_101, .inr (1, [.null, .int 0, .int 0]))]) [20] rfl
  have hDc := hD.sub (ws' := [(q_101, .inr (1, [.null, .int 0, .int 0]))]) [20] (by decide) rfl
  have hKc := hK.sub (tys' := []) [] rfl
  have hFc := va_free (wc := [(q_101, .inr (1, [.null, .int 0, .int 0]))]) hD hS hA [20] rfl
  refine va_callv (va_runIN (As := []) (rest := [.ref q_101, .int 1, .ref q_50]) ⟨hx, hb, hml, hown, hts⟩ (n_Box l dC dI H.size q_101 ([.null, .int 0, .int 0]) ((show [.null, .int 0, .int 0].length = 3 from rfl))) ⟨va_cnB 0 hts (goodIn_sub g_n_Box gz_n_Box) rfl rfl rfl n8 k_42 (by decide +kernel) ⟨by decide, by decide⟩, rfl, k_43⟩ ⟨fun a U g mk q => by obtain ⟨q0, q1, qP, qK, qD, qE⟩ := q; exact ⟨q0, q1, qP, va_K.moved (u := U) (U := U.calling g mk a) (Vm.Alike.refl U.vm) qK, qD, qE⟩, fun U hU hW => ⟨rfl, by rw [hU], by rw [hU]; exact hPc, va_K.moved hW.alike hKc, hDc.weaken (fun _ _ _ _ => trivial), by rw [hU]; exact p1_ex.warm hE hW hS (fun q h => hFc q h)⟩⟩ rfl rfl hl.1 rfl (lv_room (Nat.le_of_ble_eq_true rfl)) dX8_init_136 ⟨by decide, by decide⟩) hS (fun q _ h => hFc q h) hFc (fun u t H1 locs ht hvm hw hB hz1 hk1 hS => ?_)
  obtain ⟨fo_103, z_104, z_105, hP1, hK1, hD1⟩ := hB
  rw [ht] at hP1
  obtain ⟨hP, hD⟩ := va_join (wr := [(h0, .inr (7, fs_93)), (q_1, .inl (cA_2, 1600, .inl (fun _ => 0))), (q_4, .inr (4, fo_6)), (dsh_7, .inr (5, dfo_8)), (dsc_9, .inl (dcS_13, 5, .inl (fun _ => 0))), (dlw_10, .inr (3, dlf_14)), (dlc_15, .inl (dcc1_17, 600, .inl (fun _ => 0))), (dlb_16, .inl (dcb1_18, 6, .inl (fun _ => 0))), (don_11, .inl (dcN_19, 2, .inl dnf_20)), (dot_12, .inl (dcO_21, 2, .inl (fun _ => 0))), (q_44, .inr (2, fo_46)), (q_50, .inl (cA_51, 3, .inr (.inr (.inr (.inr (va_up (fun _ => none) (0 : Int32).toNatClampNeg (some q_95))))))), (q_62, .inr (5, fo_64)), (sc_65, .inl (cS_69, 5, .inl (fun _ => 0))), (lw_66, .inr (3, lf_70)), (lc_71, .inl (cc1_73, 600, .inl (fun _ => 0))), (lb_72, .inl (cb1_74, 6, .inl (fun _ => 0))), (on_67, .inl (cN_75, 2, .inl nf_76)), (ot_68, .inl (cO_77, 2, .inl (fun _ => 0))), (q_95, .inr (1, fo_97))]) (w1 := [(q_101, .inr (1, fo_103))]) hP hD [20] [0, 1, 2, 3, 4, 5, 6, 7, 8, 9, 10, 11, 12, 13, 14, 15, 16, 17, 18, 19] rfl rfl (by decide) (by decide) hk1 hFc hP1 hD1
  generalize H1 = H at hP hS ⊢
  have hP : va_P (dC, dI) vwCl [(h0, .inr (7, fs_93)), (q_1, .inl (cA_2, 1600, .inl (fun _ => 0))), (q_4, .inr (4, fo_6)), (dsh_7, .inr (5, dfo_8)), (dsc_9, .inl (dcS_13, 5, .inl (fun _ => 0))), (dlw_10, .inr (3, dlf_14)), (dlc_15, .inl (dcc1_17, 600, .inl (fun _ => 0))), (dlb_16, .inl (dcb1_18, 6, .inl (fun _ => 0))), (don_11, .inl (dcN_19, 2, .inl dnf_20)), (dot_12, .inl (dcO_21, 2, .inl (fun _ => 0))), (q_44, .inr (2, fo_46)), (q_50, .inl (cA_51, 3, .inr (.inr (.inr (.inr (va_up (fun _ => none) (0 : Int32).toNatClampNeg (some q_95))))))), (q_62, .inr (5, fo_64)), (sc_65, .inl (cS_69, 5, .inl (fun _ => 0))), (lw_66, .inr (3, lf_70)), (lc_71, .inl (cc1_73, 600, .inl (fun _ => 0))), (lb_72, .inl (cb1_74, 6, .inl (fun _ => 0))), (on_67, .inl (cN_75, 2, .inl nf_76)), (ot_68, .inl (cO_77, 2, .inl (fun _ => 0))), (q_95, .inr (1, fo_97)), (q_101, .inr (1, fo_103))] H := hP
  have hD : va_D A [(h0, .inr (7, fs_93)), (q_1, .inl (cA_2, 1600, .inl (fun _ => 0))), (q_4, .inr (4, fo_6)), (dsh_7, .inr (5, dfo_8)), (dsc_9, .inl (dcS_13, 5, .inl (fun _ => 0))), (dlw_10, .inr (3, dlf_14)), (dlc_15, .inl (dcc1_17, 600, .inl (fun _ => 0))), (dlb_16, .inl (dcb1_18, 6, .inl (fun _ => 0))), (don_11, .inl (dcN_19, 2, .inl dnf_20)), (dot_12, .inl (dcO_21, 2, .inl (fun _ => 0))), (q_44, .inr (2, fo_46)), (q_50, .inl (cA_51, 3, .inr (.inr (.inr (.inr (va_up (fun _ => none) (0 : Int32).toNatClampNeg (some q_95))))))), (q_62, .inr (5, fo_64)), (sc_65, .inl (cS_69, 5, .inl (fun _ => 0))), (lw_66, .inr (3, lf_70)), (lc_71, .inl (cc1_73, 600, .inl (fun _ => 0))), (lb_72, .inl (cb1_74, 6, .inl (fun _ => 0))), (on_67, .inl (cN_75, 2, .inl nf_76)), (ot_68, .inl (cO_77, 2, .inl (fun _ => 0))), (q_95, .inr (1, fo_97)), (q_101, .inr (1, fo_103))] := hD
  refine W.widen (k := 97) (n := 3770) (by decide) (by decide) ?_
  try dsimp only at hw
  refine va_astq hx hb hK hP hD hS 11 6 20 1 rfl rfl rfl rfl (p1_in (i := 1) (n := 3) (by decide)) dX8_init_139 (fun H locs hP hD hS => ?_)
  have hP : va_P (dC, dI) vwCl [(h0, .inr (7, fs_93)), (q_1, .inl (cA_2, 1600, .inl (fun _ => 0))), (q_4, .inr (4, fo_6)), (dsh_7, .inr (5, dfo_8)), (dsc_9, .inl (dcS_13, 5, .inl (fun _ => 0))), (dlw_10, .inr (3, dlf_14)), (dlc_15, .inl (dcc1_17, 600, .inl (fun _ => 0))), (dlb_16, .inl (dcb1_18, 6, .inl (fun _ => 0))), (don_11, .inl (dcN_19, 2, .inl dnf_20)), (dot_12, .inl (dcO_21, 2, .inl (fun _ => 0))), (q_44, .inr (2, fo_46)), (q_50, .inl (cA_51, 3, .inr (.inr (.inr (.inr (va_up (va_up (fun _ => none) (0 : Int32).toNatClampNeg (some q_95)) (1 : Int32).toNatClampNeg (some q_101))))))), (q_62, .inr (5, fo_64)), (sc_65, .inl (cS_69, 5, .inl (fun _ => 0))), (lw_66, .inr (3, lf_70)), (lc_71, .inl (cc1_73, 600, .inl (fun _ => 0))), (lb_72, .inl (cb1_74, 6, .inl (fun _ => 0))), (on_67, .inl (cN_75, 2, .inl nf_76)), (ot_68, .inl (cO_77, 2, .inl (fun _ => 0))), (q_95, .inr (1, fo_97)), (q_101, .inr (1, fo_103))] H := hP
  have hD : va_D A [(h0, .inr (7, fs_93)), (q_1, .inl (cA_2, 1600, .inl (fun _ => 0))), (q_4, .inr (4, fo_6)), (dsh_7, .inr (5, dfo_8)), (dsc_9, .inl (dcS_13, 5, .inl (fun _ => 0))), (dlw_10, .inr (3, dlf_14)), (dlc_15, .inl (dcc1_17, 600, .inl (fun _ => 0))), (dlb_16, .inl (dcb1_18, 6, .inl (fun _ => 0))), (don_11, .inl (dcN_19, 2, .inl dnf_20)), (dot_12, .inl (dcO_21, 2, .inl (fun _ => 0))), (q_44, .inr (2, fo_46)), (q_50, .inl (cA_51, 3, .inr (.inr (.inr (.inr (va_up (va_up (fun _ => none) (0 : Int32).toNatClampNeg (some q_95)) (1 : Int32).toNatClampNeg (some q_101))))))), (q_62, .inr (5, fo_64)), (sc_65, .inl (cS_69, 5, .inl (fun _ => 0))), (lw_66, .inr (3, lf_70)), (lc_71, .inl (cc1_73, 600, .inl (fun _ => 0))), (lb_72, .inl (cb1_74, 6, .inl (fun _ => 0))), (on_67, .inl (cN_75, 2, .inl nf_76)), (ot_68, .inl (cO_77, 2, .inl (fun _ => 0))), (q_95, .inr (1, fo_97)), (q_101, .inr (1, fo_103))] := hD
  refine lv_iinc (v := 2) (lv' := [(1, .int 2), (0, .ref h0)]) hx hb dX8_init_140 hl (k := 0) rfl (by decide) (by decide) rfl (fun ls hl => ?_)
  refine lv_goto (tgt := 122) hx hb dX8_init_143 (by decide) ?_
  refine lv_iload_n hx hb dX8_init_122 rfl (lv_at hl 0 rfl) ?_
  refine lv_iconst (v := 3) hx hb dX8_init_123 (by decide) ?_
  refine lv_icmp_ge (tgt := 146) hx hb dX8_init_124 (by decide) (fun c9 => absurd c9 (by decide)) (fun _ => ?_)
  refine lv_aload_n hx hb dX8_init_127 rfl (lv_at hl 1 rfl) ?_
  refine va_get (D := (dC, dI)) (ci := 7) (v := .ref q_50) (C := RX8) (T := TX8) (N := 14) hx hb hts i_X8 hown hK hP 0 rfl rfl 5 (by decide) k_27 (fun _ h9 => h9) ffs_93_5 dX8_init_128 ?_
  refine lv_iload_n hx hb dX8_init_131 rfl (lv_at hl 0 rfl) ?_
  refine va_new (ci := 1) (fs := [.null, .int 0, .int 0]) (C := RX1) (T := TX1) (N := 3) hx hb hts i_X1 tyX1 tyX1_ok hown k_26 k_41 k_42 hK hP hD hS hA rfl (by decide) (by decide) (by decide) dX8_init_132 (fun q_107 H hP hD hS => ?_)
  have hP : va_P (dC, dI) vwCl [(h0, .inr (7, fs_93)), (q_1, .inl (cA_2, 1600, .inl (fun _ => 0))), (q_4, .inr (4, fo_6)), (dsh_7, .inr (5, dfo_8)), (dsc_9, .inl (dcS_13, 5, .inl (fun _ => 0))), (dlw_10, .inr (3, dlf_14)), (dlc_15, .inl (dcc1_17, 600, .inl (fun _ => 0))), (dlb_16, .inl (dcb1_18, 6, .inl (fun _ => 0))), (don_11, .inl (dcN_19, 2, .inl dnf_20)), (dot_12, .inl (dcO_21, 2, .inl (fun _ => 0))), (q_44, .inr (2, fo_46)), (q_50, .inl (cA_51, 3, .inr (.inr (.inr (.inr (va_up (va_up (fun _ => none) (0 : Int32).toNatClampNeg (some q_95)) (1 : Int32).toNatClampNeg (some q_101))))))), (q_62, .inr (5, fo_64)), (sc_65, .inl (cS_69, 5, .inl (fun _ => 0))), (lw_66, .inr (3, lf_70)), (lc_71, .inl (cc1_73, 600, .inl (fun _ => 0))), (lb_72, .inl (cb1_74, 6, .inl (fun _ => 0))), (on_67, .inl (cN_75, 2, .inl nf_76)), (ot_68, .inl (cO_77, 2, .inl (fun _ => 0))), (q_95, .inr (1, fo_97)), (q_101, .inr (1, fo_103)), (q_107, .inr (1, [.null, .int 0, .int 0]))] H := hP
  have hD : va_D A [(h0, .inr (7, fs_93)), (q_1, .inl (cA_2, 1600, .inl (fun _ => 0))), (q_4, .inr (4, fo_6)), (dsh_7, .inr (5, dfo_8)), (dsc_9, .inl (dcS_13, 5, .inl (fun _ => 0))), (dlw_10, .inr (3, dlf_14)), (dlc_15, .inl (dcc1_17, 600, .inl (fun _ => 0))), (dlb_16, .inl (dcb1_18, 6, .inl (fun _ => 0))), (don_11, .inl (dcN_19, 2, .inl dnf_20)), (dot_12, .inl (dcO_21, 2, .inl (fun _ => 0))), (q_44, .inr (2, fo_46)), (q_50, .inl (cA_51, 3, .inr (.inr (.inr (.inr (va_up (va_up (fun _ => none) (0 : Int32).toNatClampNeg (some q_95)) (1 : Int32).toNatClampNeg (some q_101))))))), (q_62, .inr (5, fo_64)), (sc_65, .inl (cS_69, 5, .inl (fun _ => 0))), (lw_66, .inr (3, lf_70)), (lc_71, .inl (cc1_73, 600, .inl (fun _ => 0))), (lb_72, .inl (cb1_74, 6, .inl (fun _ => 0))), (on_67, .inl (cN_75, 2, .inl nf_76)), (ot_68, .inl (cO_77, 2, .inl (fun _ => 0))), (q_95, .inr (1, fo_97)), (q_101, .inr (1, fo_103)), (q_107, .inr (1, [.null, .int 0, .int 0]))] := hD
  refine W.widen (k := 98) (n := 3773) (by decide) (by decide) ?_
  refine lv_dup hx hb dX8_init_135 rfl ?_
  have hPc := hP.sub (ws' := [(q_107, .inr (1, [.null, .int 0, .int 0]))]) [21] rfl
  have hDc := hD.sub (ws' := [(q_107, .inr (1, [.null, .int 0, .int 0]))]) [21] (by decide) rfl
  have hKc := hK.sub (tys' := []) [] rfl
  have hFc := va_free (wc := [(q_107, .inr (1, [.null, .int 0, .int 0]))]) hD hS hA [21] rfl
  refine va_callv (va_runIN (As := []) (rest := [.ref q_107, .int 2, .ref q_50]) ⟨hx, hb, hml, hown, hts⟩ (n_Box l dC dI H.size q_107 ([.null, .int 0, .int 0]) ((show [.null, .int 0, .int 0].length = 3 from rfl))) ⟨va_cnB 0 hts (goodIn_sub g_n_Box gz_n_Box) rfl rfl rfl n8 k_42 (by decide +kernel) ⟨by decide, by decide⟩, rfl, k_43⟩ ⟨fun a U g mk q => by obtain ⟨q0, q1, qP, qK, qD, qE⟩ := q; exact ⟨q0, q1, qP, va_K.moved (u := U) (U := U.calling g mk a) (Vm.Alike.refl U.vm) qK, qD, qE⟩, fun U hU hW => ⟨rfl, by rw [hU], by rw [hU]; exact hPc, va_K.moved hW.alike hKc, hDc.weaken (fun _ _ _ _ => trivial), by rw [hU]; exact p1_ex.warm hE hW hS (fun q h => hFc q h)⟩⟩ rfl rfl hl.1 rfl (lv_room (Nat.le_of_ble_eq_true rfl)) dX8_init_136 ⟨by decide, by decide⟩) hS (fun q _ h => hFc q h) hFc (fun u t H1 locs ht hvm hw hB hz1 hk1 hS => ?_)
  obtain ⟨fo_109, z_110, z_111, hP1, hK1, hD1⟩ := hB
  rw [ht] at hP1
  obtain ⟨hP, hD⟩ := va_join (wr := [(h0, .inr (7, fs_93)), (q_1, .inl (cA_2, 1600, .inl (fun _ => 0))), (q_4, .inr (4, fo_6)), (dsh_7, .inr (5, dfo_8)), (dsc_9, .inl (dcS_13, 5, .inl (fun _ => 0))), (dlw_10, .inr (3, dlf_14)), (dlc_15, .inl (dcc1_17, 600, .inl (fun _ => 0))), (dlb_16, .inl (dcb1_18, 6, .inl (fun _ => 0))), (don_11, .inl (dcN_19, 2, .inl dnf_20)), (dot_12, .inl (dcO_21, 2, .inl (fun _ => 0))), (q_44, .inr (2, fo_46)), (q_50, .inl (cA_51, 3, .inr (.inr (.inr (.inr (va_up (va_up (fun _ => none) (0 : Int32).toNatClampNeg (some q_95)) (1 : Int32).toNatClampNeg (some q_101))))))), (q_62, .inr (5, fo_64)), (sc_65, .inl (cS_69, 5, .inl (fun _ => 0))), (lw_66, .inr (3, lf_70)), (lc_71, .inl (cc1_73, 600, .inl (fun _ => 0))), (lb_72, .inl (cb1_74, 6, .inl (fun _ => 0))), (on_67, .inl (cN_75, 2, .inl nf_76)), (ot_68, .inl (cO_77, 2, .inl (fun _ => 0))), (q_95, .inr (1, fo_97)), (q_101, .inr (1, fo_103))]) (w1 := [(q_107, .inr (1, fo_109))]) hP hD [21] [0, 1, 2, 3, 4, 5, 6, 7, 8, 9, 10, 11, 12, 13, 14, 15, 16, 17, 18, 19, 20] rfl rfl (by decide) (by decide) hk1 hFc hP1 hD1
  generalize H1 = H at hP hS ⊢
  have hP : va_P (dC, dI) vwCl [(h0, .inr (7, fs_93)), (q_1, .inl (cA_2, 1600, .inl (fun _ => 0))), (q_4, .inr (4, fo_6)), (dsh_7, .inr (5, dfo_8)), (dsc_9, .inl (dcS_13, 5, .inl (fun _ => 0))), (dlw_10, .inr (3, dlf_14)), (dlc_15, .inl (dcc1_17, 600, .inl (fun _ => 0))), (dlb_16, .inl (dcb1_18, 6, .inl (fun _ => 0))), (don_11, .inl (dcN_19, 2, .inl dnf_20)), (dot_12, .inl (dcO_21, 2, .inl (fun _ => 0))), (q_44, .inr (2, fo_46)), (q_50, .inl (cA_51, 3, .inr (.inr (.inr (.inr (va_up (va_up (fun _ => none) (0 : Int32).toNatClampNeg (some q_95)) (1 : Int32).toNatClampNeg (some q_101))))))), (q_62, .inr (5, fo_64)), (sc_65, .inl (cS_69, 5, .inl (fun _ => 0))), (lw_66, .inr (3, lf_70)), (lc_71, .inl (cc1_73, 600, .inl (fun _ => 0))), (lb_72, .inl (cb1_74, 6, .inl (fun _ => 0))), (on_67, .inl (cN_75, 2, .inl nf_76)), (ot_68, .inl (cO_77, 2, .inl (fun _ => 0))), (q_95, .inr (1, fo_97)), (q_101, .inr (1, fo_103)), (q_107, .inr (1, fo_109))] H := hP
  have hD : va_D A [(h0, .inr (7, fs_93)), (q_1, .inl (cA_2, 1600, .inl (fun _ => 0))), (q_4, .inr (4, fo_6)), (dsh_7, .inr (5, dfo_8)), (dsc_9, .inl (dcS_13, 5, .inl (fun _ => 0))), (dlw_10, .inr (3, dlf_14)), (dlc_15, .inl (dcc1_17, 600, .inl (fun _ => 0))), (dlb_16, .inl (dcb1_18, 6, .inl (fun _ => 0))), (don_11, .inl (dcN_19, 2, .inl dnf_20)), (dot_12, .inl (dcO_21, 2, .inl (fun _ => 0))), (q_44, .inr (2, fo_46)), (q_50, .inl (cA_51, 3, .inr (.inr (.inr (.inr (va_up (va_up (fun _ => none) (0 : Int32).toNatClampNeg (some q_95)) (1 : Int32).toNatClampNeg (some q_101))))))), (q_62, .inr (5, fo_64)), (sc_65, .inl (cS_69, 5, .inl (fun _ => 0))), (lw_66, .inr (3, lf_70)), (lc_71, .inl (cc1_73, 600, .inl (fun _ => 0))), (lb_72, .inl (cb1_74, 6, .inl (fun _ => 0))), (on_67, .inl (cN_75, 2, .inl nf_76)), (ot_68, .inl (cO_77, 2, .inl (fun _ => 0))), (q_95, .inr (1, fo_97)), (q_101, .inr (1, fo_103)), (q_107, .inr (1, fo_109))] := hD
  refine W.widen (k := 101) (n := 3802) (by decide) (by decide) ?_
  try dsimp only at hw
  refine va_astq hx hb hK hP hD hS 11 6 21 1 rfl rfl rfl rfl (p1_in (i := 2) (n := 3) (by decide)) dX8_init_139 (fun H locs hP hD hS => ?_)
  have hP : va_P (dC, dI) vwCl [(h0, .inr (7, fs_93)), (q_1, .inl (cA_2, 1600, .inl (fun _ => 0))), (q_4, .inr (4, fo_6)), (dsh_7, .inr (5, dfo_8)), (dsc_9, .inl (dcS_13, 5, .inl (fun _ => 0))), (dlw_10, .inr (3, dlf_14)), (dlc_15, .inl (dcc1_17, 600, .inl (fun _ => 0))), (dlb_16, .inl (dcb1_18, 6, .inl (fun _ => 0))), (don_11, .inl (dcN_19, 2, .inl dnf_20)), (dot_12, .inl (dcO_21, 2, .inl (fun _ => 0))), (q_44, .inr (2, fo_46)), (q_50, .inl (cA_51, 3, .inr (.inr (.inr (.inr (va_up (va_up (va_up (fun _ => none) (0 : Int32).toNatClampNeg (some q_95)) (1 : Int32).toNatClampNeg (some q_101)) (2 : Int32).toNatClampNeg (some q_107))))))), (q_62, .inr (5, fo_64)), (sc_65, .inl (cS_69, 5, .inl (fun _ => 0))), (lw_66, .inr (3, lf_70)), (lc_71, .inl (cc1_73, 600, .inl (fun _ => 0))), (lb_72, .inl (cb1_74, 6, .inl (fun _ => 0))), (on_67, .inl (cN_75, 2, .inl nf_76)), (ot_68, .inl (cO_77, 2, .inl (fun _ => 0))), (q_95, .inr (1, fo_97)), (q_101, .inr (1, fo_103)), (q_107, .inr (1, fo_109))] H := hP
  have hD : va_D A [(h0, .inr (7, fs_93)), (q_1, .inl (cA_2, 1600, .inl (fun _ => 0))), (q_4, .inr (4, fo_6)), (dsh_7, .inr (5, dfo_8)), (dsc_9, .inl (dcS_13, 5, .inl (fun _ => 0))), (dlw_10, .inr (3, dlf_14)), (dlc_15, .inl (dcc1_17, 600, .inl (fun _ => 0))), (dlb_16, .inl (dcb1_18, 6, .inl (fun _ => 0))), (don_11, .inl (dcN_19, 2, .inl dnf_20)), (dot_12, .inl (dcO_21, 2, .inl (fun _ => 0))), (q_44, .inr (2, fo_46)), (q_50, .inl (cA_51, 3, .inr (.inr (.inr (.inr (va_up (va_up (va_up (fun _ => none) (0 : Int32).toNatClampNeg (some q_95)) (1 : Int32).toNatClampNeg (some q_101)) (2 : Int32).toNatClampNeg (some q_107))))))), (q_62, .inr (5, fo_64)), (sc_65, .inl (cS_69, 5, .inl (fun _ => 0))), (lw_66, .inr (3, lf_70)), (lc_71, .inl (cc1_73, 600, .inl (fun _ => 0))), (lb_72, .inl (cb1_74, 6, .inl (fun _ => 0))), (on_67, .inl (cN_75, 2, .inl nf_76)), (ot_68, .inl (cO_77, 2, .inl (fun _ => 0))), (q_95, .inr (1, fo_97)), (q_101, .inr (1, fo_103)), (q_107, .inr (1, fo_109))] := hD
  refine lv_iinc (v := 3) (lv' := [(1, .int 3), (0, .ref h0)]) hx hb dX8_init_140 hl (k := 0) rfl (by decide) (by decide) rfl (fun ls hl => ?_)
  refine lv_goto (tgt := 122) hx hb dX8_init_143 (by decide) ?_
  refine lv_iload_n hx hb dX8_init_122 rfl (lv_at hl 0 rfl) ?_
  refine lv_iconst (v := 3) hx hb dX8_init_123 (by decide) ?_
  refine lv_icmp_ge (tgt := 146) hx hb dX8_init_124 (by decide) (fun _ => ?_) (fun c9 => absurd c9 (by decide))
  have hP9 := hP.sub (ws' := [(h0, .inr (7, fs_93)), (q_1, .inl (cA_2, 1600, .inl (fun _ => 0))), (q_4, .inr (4, fo_6)), (dsh_7, .inr (5, dfo_8)), (dsc_9, .inl (dcS_13, 5, .inl (fun _ => 0))), (dlw_10, .inr (3, dlf_14)), (dlc_15, .inl (dcc1_17, 600, .inl (fun _ => 0))), (dlb_16, .inl (dcb1_18, 6, .inl (fun _ => 0))), (don_11, .inl (dcN_19, 2, .inl dnf_20)), (dot_12, .inl (dcO_21, 2, .inl (fun _ => 0))), (q_44, .inr (2, fo_46)), (q_62, .inr (5, fo_64)), (sc_65, .inl (cS_69, 5, .inl (fun _ => 0))), (lw_66, .inr (3, lf_70)), (q_50, .inl (cA_51, 3, .inr (.inr (.inr (.inr (va_up (va_up (va_up (fun _ => none) (0 : Int32).toNatClampNeg (some q_95)) (1 : Int32).toNatClampNeg (some q_101)) (2 : Int32).toNatClampNeg (some q_107))))))), (q_95, .inr (1, fo_97)), (q_101, .inr (1, fo_103)), (q_107, .inr (1, fo_109))]) [0, 1, 2, 3, 4, 5, 6, 7, 8, 9, 10, 12, 13, 14, 11, 19, 20, 21] rfl
  have hD9 := hD.sub (ws' := [(h0, .inr (7, fs_93)), (q_1, .inl (cA_2, 1600, .inl (fun _ => 0))), (q_4, .inr (4, fo_6)), (dsh_7, .inr (5, dfo_8)), (dsc_9, .inl (dcS_13, 5, .inl (fun _ => 0))), (dlw_10, .inr (3, dlf_14)), (dlc_15, .inl (dcc1_17, 600, .inl (fun _ => 0))), (dlb_16, .inl (dcb1_18, 6, .inl (fun _ => 0))), (don_11, .inl (dcN_19, 2, .inl dnf_20)), (dot_12, .inl (dcO_21, 2, .inl (fun _ => 0))), (q_44, .inr (2, fo_46)), (q_62, .inr (5, fo_64)), (sc_65, .inl (cS_69, 5, .inl (fun _ => 0))), (lw_66, .inr (3, lf_70)), (q_50, .inl (cA_51, 3, .inr (.inr (.inr (.inr (va_up (va_up (va_up (fun _ => none) (0 : Int32).toNatClampNeg (some q_95)) (1 : Int32).toNatClampNeg (some q_101)) (2 : Int32).toNatClampNeg (some q_107))))))), (q_95, .inr (1, fo_97)), (q_101, .inr (1, fo_103)), (q_107, .inr (1, fo_109))]) [0, 1, 2, 3, 4, 5, 6, 7, 8, 9, 10, 12, 13, 14, 11, 19, 20, 21] (by decide) rfl
  have hK9 := hK.sub (tys' := [(cA_2, .byte), (dcS_13, .int), (dcc1_17, .int), (dcb1_18, .int), (dcN_19, .int), (dcO_21, .boolean), (cS_69, .int), (cA_51, .object RX1)]) [0, 1, 2, 3, 4, 5, 7, 6] rfl
  exact W.vret hx hb hr (fun t ht hW => ⟨⟨(), rfl, trivial, fs_93, q_1, q_4, q_44, q_50, q_62, cA_2, fo_6, dsh_7, dfo_8, dsc_9, dlw_10, don_11, dot_12, dcS_13, dlf_14, dlc_15, dlb_16, dcc1_17, dcb1_18, dcN_19, dnf_20, dcO_21, fo_46, fo_64, sc_65, lw_66, cS_69, lf_70, cA_51, q_95, fo_97, q_101, fo_103, q_107, fo_109, lfs_93, ffs_93_0, ffs_93_1, ffs_93_4, ffs_93_5, ffs_93_9, ffs_93_10, ffs_93_11, ffs_93_12, ffs_93_13, z_22, z_23, z_24, z_25, z_26, z_27, z_28, z_29, z_30, z_31, z_32, z_33, z_34, z_35, z_36, z_47, z_48, z_79, z_80, z_88, z_98, z_99, z_104, z_105, z_110, z_111, by rw [ht]; exact hP9, va_K.moved hW.alike hK9, hD9⟩, hS.F ht⟩) hS.2.2 dX8_init_146
