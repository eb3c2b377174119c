def zo_d_likeBits : List Cond := [.code yX0_likeBits cX0_likeBits 3 (some .int)]
def zw_d_likeBits : List Cond := zo_d_likeBits ++ []
theorem gz_d_likeBits : zw_d_likeBits.all goodWord = true := p1_ga (by decide +kernel) p1_g0
theorem iz_d_likeBits : ∀ w ∈ zw_d_likeBits, w ∈ lw_tbl := p1_ia (p1_all [720] (by decide +kernel)) p1_i0
set_option maxHeartbeats 4000000 in
set_option maxRecDepth 100000 in
theorem d_likeBits (l : Launch) (dC : Nat → ClassId) (dI : Nat → Nat → Nat) (sz : Nat) (a1 : Int32) (a2 : Int32) : Met l yX0_likeBits zw_d_likeBits ({ frames := 0, cells := 0, slots := 0, locals := 0 }) (va_Pc [.int a1, .int a2] (fun U => U.heap.size = sz ∧ va_P (dC, dI) vwCl [] U.heap ∧ va_K (dC, dI) vwCl [] U ∧ va_D (fun _ => True) [])) (va_Qi (fun (r : Int32) (_ : Unit) => True) (fun _ t => va_P (dC, dI) vwCl [] t.heap ∧ va_K (dC, dI) vwCl [] t ∧ va_D (va_A [] sz) []) (va_A [] sz)) 0 0 (va_A [] sz) := by
  refine Met.ofW (cc := cX0_likeBits) (maxL := 3) (ret := (some .int)) (by decide) rfl ?_
  intro p e s m args below meth c s₁ B hml hv
  obtain ⟨rfl, hsz, hP, hK, hD0⟩ := hv
  have hx := B.exec
  have hb := B.bytes
  have hr := B.returns
  have hts := atoms_spec (ws := zw_d_likeBits) B.pre
  have hown : s.vm.findClass RX0 = some m.cls := findClass_of_methodNamed B.named
  have hlocks := B.notSynchronized
  subst hsz
  have hD := hD0.self (sz := s.heap.size)
  generalize hAe : va_A [] s.heap.size = A at hD ⊢
  have hA : ∀ q : Nat, s.heap.size ≤ q → A q := fun q h => by rw [← hAe]; exact Or.inr h
  have hS : va_S A s.heap s.heap [] := va_S.rf
  have hP : va_P (dC, dI) vwCl [] s.heap := hP
  have lt_m1 : ((-1) : Int32).toInt = -1 := by decide
  have lt_1 : (1 : Int32).toInt = 1 := by decide
  have lt_2 : (2 : Int32).toInt = 2 := by decide
  have hl := lv_entry ([.int a1, .int a2]) (n := 3) (Nat.le_of_ble_eq_true rfl)
  rw [lg_entry_eq]
  generalize (lg_sl ([.int a1, .int a2]) ++ List.replicate (3 - (lg_sl ([.int a1, .int a2])).length) Slot.unset).toArray = ls at hl ⊢
  have hl : lv_has ls 3 [(0, .int a1), (1, .int a2)] := hl
  refine lv_iconst (v := 1) hx hb dX0_likeBits_0 (by decide) ?_
  refine lv_iload_n hx hb dX0_likeBits_1 rfl (lv_at hl 0 rfl) ?_
  refine lv_ishl hx hb dX0_likeBits_2 ?_
  refine lv_topi (fun v_1 ev_1 => ?_)
  refine lv_iconst (v := 2) hx hb dX0_likeBits_3 (by decide) ?_
  refine lv_isub hx hb dX0_likeBits_4 ?_
  refine lv_topi (fun v_2 ev_2 => ?_)
  try have tv_2 := q_sub ev_2 (by omega) (by omega)
  refine lv_istore_n (lv' := [(2, .int v_2), (0, .int a1), (1, .int a2)]) hx hb dX0_likeBits_5 rfl hl (by decide) rfl (fun ls hl => ?_)
  refine lv_iload_n hx hb dX0_likeBits_6 rfl (lv_at hl 2 rfl) ?_
  refine lv_iload_n hx hb dX0_likeBits_7 rfl (lv_at hl 2 rfl) ?_
  refine lv_iconst (v := 1) hx hb dX0_likeBits_8 (by decide) ?_
  refine lv_ishl hx hb dX0_likeBits_9 ?_
  refine lv_topi (fun v_3 ev_3 => ?_)
  refine lv_ixor hx hb dX0_likeBits_10 ?_
  refine lv_topi (fun v_4 ev_4 => ?_)
  refine lv_iconst (v := (-1)) hx hb dX0_likeBits_11 (by decide) ?_
  refine lv_ixor hx hb dX0_likeBits_12 ?_
  refine lv_topi (fun v_5 ev_5 => ?_)
  refine lv_iload_n hx hb dX0_likeBits_13 rfl (lv_at hl 0 rfl) ?_
  refine lv_iand hx hb dX0_likeBits_14 ?_
  refine lv_topi (fun v_6 ev_6 => ?_)
  have hP9 := hP.sub (ws' := []) [] rfl
  have hD9 := hD.sub (ws' := []) [] (by decide) rfl
  have hK9 := hK.sub (tys' := []) [] rfl
  exact W.iret (v := v_6) hx hb hr (fun t ht hW => ⟨⟨v_6, (), rfl, trivial, by rw [ht]; exact hP9, va_K.moved hW.alike hK9, hD9⟩, hS.F ht⟩) hS.2.2 dX0_likeBits_15
def zo_d_takeKnot : List Cond := [.code yX0_takeKnot cX0_takeKnot 3 none, .methodLink RX0 60 Lib.Math.min.name, .static Lib.Math.min.name, .initialized "java/lang/Math", .code Lib.Math.min.name Lib.Math.min.code 2 (some .int), .fieldLink RX0 20 "BowWalk$Bow" "crossings" "I", .fieldLink RX0 39 "BowWalk$Bow" "sides" "I", .methodLink RX0 66 yX0_likeBits, .static yX0_likeBits, .initialized RX0, .fieldLink RX0 42 "BowWalk$Bow" "likes" "I"]
def zw_d_takeKnot : List Cond := zo_d_takeKnot ++ (zw_d_likeBits ++ (wsX00 ++ []))
theorem gz_d_takeKnot : zw_d_takeKnot.all goodWord = true := p1_ga (by decide +kernel) (p1_ga gz_d_likeBits (p1_ga gk_X0 p1_g0))
theorem iz_d_takeKnot : ∀ w ∈ zw_d_takeKnot, w ∈ lw_tbl := p1_ia (p1_all [734, 735, 563, 117, 564, 355, 368, 736, 719, 112, 369] (by decide +kernel)) (p1_ia iz_d_likeBits (p1_ia ik_X0 p1_i0))
set_option maxHeartbeats 4000000 in
set_option maxRecDepth 100000 in
theorem d_takeKnot (l : Launch) (dC : Nat → ClassId) (dI : Nat → Nat → Nat) (sz : Nat) (bw : Nat) (bf : List Value) (tg : Nat) (en : Nat) (bcrossings : Int32) (bleft : Int32) (bsteps : Int32) (bslipped : Int32) (bwalk : Int32) (bnextStep : Int32) (bsides : Int32) (blikes : Int32) (bsmooth : Int32) (bweight : Int32) (blength : Int32) (bstrike : Int32) (bswing : Int32) (a1 : Int32) (a2 : Int32) (f_bf_0 : bf[0]? = some (.ref tg)) (f_bf_1 : bf[1]? = some (.ref en)) (f_bf_2 : bf[2]? = some (.int bcrossings)) (f_bf_3 : bf[3]? = some (.int bleft)) (f_bf_4 : bf[4]? = some (.int bsteps)) (f_bf_5 : bf[5]? = some (.int bslipped)) (f_bf_6 : bf[6]? = some (.int bwalk)) (f_bf_7 : bf[7]? = some (.int bnextStep)) (f_bf_8 : bf[8]? = some (.int bsides)) (f_bf_9 : bf[9]? = some (.int blikes)) (f_bf_10 : bf[10]? = some (.int bsmooth)) (f_bf_11 : bf[11]? = some (.int bweight)) (f_bf_12 : bf[12]? = some (.int blength)) (f_bf_13 : bf[13]? = some (.int bstrike)) (f_bf_14 : bf[14]? = some (.int bswing)) (l_bf : bf.length = 15) (h1 : 0 ≤ a1.toInt) : Met l yX0_takeKnot zw_d_takeKnot ({ frames := 1, cells := 0, slots := 0, locals := 22 }) (va_Pc [.ref bw, .int a1, .int a2] (fun U => U.heap.size = sz ∧ va_P (dC, dI) vwCl [(bw, .inr (0, bf))] U.heap ∧ va_K (dC, dI) vwCl [] U ∧ va_D (fun _ => True) [(bw, .inr (0, bf))])) (va_Qv (fun (_ : Unit) => True) (fun _ t => ∃ (bg : List Value) (oc : Int32) (os : Int32) (ol : Int32), bg.length = 15 ∧ bg[0]? = some (.ref tg) ∧ bg[1]? = some (.ref en) ∧ bg[2]? = some (.int oc) ∧ bg[3]? = some (.int bleft) ∧ bg[4]? = some (.int bsteps) ∧ bg[5]? = some (.int bslipped) ∧ bg[6]? = some (.int bwalk) ∧ bg[7]? = some (.int bnextStep) ∧ bg[8]? = some (.int os) ∧ bg[9]? = some (.int ol) ∧ bg[10]? = some (.int bsmooth) ∧ bg[11]? = some (.int bweight) ∧ bg[12]? = some (.int blength) ∧ bg[13]? = some (.int bstrike) ∧ bg[14]? = some (.int bswing) ∧ (0 ≤ oc.toInt ∧ oc.toInt ≤ 12) ∧ va_P (dC, dI) vwCl [(bw, .inr (0, bg))] t.heap ∧ va_K (dC, dI) vwCl [] t ∧ va_D (va_A [(bw, .inr (0, bf))] sz) [(bw, .inr (0, bg))]) (va_A [(bw, .inr (0, bf))] sz)) 0 0 (va_A [(bw, .inr (0, bf))] sz) := by
  refine Met.ofW (cc := cX0_takeKnot) (maxL := 3) (ret := none) (by decide) rfl ?_
  intro p e s m args below meth c s₁ B hml hv
  obtain ⟨rfl, hsz, hP, hK, hD0⟩ := hv
  have hx := B.exec
  have hb := B.bytes
  have hr := B.returns
  have hts := atoms_spec (ws := zw_d_takeKnot) B.pre
  have hown : s.vm.findClass RX0 = some m.cls := findClass_of_methodNamed B.named
  have hlocks := B.notSynchronized
  subst hsz
  have hD := hD0.self (sz := s.heap.size)
  generalize hAe : va_A [(bw, .inr (0, bf))] s.heap.size = A at hD ⊢
  have hA : ∀ q : Nat, s.heap.size ≤ q → A q := fun q h => by rw [← hAe]; exact Or.inr h
  have hS : va_S A s.heap s.heap [] := va_S.rf
  have hP : va_P (dC, dI) vwCl [(bw, .inr (0, bf))] s.heap := hP
  have m_0 : (.methodLink RX0 60 Lib.Math.min.name : Cond) ∈ zw_d_takeKnot := List.mem_append_left _ (List.mem_of_getElem? (i := 1) rfl)
  have k_0 := hts _ m_0
  have m_1 : (.static Lib.Math.min.name : Cond) ∈ zw_d_takeKnot := List.mem_append_left _ (List.mem_of_getElem? (i := 2) rfl)
  have k_1 := hts _ m_1
  have m_2 : (.initialized "java/lang/Math" : Cond) ∈ zw_d_takeKnot := List.mem_append_left _ (List.mem_of_getElem? (i := 3) rfl)
  have k_2 := hts _ m_2
  have m_3 : (.code Lib.Math.min.name Lib.Math.min.code 2 (some .int) : Cond) ∈ zw_d_takeKnot := List.mem_append_left _ (List.mem_of_getElem? (i := 4) rfl)
  have k_3 := hts _ m_3
  have m_4 : (.fieldLink RX0 20 "BowWalk$Bow" "crossings" "I" : Cond) ∈ zw_d_takeKnot := List.mem_append_left _ (List.mem_of_getElem? (i := 5) rfl)
  have k_4 := hts _ m_4
  have m_5 : (.fieldLink RX0 39 "BowWalk$Bow" "sides" "I" : Cond) ∈ zw_d_takeKnot := List.mem_append_left _ (List.mem_of_getElem? (i := 6) rfl)
  have k_5 := hts _ m_5
  have m_6 : (.methodLink RX0 66 yX0_likeBits : Cond) ∈ zw_d_takeKnot := List.mem_append_left _ (List.mem_of_getElem? (i := 7) rfl)
  have k_6 := hts _ m_6
  have m_7 : (.static yX0_likeBits : Cond) ∈ zw_d_takeKnot := List.mem_append_left _ (List.mem_of_getElem? (i := 8) rfl)
  have k_7 := hts _ m_7
  have m_8 : (.initialized RX0 : Cond) ∈ zw_d_takeKnot := List.mem_append_left _ (List.mem_of_getElem? (i := 9) rfl)
  have k_8 := hts _ m_8
  have m_9 : (.fieldLink RX0 42 "BowWalk$Bow" "likes" "I" : Cond) ∈ zw_d_takeKnot := List.mem_append_left _ (List.mem_of_getElem? (i := 10) rfl)
  have k_9 := hts _ m_9
  have g_d_likeBits : ∀ w ∈ zw_d_likeBits, w ∈ zw_d_takeKnot := fun w h => List.mem_append_right _ (List.mem_append_left _ h)
  have i_X0 : ∀ w ∈ u_ws RX0 TX0 15, w ∈ zw_d_takeKnot := fun w h => List.mem_append_right _ (List.mem_append_right _ (List.mem_append_left _ h))
  have lt_12 : (12 : Int32).toInt = 12 := by decide
  have hl := lv_entry ([.ref bw, .int a1, .int a2]) (n := 3) (Nat.le_of_ble_eq_true rfl)
  rw [lg_entry_eq]
  generalize (lg_sl ([.ref bw, .int a1, .int a2]) ++ List.replicate (3 - (lg_sl ([.ref bw, .int a1, .int a2])).length) Slot.unset).toArray = ls at hl ⊢
  have hl : lv_has ls 3 [(0, .ref bw), (1, .int a1), (2, .int a2)] := hl
  refine lv_aload_n hx hb dX0_takeKnot_0 rfl (lv_at hl 0 rfl) ?_
  refine lv_iload_n hx hb dX0_takeKnot_1 rfl (lv_at hl 1 rfl) ?_
  refine lv_bipush (v := 12) hx hb dX0_takeKnot_2 (by decide) ?_
  refine va_mmin hx hb (by rw [hml]; exact hl.1.symm) hown k_0 k_1 k_2 k_3 (Nat.le_of_ble_eq_true rfl) (Nat.le_of_ble_eq_true rfl) (Nat.le_of_ble_eq_true rfl) (Nat.le_of_ble_eq_true rfl) dX0_takeKnot_4 ?_
  refine lv_topi (fun v_1 ev_1 => ?_)
  have tv_1 := q_min ev_1
  refine va_put (D := (dC, dI)) (ci := 0) (v := .int v_1) (ty := .int) (C := RX0) (T := TX0) (N := 15) hx hb hts i_X0 tyX0 tyX0_ok nmX0 hown hK hP hD hS 0 rfl rfl 2 (by decide) k_4 (fun _ h9 => h9) rfl (by decide +kernel) rfl rfl (by rw [l_bf]; decide) dX0_takeKnot_7 (fun H locs hP hD hS => ?_)
  have hP : va_P (dC, dI) vwCl [(bw, .inr (0, (bf.set 2 (.int v_1))))] H := hP
  have hD : va_D A [(bw, .inr (0, (bf.set 2 (.int v_1))))] := hD
  generalize efs_2 : (bf.set 2 (.int v_1)) = fs_2 at hP hD
  have lfs_2 : fs_2.length = 15 := by rw [← efs_2, List.length_set]; exact l_bf
  have ffs_2_0 : fs_2[0]? = some (.ref tg) := by rw [← efs_2]; exact p1_sn (by decide) f_bf_0
  have ffs_2_1 : fs_2[1]? = some (.ref en) := by rw [← efs_2]; exact p1_sn (by decide) f_bf_1
  have ffs_2_3 : fs_2[3]? = some (.int bleft) := by rw [← efs_2]; exact p1_sn (by decide) f_bf_3
  have ffs_2_4 : fs_2[4]? = some (.int bsteps) := by rw [← efs_2]; exact p1_sn (by decide) f_bf_4
  have ffs_2_5 : fs_2[5]? = some (.int bslipped) := by rw [← efs_2]; exact p1_sn (by decide) f_bf_5
  have ffs_2_6 : fs_2[6]? = some (.int bwalk) := by rw [← efs_2]; exact p1_sn (by decide) f_bf_6
  have ffs_2_7 : fs_2[7]? = some (.int bnextStep) := by rw [← efs_2]; exact p1_sn (by decide) f_bf_7
  have ffs_2_8 : fs_2[8]? = some (.int bsides) := by rw [← efs_2]; exact p1_sn (by decide) f_bf_8
  have ffs_2_9 : fs_2[9]? = some (.int blikes) := by rw [← efs_2]; exact p1_sn (by decide) f_bf_9
  have ffs_2_10 : fs_2[10]? = some (.int bsmooth) := by rw [← efs_2]; exact p1_sn (by decide) f_bf_10
  have ffs_2_11 : fs_2[11]? = some (.int bweight) := by rw [← efs_2]; exact p1_sn (by decide) f_bf_11
  have ffs_2_12 : fs_2[12]? = some (.int blength) := by rw [← efs_2]; exact p1_sn (by decide) f_bf_12
  have ffs_2_13 : fs_2[13]? = some (.int bstrike) := by rw [← efs_2]; exact p1_sn (by decide) f_bf_13
  have ffs_2_14 : fs_2[14]? = some (.int bswing) := by rw [← efs_2]; exact p1_sn (by decide) f_bf_14
  have ffs_2_2 : fs_2[2]? = some (.int v_1) := by rw [← efs_2]; exact p1_sa l_bf (by decide)
  refine lv_aload_n hx hb dX0_takeKnot_10 rfl (lv_at hl 0 rfl) ?_
  refine lv_iload_n hx hb dX0_takeKnot_11 rfl (lv_at hl 2 rfl) ?_
  refine va_put (D := (dC, dI)) (ci := 0) (v := .int a2) (ty := .int) (C := RX0) (T := TX0) (N := 15) hx hb hts i_X0 tyX0 tyX0_ok nmX0 hown hK hP hD hS 0 rfl rfl 8 (by decide) k_5 (fun _ h9 => h9) rfl (by decide +kernel) rfl rfl (by rw [lfs_2]; decide) dX0_takeKnot_12 (fun H locs hP hD hS => ?_)
  have hP : va_P (dC, dI) vwCl [(bw, .inr (0, (fs_2.set 8 (.int a2))))] H := hP
  have hD : va_D A [(bw, .inr (0, (fs_2.set 8 (.int a2))))] := hD
  generalize efs_3 : (fs_2.set 8 (.int a2)) = fs_3 at hP hD
  have lfs_3 : fs_3.length = 15 := by rw [← efs_3, List.length_set]; exact lfs_2
  have ffs_3_0 : fs_3[0]? = some (.ref tg) := by rw [← efs_3]; exact p1_sn (by decide) ffs_2_0
  have ffs_3_1 : fs_3[1]? = some (.ref en) := by rw [← efs_3]; exact p1_sn (by decide) ffs_2_1
  have ffs_3_3 : fs_3[3]? = some (.int bleft) := by rw [← efs_3]; exact p1_sn (by decide) ffs_2_3
  have ffs_3_4 : fs_3[4]? = some (.int bsteps) := by rw [← efs_3]; exact p1_sn (by decide) ffs_2_4
  have ffs_3_5 : fs_3[5]? = some (.int bslipped) := by rw [← efs_3]; exact p1_sn (by decide) ffs_2_5
  have ffs_3_6 : fs_3[6]? = some (.int bwalk) := by rw [← efs_3]; exact p1_sn (by decide) ffs_2_6
  have ffs_3_7 : fs_3[7]? = some (.int bnextStep) := by rw [← efs_3]; exact p1_sn (by decide) ffs_2_7
  have ffs_3_9 : fs_3[9]? = some (.int blikes) := by rw [← efs_3]; exact p1_sn (by decide) ffs_2_9
  have ffs_3_10 : fs_3[10]? = some (.int bsmooth) := by rw [← efs_3]; exact p1_sn (by decide) ffs_2_10
  have ffs_3_11 : fs_3[11]? = some (.int bweight) := by rw [← efs_3]; exact p1_sn (by decide) ffs_2_11
  have ffs_3_12 : fs_3[12]? = some (.int blength) := by rw [← efs_3]; exact p1_sn (by decide) ffs_2_12
  have ffs_3_13 : fs_3[13]? = some (.int bstrike) := by rw [← efs_3]; exact p1_sn (by decide) ffs_2_13
  have ffs_3_14 : fs_3[14]? = some (.int bswing) := by rw [← efs_3]; exact p1_sn (by decide) ffs_2_14
  have ffs_3_2 : fs_3[2]? = some (.int v_1) := by rw [← efs_3]; exact p1_sn (by decide) ffs_2_2
  have ffs_3_8 : fs_3[8]? = some (.int a2) := by rw [← efs_3]; exact p1_sa lfs_2 (by decide)
  refine lv_aload_n hx hb dX0_takeKnot_15 rfl (lv_at hl 0 rfl) ?_
  refine lv_aload_n hx hb dX0_takeKnot_16 rfl (lv_at hl 0 rfl) ?_
  refine va_get (D := (dC, dI)) (ci := 0) (v := .int v_1) (C := RX0) (T := TX0) (N := 15) hx hb hts i_X0 hown hK hP 0 rfl rfl 2 (by decide) k_4 (fun _ h9 => h9) ffs_3_2 dX0_takeKnot_17 ?_
  refine lv_aload_n hx hb dX0_takeKnot_20 rfl (lv_at hl 0 rfl) ?_
  refine va_get (D := (dC, dI)) (ci := 0) (v := .int a2) (C := RX0) (T := TX0) (N := 15) hx hb hts i_X0 hown hK hP 0 rfl rfl 8 (by decide) k_5 (fun _ h9 => h9) ffs_3_8 dX0_takeKnot_21 ?_
  have hPc := hP.sub (ws' := []) [] rfl
  have hDc := hD.sub (ws' := []) [] (by decide) rfl
  have hKc := hK.sub (tys' := []) [] rfl
  have hFc := va_free (wc := []) hD hS hA [] rfl
  refine va_calli (va_runS (As := [.int v_1, .int a2]) (rest := [.ref bw]) ⟨hx, hb, hml, hown, hts⟩ (d_likeBits l dC dI H.size v_1 a2) (va_cwS 2 hts (p1_gS m_6 m_7 m_8 g_d_likeBits gz_d_likeBits) rfl rfl rfl (by decide +kernel) ⟨by decide, by decide⟩) ⟨fun a U g mk q => by obtain ⟨q0, q1, qP, qK, qD⟩ := q; exact ⟨q0, q1, qP, va_K.moved (u := U) (U := U.calling g mk a) (Vm.Alike.refl U.vm) qK, qD⟩, fun U hU hW => ⟨rfl, by rw [hU], by rw [hU]; exact hPc, va_K.moved hW.alike hKc, hDc.weaken (fun _ _ _ _ => trivial)⟩⟩ rfl rfl hl.1 rfl (lv_room (Nat.le_of_ble_eq_true rfl)) dX0_takeKnot_24 ⟨by decide, by decide⟩) hS (fun q _ h => hFc q h) hFc (fun r_4 u t H1 locs ht hvm hw hB hz1 hk1 hS => ?_)
  obtain ⟨hP1, hK1, hD1⟩ := hB
  rw [ht] at hP1
  obtain ⟨hP, hD⟩ := va_join (wr := [(bw, .inr (0, fs_3))]) (w1 := []) hP hD [] [0] rfl rfl (by decide) (by decide) hk1 hFc hP1 hD1
  generalize H1 = H at hP hS ⊢
  have hP : va_P (dC, dI) vwCl [(bw, .inr (0, fs_3))] H := hP
  have hD : va_D A [(bw, .inr (0, fs_3))] := hD
  try dsimp only at hw
  have hw_5 := hw
  refine va_put (D := (dC, dI)) (ci := 0) (v := .int r_4) (ty := .int) (C := RX0) (T := TX0) (N := 15) hx hb hts i_X0 tyX0 tyX0_ok nmX0 hown hK hP hD hS 0 rfl rfl 9 (by decide) k_9 (fun _ h9 => h9) rfl (by decide +kernel) rfl rfl (by rw [lfs_3]; decide) dX0_takeKnot_27 (fun H locs hP hD hS => ?_)
  have hP : va_P (dC, dI) vwCl [(bw, .inr (0, (fs_3.set 9 (.int r_4))))] H := hP
  have hD : va_D A [(bw, .inr (0, (fs_3.set 9 (.int r_4))))] := hD
  generalize efs_6 : (fs_3.set 9 (.int r_4)) = fs_6 at hP hD
  have lfs_6 : fs_6.length = 15 := by rw [← efs_6, List.length_set]; exact lfs_3
  have ffs_6_0 : fs_6[0]? = some (.ref tg) := by rw [← efs_6]; exact p1_sn (by decide) ffs_3_0
  have ffs_6_1 : fs_6[1]? = some (.ref en) := by rw [← efs_6]; exact p1_sn (by decide) ffs_3_1
  have ffs_6_3 : fs_6[3]? = some (.int bleft) := by rw [← efs_6]; exact p1_sn (by decide) ffs_3_3
  have ffs_6_4 : fs_6[4]? = some (.int bsteps) := by rw [← efs_6]; exact p1_sn (by decide) ffs_3_4
  have ffs_6_5 : fs_6[5]? = some (.int bslipped) := by rw [← efs_6]; exact p1_sn (by decide) ffs_3_5
  have ffs_6_6 : fs_6[6]? = some (.int bwalk) := by rw [← efs_6]; exact p1_sn (by decide) ffs_3_6
  have ffs_6_7 : fs_6[7]? = some (.int bnextStep) := by rw [← efs_6]; exact p1_sn (by decide) ffs_3_7
  have ffs_6_10 : fs_6[10]? = some (.int bsmooth) := by rw [← efs_6]; exact p1_sn (by decide) ffs_3_10
  have ffs_6_11 : fs_6[11]? = some (.int bweight) := by rw [← efs_6]; exact p1_sn (by decide) ffs_3_11
  have ffs_6_12 : fs_6[12]? = some (.int blength) := by rw [← efs_6]; exact p1_sn (by decide) ffs_3_12
  have ffs_6_13 : fs_6[13]? = some (.int bstrike) := by rw [← efs_6]; exact p1_sn (by decide) ffs_3_13
  have ffs_6_14 : fs_6[14]? = some (.int bswing) := by rw [← efs_6]; exact p1_sn (by decide) ffs_3_14
  have ffs_6_2 : fs_6[2]? = some (.int v_1) := by rw [← efs_6]; exact p1_sn (by decide) ffs_3_2
  have ffs_6_8 : fs_6[8]? = some (.int a2) := by rw [← efs_6]; exact p1_sn (by decide) ffs_3_8
  have ffs_6_9 : fs_6[9]? = some (.int r_4) := by rw [← efs_6]; exact p1_sa lfs_3 (by decide)
  have hP9 := hP.sub (ws' := [(bw, .inr (0, fs_6))]) [0] rfl
  have hD9 := hD.sub (ws' := [(bw, .inr (0, fs_6))]) [0] (by decide) rfl
  have hK9 := hK.sub (tys' := []) [] rfl
  exact W.vret hx hb hr (fun t ht hW => ⟨⟨(), rfl, trivial, fs_6, v_1, a2, r_4, lfs_6, ffs_6_0, ffs_6_1, ffs_6_2, ffs_6_3, ffs_6_4, ffs_6_5, ffs_6_6, ffs_6_7, ffs_6_8, ffs_6_9, ffs_6_10, ffs_6_11, ffs_6_12, ffs_6_13, ffs_6_14, (by first | rfl | omega | exact ⟨by omega, by omega⟩), by rw [ht]; exact hP9, va_K.moved hW.alike hK9, hD9⟩, hS.F ht⟩) hS.2.2 dX0_takeKnot_30
def zo_d_takeCord : List Cond := [.code yX0_takeCord cX0_takeCord 4 none, .fieldLink RX0 45 "BowWalk$Bow" "smooth" "I", .fieldLink RX0 48 "BowWalk$Bow" "weight" "I", .fieldLink RX0 51 "BowWalk$Bow" "length" "I"]
def zw_d_takeCord : List Cond := zo_d_takeCord ++ (wsX00 ++ [])
theorem gz_d_takeCord : zw_d_takeCord.all goodWord = true := p1_ga (by decide +kernel) (p1_ga gk_X0 p1_g0)
theorem iz_d_takeCord : ∀ w ∈ zw_d_takeCord, w ∈ lw_tbl := p1_ia (p1_all [740, 370, 371, 372] (by decide +kernel)) (p1_ia ik_X0 p1_i0)
set_option maxHeartbeats 4000000 in
set_option maxRecDepth 100000 in
theorem d_takeCord (l : Launch) (dC : Nat → ClassId) (dI : Nat → Nat → Nat) (sz : Nat) (bw : Nat) (bf : List Value) (tg : Nat) (en : Nat) (bcrossings : Int32) (bleft : Int32) (bsteps : Int32) (bslipped : Int32) (bwalk : Int32) (bnextStep : Int32) (bsides : Int32) (blikes : Int32) (bsmooth : Int32) (bweight : Int32) (blength : Int32) (bstrike : Int32) (bswing : Int32) (a1 : Int32) (a2 : Int32) (a3 : Int32) (f_bf_0 : bf[0]? = some (.ref tg)) (f_bf_1 : bf[1]? = some (.ref en)) (f_bf_2 : bf[2]? = some (.int bcrossings)) (f_bf_3 : bf[3]? = some (.int bleft)) (f_bf_4 : bf[4]? = some (.int bsteps)) (f_bf_5 : bf[5]? = some (.int bslipped)) (f_bf_6 : bf[6]? = some (.int bwalk)) (f_bf_7 : bf[7]? = some (.int bnextStep)) (f_bf_8 : bf[8]? = some (.int bsides)) (f_bf_9 : bf[9]? = some (.int blikes)) (f_bf_10 : bf[10]? = some (.int bsmooth)) (f_bf_11 : bf[11]? = some (.int bweight)) (f_bf_12 : bf[12]? = some (.int blength)) (f_bf_13 : bf[13]? = some (.int bstrike)) (f_bf_14 : bf[14]? = some (.int bswing)) (l_bf : bf.length = 15) : Met l yX0_takeCord zw_d_takeCord ({ frames := 0, cells := 0, slots := 0, locals := 0 }) (va_Pc [.ref bw, .int a1, .int a2, .int a3] (fun U => U.heap.size = sz ∧ va_P (dC, dI) vwCl [(bw, .inr (0, bf))] U.heap ∧ va_K (dC, dI) vwCl [] U ∧ va_D (fun _ => True) [(bw, .inr (0, bf))])) (va_Qv (fun (_ : Unit) => True) (fun _ t => ∃ (bg : List Value) (os : Int32) (ow : Int32) (ol : Int32), bg.length = 15 ∧ bg[0]? = some (.ref tg) ∧ bg[1]? = some (.ref en) ∧ bg[2]? = some (.int bcrossings) ∧ bg[3]? = some (.int bleft) ∧ bg[4]? = some (.int bsteps) ∧ bg[5]? = some (.int bslipped) ∧ bg[6]? = some (.int bwalk) ∧ bg[7]? = some (.int bnextStep) ∧ bg[8]? = some (.int bsides) ∧ bg[9]? = some (.int blikes) ∧ bg[10]? = some (.int os) ∧ bg[11]? = some (.int ow) ∧ bg[12]? = some (.int ol) ∧ bg[13]? = some (.int bstrike) ∧ bg[14]? = some (.int bswing) ∧ va_P (dC, dI) vwCl [(bw, .inr (0, bg))] t.heap ∧ va_K (dC, dI) vwCl [] t ∧ va_D (va_A [(bw, .inr (0, bf))] sz) [(bw, .inr (0, bg))]) (va_A [(bw, .inr (0, bf))] sz)) 0 0 (va_A [(bw, .inr (0, bf))] sz) := by
  refine Met.ofW (cc := cX0_takeCord) (maxL := 4) (ret := none) (by decide) rfl ?_
  intro p e s m args below meth c s₁ B hml hv
  obtain ⟨rfl, hsz, hP, hK, hD0⟩ := hv
  have hx := B.exec
  have hb := B.bytes
  have hr := B.returns
  have hts := atoms_spec (ws := zw_d_takeCord) B.pre
  have hown : s.vm.findClass RX0 = some m.cls := findClass_of_methodNamed B.named
  have hlocks := B.notSynchronized
  subst hsz
  have hD := hD0.self (sz := s.heap.size)
  generalize hAe : va_A [(bw, .inr (0, bf))] s.heap.size = A at hD ⊢
  have hA : ∀ q : Nat, s.heap.size ≤ q → A q := fun q h => by rw [← hAe]; exact Or.inr h
  have hS : va_S A s.heap s.heap [] := va_S.rf
  have hP : va_P (dC, dI) vwCl [(bw, .inr (0, bf))] s.heap := hP
  have m_0 : (.fieldLink RX0 45 "BowWalk$Bow" "smooth" "I" : Cond) ∈ zw_d_takeCord := List.mem_append_left _ (List.mem_of_getElem? (i := 1) rfl)
  have k_0 := hts _ m_0
  have m_1 : (.fieldLink RX0 48 "BowWalk$Bow" "weight" "I" : Cond) ∈ zw_d_takeCord := List.mem_append_left _ (List.mem_of_getElem? (i := 2) rfl)
  have k_1 := hts _ m_1
  have m_2 : (.fieldLink RX0 51 "BowWalk$Bow" "length" "I" : Cond) ∈ zw_d_takeCord := List.mem_append_left _ (List.mem_of_getElem? (i := 3) rfl)
  have k_2 := hts _ m_2
  have i_X0 : ∀ w ∈ u_ws RX0 TX0 15, w ∈ zw_d_takeCord := fun w h => List.mem_append_right _ (List.mem_append_left _ h)
  have hl := lv_entry ([.ref bw, .int a1, .int a2, .int a3]) (n := 4) (Nat.le_of_ble_eq_true rfl)
  rw [lg_entry_eq]
  generalize (lg_sl ([.ref bw, .int a1, .int a2, .int a3]) ++ List.replicate (4 - (lg_sl ([.ref bw, .int a1, .int a2, .int a3])).length) Slot.unset).toArray = ls at hl ⊢
  have hl : lv_has ls 4 [(0, .ref bw), (1, .int a1), (2, .int a2), (3, .int a3)] := hl
  refine lv_aload_n hx hb dX0_takeCord_0 rfl (lv_at hl 0 rfl) ?_
  refine lv_iload_n hx hb dX0_takeCord_1 rfl (lv_at hl 1 rfl) ?_
  refine va_put (D := (dC, dI)) (ci := 0) (v := .int a1) (ty := .int) (C := RX0) (T := TX0) (N := 15) hx hb hts i_X0 tyX0 tyX0_ok nmX0 hown hK hP hD hS 0 rfl rfl 10 (by decide) k_0 (fun _ h9 => h9) rfl (by decide +kernel) rfl rfl (by rw [l_bf]; decide) dX0_takeCord_2 (fun H locs hP hD hS => ?_)
  have hP : va_P (dC, dI) vwCl [(bw, .inr (0, (bf.set 10 (.int a1))))] H := hP
  have hD : va_D A [(bw, .inr (0, (bf.set 10 (.int a1))))] := hD
  generalize efs_1 : (bf.set 10 (.int a1)) = fs_1 at hP hD
  have lfs_1 : fs_1.length = 15 := by rw [← efs_1, List.length_set]; exact l_bf
  have ffs_1_0 : fs_1[0]? = some (.ref tg) := by rw [← efs_1]; exact p1_sn (by decide) f_bf_0
  have ffs_1_1 : fs_1[1]? = some (.ref en) := by rw [← efs_1]; exact p1_sn (by decide) f_bf_1
  have ffs_1_2 : fs_1[2]? = some (.int bcrossings) := by rw [← efs_1]; exact p1_sn (by decide) f_bf_2
  have ffs_1_3 : fs_1[3]? = some (.int bleft) := by rw [← efs_1]; exact p1_sn (by decide) f_bf_3
  have ffs_1_4 : fs_1[4]? = some (.int bsteps) := by rw [← efs_1]; exact p1_sn (by decide) f_bf_4
  have ffs_1_5 : fs_1[5]? = some (.int bslipped) := by rw [← efs_1]; exact p1_sn (by decide) f_bf_5
  have ffs_1_6 : fs_1[6]? = some (.int bwalk) := by rw [← efs_1]; exact p1_sn (by decide) f_bf_6
  have ffs_1_7 : fs_1[7]? = some (.int bnextStep) := by rw [← efs_1]; exact p1_sn (by decide) f_bf_7
  have ffs_1_8 : fs_1[8]? = some (.int bsides) := by rw [← efs_1]; exact p1_sn (by decide) f_bf_8
  have ffs_1_9 : fs_1[9]? = some (.int blikes) := by rw [← efs_1]; exact p1_sn (by decide) f_bf_9
  have ffs_1_11 : fs_1[11]? = some (.int bweight) := by rw [← efs_1]; exact p1_sn (by decide) f_bf_11
  have ffs_1_12 : fs_1[12]? = some (.int blength) := by rw [← efs_1]; exact p1_sn (by decide) f_bf_12
  have ffs_1_13 : fs_1[13]? = some (.int bstrike) := by rw [← efs_1]; exact p1_sn (by decide) f_bf_13
  have ffs_1_14 : fs_1[14]? = some (.int bswing) := by rw [← efs_1]; exact p1_sn (by decide) f_bf_14
  have ffs_1_10 : fs_1[10]? = some (.int a1) := by rw [← efs_1]; exact p1_sa l_bf (by decide)
  refine lv_aload_n hx hb dX0_takeCord_5 rfl (lv_at hl 0 rfl) ?_
  refine lv_iload_n hx hb dX0_takeCord_6 rfl (lv_at hl 2 rfl) ?_
  refine va_put (D := (dC, dI)) (ci := 0) (v := .int a2) (ty := .int) (C := RX0) (T := TX0) (N := 15) hx hb hts i_X0 tyX0 tyX0_ok nmX0 hown hK hP hD hS 0 rfl rfl 11 (by decide) k_1 (fun _ h9 => h9) rfl (by decide +kernel) rfl rfl (by rw [lfs_1]; decide) dX0_takeCord_7 (fun H locs hP hD hS => ?_)
  have hP : va_P (dC, dI) vwCl [(bw, .inr (0, (fs_1.set 11 (.int a2))))] H := hP
  have hD : va_D A [(bw, .inr (0, (fs_1.set 11 (.int a2))))] := hD
  generalize efs_2 : (fs_1.set 11 (.int a2)) = fs_2 at hP hD
  have lfs_2 : fs_2.length = 15 := by rw [← efs_2, List.length_set]; exact lfs_1
  have ffs_2_0 : fs_2[0]? = some (.ref tg) := by rw [← efs_2]; exact p1_sn (by decide) ffs_1_0
  have ffs_2_1 : fs_2[1]? = some (.ref en) := by rw [← efs_2]; exact p1_sn (by decide) ffs_1_1
  have ffs_2_2 : fs_2[2]? = some (.int bcrossings) := by rw [← efs_2]; exact p1_sn (by decide) ffs_1_2
  have ffs_2_3 : fs_2[3]? = some (.int bleft) := by rw [← efs_2]; exact p1_sn (by decide) ffs_1_3
  have ffs_2_4 : fs_2[4]? = some (.int bsteps) := by rw [← efs_2]; exact p1_sn (by decide) ffs_1_4
  have ffs_2_5 : fs_2[5]? = some (.int bslipped) := by rw [← efs_2]; exact p1_sn (by decide) ffs_1_5
  have ffs_2_6 : fs_2[6]? = some (.int bwalk) := by rw [← efs_2]; exact p1_sn (by decide) ffs_1_6
  have ffs_2_7 : fs_2[7]? = some (.int bnextStep) := by rw [← efs_2]; exact p1_sn (by decide) ffs_1_7
  have ffs_2_8 : fs_2[8]? = some (.int bsides) := by rw [← efs_2]; exact p1_sn (by decide) ffs_1_8
  have ffs_2_9 : fs_2[9]? = some (.int blikes) := by rw [← efs_2]; exact p1_sn (by decide) ffs_1_9
  have ffs_2_12 : fs_2[12]? = some (.int blength) := by rw [← efs_2]; exact p1_sn (by decide) ffs_1_12
  have ffs_2_13 : fs_2[13]? = some (.int bstrike) := by rw [← efs_2]; exact p1_sn (by decide) ffs_1_13
  have ffs_2_14 : fs_2[14]? = some (.int bswing) := by rw [← efs_2]; exact p1_sn (by decide) ffs_1_14
  have ffs_2_10 : fs_2[10]? = some (.int a1) := by rw [← efs_2]; exact p1_sn (by decide) ffs_1_10
  have ffs_2_11 : fs_2[11]? = some (.int a2) := by rw [← efs_2]; exact p1_sa lfs_1 (by decide)
  refine lv_aload_n hx hb dX0_takeCord_10 rfl (lv_at hl 0 rfl) ?_
  refine lv_iload_n hx hb dX0_takeCord_11 rfl (lv_at hl 3 rfl) ?_
  refine va_put (D := (dC, dI)) (ci := 0) (v := .int a3) (ty := .int) (C := RX0) (T := TX0) (N := 15) hx hb hts i_X0 tyX0 tyX0_ok nmX0 hown hK hP hD hS 0 rfl rfl 12 (by decide) k_2 (fun _ h9 => h9) rfl (by decide +kernel) rfl rfl (by rw [lfs_2]; decide) dX0_takeCord_12 (fun H locs hP hD hS => ?_)
  have hP : va_P (dC, dI) vwCl [(bw, .inr (0, (fs_2.set 12 (.int a3))))] H := hP
  have hD : va_D A [(bw, .inr (0, (fs_2.set 12 (.int a3))))] := hD
  generalize efs_3 : (fs_2.set 12 (.int a3)) = fs_3 at hP hD
  have lfs_3 : fs_3.length = 15 := by rw [← efs_3, List.length_set]; exact lfs_2
  have ffs_3_0 : fs_3[0]? = some (.ref tg) := by rw [← efs_3]; exact p1_sn (by decide) ffs_2_0
  have ffs_3_1 : fs_3[1]? = some (.ref en) := by rw [← efs_3]; exact p1_sn (by decide) ffs_2_1
  have ffs_3_2 : fs_3[2]? = some (.int bcrossings) := by rw [← efs_3]; exact p1_sn (by decide) ffs_2_2
  have ffs_3_3 : fs_3[3]? = some (.int bleft) := by rw [← efs_3]; exact p1_sn (by decide) ffs_2_3
  have ffs_3_4 : fs_3[4]? = some (.int bsteps) := by rw [← efs_3]; exact p1_sn (by decide) ffs_2_4
  have ffs_3_5 : fs_3[5]? = some (.int bslipped) := by rw [← efs_3]; exact p1_sn (by decide) ffs_2_5
  have ffs_3_6 : fs_3[6]? = some (.int bwalk) := by rw [← efs_3]; exact p1_sn (by decide) ffs_2_6
  have ffs_3_7 : fs_3[7]? = some (.int bnextStep) := by rw [← efs_3]; exact p1_sn (by decide) ffs_2_7
  have ffs_3_8 : fs_3[8]? = some (.int bsides) := by rw [← efs_3]; exact p1_sn (by decide) ffs_2_8
  have ffs_3_9 : fs_3[9]? = some (.int blikes) := by rw [← efs_3]; exact p1_sn (by decide) ffs_2_9
  have ffs_3_13 : fs_3[13]? = some (.int bstrike) := by rw [← efs_3]; exact p1_sn (by decide) ffs_2_13
  have ffs_3_14 : fs_3[14]? = some (.int bswing) := by rw [← efs_3]; exact p1_sn (by decide) ffs_2_14
  have ffs_3_10 : fs_3[10]? = some (.int a1) := by rw [← efs_3]; exact p1_sn (by decide) ffs_2_10
  have ffs_3_11 : fs_3[11]? = some (.int a2) := by rw [← efs_3]; exact p1_sn (by decide) ffs_2_11
  have ffs_3_12 : fs_3[12]? = some (.int a3) := by rw [← efs_3]; exact p1_sa lfs_2 (by decide)
  have hP9 := hP.sub (ws' := [(bw, .inr (0, fs_3))]) [0] rfl
  have hD9 := hD.sub (ws' := [(bw, .inr (0, fs_3))]) [0] (by decide) rfl
  have hK9 := hK.sub (tys' := []) [] rfl
  exact W.vret hx hb hr (fun t ht hW => ⟨⟨(), rfl, trivial, fs_3, a1, a2, a3, lfs_3, ffs_3_0, ffs_3_1, ffs_3_2, ffs_3_3, ffs_3_4, ffs_3_5, ffs_3_6, ffs_3_7, ffs_3_8, ffs_3_9, ffs_3_10, ffs_3_11, ffs_3_12, ffs_3_13, ffs_3_14, by rw [ht]; exact hP9, va_K.moved hW.alike hK9, hD9⟩, hS.F ht⟩) hS.2.2 dX0_takeCord_15
def zo_d_begin : List Cond := [.code yX0_begin cX0_begin 3 none, .fieldLink RX0 20 "BowWalk$Bow" "crossings" "I", .fieldLink RX0 24 "BowWalk$Bow" "left" "I", .fieldLink RX0 17 "BowWalk$Bow" "ends" "[I", .fieldLink RX0 51 "BowWalk$Bow" "length" "I", .fieldLink RX0 27 "BowWalk$Bow" "steps" "I", .fieldLink RX0 30 "BowWalk$Bow" "slipped" "I", .fieldLink RX0 33 "BowWalk$Bow" "walk" "I", .fieldLink RX0 36 "BowWalk$Bow" "nextStep" "I", .fieldLink RX0 11 "BowWalk$Bow" "tight" "[I"]
def zw_d_begin : List Cond := zo_d_begin ++ (wsX00 ++ [])
theorem gz_d_begin : zw_d_begin.all goodWord = true := p1_ga (by decide +kernel) (p1_ga gk_X0 p1_g0)
theorem iz_d_begin : ∀ w ∈ zw_d_begin, w ∈ lw_tbl := p1_ia (p1_all [744, 355, 357, 352, 372, 360, 362, 364, 366, 350] (by decide +kernel)) (p1_ia ik_X0 p1_i0)
set_option maxHeartbeats 4000000 in
set_option maxRecDepth 100000 in
theorem d_begin (l : Launch) (dC : Nat → ClassId) (dI : Nat → Nat → Nat) (sz : Nat) (bw : Nat) (bf : List Value) (tg : Nat) (en : Nat) (bcrossings : Int32) (bleft : Int32) (bsteps : Int32) (bslipped : Int32) (bwalk : Int32) (bnextStep : Int32) (bsides : Int32) (blikes : Int32) (bsmooth : Int32) (bweight : Int32) (blength : Int32) (bstrike : Int32) (bswing : Int32) (cT : ClassId) (tf : Nat → Int32) (cE : ClassId) (ef : Nat → Int32) (a1 : Int32) (f_bf_0 : bf[0]? = some (.ref tg)) (f_bf_1 : bf[1]? = some (.ref en)) (f_bf_2 : bf[2]? = some (.int bcrossings)) (f_bf_3 : bf[3]? = some (.int bleft)) (f_bf_4 : bf[4]? = some (.int bsteps)) (f_bf_5 : bf[5]? = some (.int bslipped)) (f_bf_6 : bf[6]? = some (.int bwalk)) (f_bf_7 : bf[7]? = some (.int bnextStep)) (f_bf_8 : bf[8]? = some (.int bsides)) (f_bf_9 : bf[9]? = some (.int blikes)) (f_bf_10 : bf[10]? = some (.int bsmooth)) (f_bf_11 : bf[11]? = some (.int bweight)) (f_bf_12 : bf[12]? = some (.int blength)) (f_bf_13 : bf[13]? = some (.int bstrike)) (f_bf_14 : bf[14]? = some (.int bswing)) (l_bf : bf.length = 15) (h1 : 0 ≤ bcrossings.toInt ∧ bcrossings.toInt ≤ 12) : Met l yX0_begin zw_d_begin ({ frames := 0, cells := 0, slots := 0, locals := 0 }) (va_Pc [.ref bw, .int a1] (fun U => U.heap.size = sz ∧ va_P (dC, dI) vwCl [(bw, .inr (0, bf)), (tg, .inl (cT, 12, .inl tf)), (en, .inl (cE, 2, .inl ef))] U.heap ∧ va_K (dC, dI) vwCl [(cT, .int), (cE, .int)] U ∧ va_D (fun _ => True) [(bw, .inr (0, bf)), (tg, .inl (cT, 12, .inl tf)), (en, .inl (cE, 2, .inl ef))])) (va_Qv (fun (_ : Unit) => True) (fun _ t => ∃ (bg : List Value) (olf : Int32) (ost : Int32) (osl : Int32) (owk : Int32) (onx : Int32) (tfo : Nat → Int32) (efo : Nat → Int32), bg.length = 15 ∧ bg[0]? = some (.ref tg) ∧ bg[1]? = some (.ref en) ∧ bg[2]? = some (.int bcrossings) ∧ bg[3]? = some (.int olf) ∧ bg[4]? = some (.int ost) ∧ bg[5]? = some (.int osl) ∧ bg[6]? = some (.int owk) ∧ bg[7]? = some (.int onx) ∧ bg[8]? = some (.int bsides) ∧ bg[9]? = some (.int blikes) ∧ bg[10]? = some (.int bsmooth) ∧ bg[11]? = some (.int bweight) ∧ bg[12]? = some (.int blength) ∧ bg[13]? = some (.int bstrike) ∧ bg[14]? = some (.int bswing) ∧ (olf = bcrossings) ∧ (onx = 0) ∧ va_P (dC, dI) vwCl [(bw, .inr (0, bg)), (tg, .inl (cT, 12, .inl tfo)), (en, .inl (cE, 2, .inl efo))] t.heap ∧ va_K (dC, dI) vwCl [] t ∧ va_D (va_A [(bw, .inr (0, bf)), (tg, .inl (cT, 12, .inl tf)), (en, .inl (cE, 2, .inl ef))] sz) [(bw, .inr (0, bg)), (tg, .inl (cT, 12, .inl tfo)), (en, .inl (cE, 2, .inl efo))]) (va_A [(bw, .inr (0, bf)), (tg, .inl (cT, 12, .inl tf)), (en, .inl (cE, 2, .inl ef))] sz)) 0 0 (va_A [(bw, .inr (0, bf)), (tg, .inl (cT, 12, .inl tf)), (en, .inl (cE, 2, .inl ef))] sz) := by
  refine Met.ofW (cc := cX0_begin) (maxL := 3) (ret := none) (by decide) rfl ?_
  intro p e s m args below meth c s₁ B hml hv
  obtain ⟨rfl, hsz, hP, hK, hD0⟩ := hv
  have hx := B.exec
  have hb := B.bytes
  have hr := B.returns
  have hts := atoms_spec (ws := zw_d_begin) B.pre
  have hown : s.vm.findClass RX0 = some m.cls := findClass_of_methodNamed B.named
  have hlocks := B.notSynchronized
  subst hsz
  have hD := hD0.self (sz := s.heap.size)
  generalize hAe : va_A [(bw, .inr (0, bf)), (tg, .inl (cT, 12, .inl tf)), (en, .inl (cE, 2, .inl ef))] s.heap.size = A at hD ⊢
  have hA : ∀ q : Nat, s.heap.size ≤ q → A q := fun q h => by rw [← hAe]; exact Or.inr h
  have hS : va_S A s.heap s.heap [] := va_S.rf
  have hP : va_P (dC, dI) vwCl [(bw, .inr (0, bf)), (tg, .inl (cT, 12, .inl tf)), (en, .inl (cE, 2, .inl ef))] s.heap := hP
  have m_0 : (.fieldLink RX0 20 "BowWalk$Bow" "crossings" "I" : Cond) ∈ zw_d_begin := List.mem_append_left _ (List.mem_of_getElem? (i := 1) rfl)
  have k_0 := hts _ m_0
  have m_1 : (.fieldLink RX0 24 "BowWalk$Bow" "left" "I" : Cond) ∈ zw_d_begin := List.mem_append_left _ (List.mem_of_getElem? (i := 2) rfl)
  have k_1 := hts _ m_1
  have m_2 : (.fieldLink RX0 17 "BowWalk$Bow" "ends" "[I" : Cond) ∈ zw_d_begin := List.mem_append_left _ (List.mem_of_getElem? (i := 3) rfl)
  have k_2 := hts _ m_2
  have m_3 : (.fieldLink RX0 51 "BowWalk$Bow" "length" "I" : Cond) ∈ zw_d_begin := List.mem_append_left _ (List.mem_of_getElem? (i := 4) rfl)
  have k_3 := hts _ m_3
  have m_4 : (.fieldLink RX0 27 "BowWalk$Bow" "steps" "I" : Cond) ∈ zw_d_begin := List.mem_append_left _ (List.mem_of_getElem? (i := 5) rfl)
  have k_4 := hts _ m_4
  have m_5 : (.fieldLink RX0 30 "BowWalk$Bow" "slipped" "I" : Cond) ∈ zw_d_begin := List.mem_append_left _ (List.mem_of_getElem? (i := 6) rfl)
  have k_5 := hts _ m_5
  have m_6 : (.fieldLink RX0 33 "BowWalk$Bow" "walk" "I" : Cond) ∈ zw_d_begin := List.mem_append_left _ (List.mem_of_getElem? (i := 7) rfl)
  have k_6 := hts _ m_6
  have m_7 : (.fieldLink RX0 36 "BowWalk$Bow" "nextStep" "I" : Cond) ∈ zw_d_begin := List.mem_append_left _ (List.mem_of_getElem? (i := 8) rfl)
  have k_7 := hts _ m_7
  have m_8 : (.fieldLink RX0 11 "BowWalk$Bow" "tight" "[I" : Cond) ∈ zw_d_begin := List.mem_append_left _ (List.mem_of_getElem? (i := 9) rfl)
  have k_8 := hts _ m_8
  have i_X0 : ∀ w ∈ u_ws RX0 TX0 15, w ∈ zw_d_begin := fun w h => List.mem_append_right _ (List.mem_append_left _ h)
  have lt_0 : (0 : Int32).toInt = 0 := by decide
  have lt_1 : (1 : Int32).toInt = 1 := by decide
  have hl := lv_entry ([.ref bw, .int a1]) (n := 3) (Nat.le_of_ble_eq_true rfl)
  rw [lg_entry_eq]
  generalize (lg_sl ([.ref bw, .int a1]) ++ List.replicate (3 - (lg_sl ([.ref bw, .int a1])).length) Slot.unset).toArray = ls at hl ⊢
  have hl : lv_has ls 3 [(0, .ref bw), (1, .int a1)] := hl
  refine lv_iconst (v := 0) hx hb dX0_begin_0 (by decide) ?_
  refine lv_istore_n (lv' := [(2, .int 0), (0, .ref bw), (1, .int a1)]) hx hb dX0_begin_1 rfl hl (by decide) rfl (fun ls hl => ?_)
  have key2 : ∀ (fu : Nat) (i : Int32) (rz_tg : Nat → Int32) (H : Heap) (locs : List Loc) (ls : Array Slot) (hfu : bcrossings.toInt - i.toInt ≤ (fu : Int)) (hp0 : 0 ≤ i.toInt ∧ i.toInt ≤ 12), va_P (dC, dI) vwCl [(bw, .inr (0, bf)), (tg, .inl (cT, 12, .inl rz_tg)), (en, .inl (cE, 2, .inl ef))] H → va_D A [(bw, .inr (0, bf)), (tg, .inl (cT, 12, .inl rz_tg)), (en, .inl (cE, 2, .inl ef))] → va_S A s.heap H locs → lv_has ls 3 [(2, .int i), (0, .ref bw), (1, .int a1)] → W p l e (headSpec zw_d_begin { frames := 0, cells := 0, slots := 0, locals := 0 }).room s m ([.ref bw, .int a1] : List Value).toArray below meth c H locs 0 0 (MQ below (va_Qv (fun (_ : Unit) => True) (fun _ t => ∃ (bg : List Value) (olf : Int32) (ost : Int32) (osl : Int32) (owk : Int32) (onx : Int32) (tfo : Nat → Int32) (efo : Nat → Int32), bg.length = 15 ∧ bg[0]? = some (.ref tg) ∧ bg[1]? = some (.ref en) ∧ bg[2]? = some (.int bcrossings) ∧ bg[3]? = some (.int olf) ∧ bg[4]? = some (.int ost) ∧ bg[5]? = some (.int osl) ∧ bg[6]? = some (.int owk) ∧ bg[7]? = some (.int onx) ∧ bg[8]? = some (.int bsides) ∧ bg[9]? = some (.int blikes) ∧ bg[10]? = some (.int bsmooth) ∧ bg[11]? = some (.int bweight) ∧ bg[12]? = some (.int blength) ∧ bg[13]? = some (.int bstrike) ∧ bg[14]? = some (.int bswing) ∧ (olf = bcrossings) ∧ (onx = 0) ∧ va_P (dC, dI) vwCl [(bw, .inr (0, bg)), (tg, .inl (cT, 12, .inl tfo)), (en, .inl (cE, 2, .inl efo))] t.heap ∧ va_K (dC, dI) vwCl [] t ∧ va_D A [(bw, .inr (0, bg)), (tg, .inl (cT, 12, .inl tfo)), (en, .inl (cE, 2, .inl efo))]) A) ([.ref bw, .int a1] : List Value).toArray s 0 0 A) (F0 m 2 ls []) := by
    intro fu
    induction fu with
    | zero =>
      intro i rz_tg H locs ls hfu hp0 hP hD hS hl
      refine lv_iload_n hx hb dX0_begin_2 rfl (lv_at hl 0 rfl) ?_
      refine lv_aload_n hx hb dX0_begin_3 rfl (lv_at hl 1 rfl) ?_
      refine va_get (D := (dC, dI)) (ci := 0) (v := .int bcrossings) (C := RX0) (T := TX0) (N := 15) hx hb hts i_X0 hown hK hP 0 rfl rfl 2 (by decide) k_0 (fun _ h9 => h9) f_bf_2 dX0_begin_4 ?_
      refine lv_icmp_ge (tgt := 23) hx hb dX0_begin_7 (by decide) (fun c7 => ?_) (fun c7 => ?_)
      · have tc7 := q_ge c7
        refine lv_aload_n hx hb dX0_begin_23 rfl (lv_at hl 1 rfl) ?_
        refine lv_aload_n hx hb dX0_begin_24 rfl (lv_at hl 1 rfl) ?_
        refine va_get (D := (dC, dI)) (ci := 0) (v := .int bcrossings) (C := RX0) (T := TX0) (N := 15) hx hb hts i_X0 hown hK hP 0 rfl rfl 2 (by decide) k_0 (fun _ h9 => h9) f_bf_2 dX0_begin_25 ?_
        refine va_put (D := (dC, dI)) (ci := 0) (v := .int bcrossings) (ty := .int) (C := RX0) (T := TX0) (N := 15) hx hb hts i_X0 tyX0 tyX0_ok nmX0 hown hK hP hD hS 0 rfl rfl 3 (by decide) k_1 (fun _ h9 => h9) rfl (by decide +kernel) rfl rfl (by rw [l_bf]; decide) dX0_begin_28 (fun H locs hP hD hS => ?_)
        have hP : va_P (dC, dI) vwCl [(bw, .inr (0, (bf.set 3 (.int bcrossings)))), (tg, .inl (cT, 12, .inl rz_tg)), (en, .inl (cE, 2, .inl ef))] H := hP
        have hD : va_D A [(bw, .inr (0, (bf.set 3 (.int bcrossings)))), (tg, .inl (cT, 12, .inl rz_tg)), (en, .inl (cE, 2, .inl ef))] := hD
        generalize efs_1 : (bf.set 3 (.int bcrossings)) = fs_1 at hP hD
        have lfs_1 : fs_1.length = 15 := by rw [← efs_1, List.length_set]; exact l_bf
        have ffs_1_0 : fs_1[0]? = some (.ref tg) := by rw [← efs_1]; exact p1_sn (by decide) f_bf_0
        have ffs_1_1 : fs_1[1]? = some (.ref en) := by rw [← efs_1]; exact p1_sn (by decide) f_bf_1
        have ffs_1_2 : fs_1[2]? = some (.int bcrossings) := by rw [← efs_1]; exact p1_sn (by decide) f_bf_2
        have ffs_1_4 : fs_1[4]? = some (.int bsteps) := by rw [← efs_1]; exact p1_sn (by decide) f_bf_4
        have ffs_1_5 : fs_1[5]? = some (.int bslipped) := by rw [← efs_1]; exact p1_sn (by decide) f_bf_5
        have ffs_1_6 : fs_1[6]? = some (.int bwalk) := by rw [← efs_1]; exact p1_sn (by decide) f_bf_6
        have ffs_1_7 : fs_1[7]? = some (.int bnextStep) := by rw [← efs_1]; exact p1_sn (by decide) f_bf_7
        have ffs_1_8 : fs_1[8]? = some (.int bsides) := by rw [← efs_1]; exact p1_sn (by decide) f_bf_8
        have ffs_1_9 : fs_1[9]? = some (.int blikes) := by rw [← efs_1]; exact p1_sn (by decide) f_bf_9
        have ffs_1_10 : fs_1[10]? = some (.int bsmooth) := by rw [← efs_1]; exact p1_sn (by decide) f_bf_10
        have ffs_1_11 : fs_1[11]? = some (.int bweight) := by rw [← efs_1]; exact p1_sn (by decide) f_bf_11
        have ffs_1_12 : fs_1[12]? = some (.int blength) := by rw [← efs_1]; exact p1_sn (by decide) f_bf_12
        have ffs_1_13 : fs_1[13]? = some (.int bstrike) := by rw [← efs_1]; exact p1_sn (by decide) f_bf_13
        have ffs_1_14 : fs_1[14]? = some (.int bswing) := by rw [← efs_1]; exact p1_sn (by decide) f_bf_14
        have ffs_1_3 : fs_1[3]? = some (.int bcrossings) := by rw [← efs_1]; exact p1_sa l_bf (by decide)
        refine lv_aload_n hx hb dX0_begin_31 rfl (lv_at hl 1 rfl) ?_
        refine va_get (D := (dC, dI)) (ci := 0) (v := .ref en) (C := RX0) (T := TX0) (N := 15) hx hb hts i_X0 hown hK hP 0 rfl rfl 1 (by decide) k_2 (fun _ h9 => h9) ffs_1_1 dX0_begin_32 ?_
        refine lv_iconst (v := 0) hx hb dX0_begin_35 (by decide) ?_
        refine lv_aload_n hx hb dX0_begin_36 rfl (lv_at hl 1 rfl) ?_
        refine va_get (D := (dC, dI)) (ci := 0) (v := .int blength) (C := RX0) (T := TX0) (N := 15) hx hb hts i_X0 hown hK hP 0 rfl rfl 12 (by decide) k_3 (fun _ h9 => h9) ffs_1_12 dX0_begin_37 ?_
        refine va_iast hx hb hK hP hD hS 2 1 rfl rfl (p1_in (i := 0) (n := 2) (by decide)) dX0_begin_40 (fun H locs hP hD hS => ?_)
        have hP : va_P (dC, dI) vwCl [(bw, .inr (0, fs_1)), (tg, .inl (cT, 12, .inl rz_tg)), (en, .inl (cE, 2, .inl (upd ef (0 : Int32).toNatClampNeg blength)))] H := hP
        have hD : va_D A [(bw, .inr (0, fs_1)), (tg, .inl (cT, 12, .inl rz_tg)), (en, .inl (cE, 2, .inl (upd ef (0 : Int32).toNatClampNeg blength)))] := hD
        generalize eg_2 : (upd ef (0 : Int32).toNatClampNeg blength) = g_2 at hP hD
        refine lv_aload_n hx hb dX0_begin_41 rfl (lv_at hl 1 rfl) ?_
        refine va_get (D := (dC, dI)) (ci := 0) (v := .ref en) (C := RX0) (T := TX0) (N := 15) hx hb hts i_X0 hown hK hP 0 rfl rfl 1 (by decide) k_2 (fun _ h9 => h9) ffs_1_1 dX0_begin_42 ?_
        refine lv_iconst (v := 1) hx hb dX0_begin_45 (by decide) ?_
        refine lv_aload_n hx hb dX0_begin_46 rfl (lv_at hl 1 rfl) ?_
        refine va_get (D := (dC, dI)) (ci := 0) (v := .int blength) (C := RX0) (T := TX0) (N := 15) hx hb hts i_X0 hown hK hP 0 rfl rfl 12 (by decide) k_3 (fun _ h9 => h9) ffs_1_12 dX0_begin_47 ?_
        refine va_iast hx hb hK hP hD hS 2 1 rfl rfl (p1_in (i := 1) (n := 2) (by decide)) dX0_begin_50 (fun H locs hP hD hS => ?_)
        have hP : va_P (dC, dI) vwCl [(bw, .inr (0, fs_1)), (tg, .inl (cT, 12, .inl rz_tg)), (en, .inl (cE, 2, .inl (upd g_2 (1 : Int32).toNatClampNeg blength)))] H := hP
        have hD : va_D A [(bw, .inr (0, fs_1)), (tg, .inl (cT, 12, .inl rz_tg)), (en, .inl (cE, 2, .inl (upd g_2 (1 : Int32).toNatClampNeg blength)))] := hD
        generalize eg_3 : (upd g_2 (1 : Int32).toNatClampNeg blength) = g_3 at hP hD
        refine lv_aload_n hx hb dX0_begin_51 rfl (lv_at hl 1 rfl) ?_
        refine lv_iconst (v := 0) hx hb dX0_begin_52 (by decide) ?_
        refine va_put (D := (dC, dI)) (ci := 0) (v := .int 0) (ty := .int) (C := RX0) (T := TX0) (N := 15) hx hb hts i_X0 tyX0 tyX0_ok nmX0 hown hK hP hD hS 0 rfl rfl 4 (by decide) k_4 (fun _ h9 => h9) rfl (by decide +kernel) rfl rfl (by rw [lfs_1]; decide) dX0_begin_53 (fun H locs hP hD hS => ?_)
        have hP : va_P (dC, dI) vwCl [(bw, .inr (0, (fs_1.set 4 (.int 0)))), (tg, .inl (cT, 12, .inl rz_tg)), (en, .inl (cE, 2, .inl g_3))] H := hP
        have hD : va_D A [(bw, .inr (0, (fs_1.set 4 (.int 0)))), (tg, .inl (cT, 12, .inl rz_tg)), (en, .inl (cE, 2, .inl g_3))] := hD
        generalize efs_4 : (fs_1.set 4 (.int 0)) = fs_4 at hP hD
        have lfs_4 : fs_4.length = 15 := by rw [← efs_4, List.length_set]; exact lfs_1
        have ffs_4_0 : fs_4[0]? = some (.ref tg) := by rw [← efs_4]; exact p1_sn (by decide) ffs_1_0
        have ffs_4_1 : fs_4[1]? = some (.ref en) := by rw [← efs_4]; exact p1_sn (by decide) ffs_1_1
        have ffs_4_2 : fs_4[2]? = some (.int bcrossings) := by rw [← efs_4]; exact p1_sn (by decide) ffs_1_2
        have ffs_4_5 : fs_4[5]? = some (.int bslipped) := by rw [← efs_4]; exact p1_sn (by decide) ffs_1_5
        have ffs_4_6 : fs_4[6]? = some (.int bwalk) := by rw [← efs_4]; exact p1_sn (by decide) ffs_1_6
        have ffs_4_7 : fs_4[7]? = some (.int bnextStep) := by rw [← efs_4]; exact p1_sn (by decide) ffs_1_7
        have ffs_4_8 : fs_4[8]? = some (.int bsides) := by rw [← efs_4]; exact p1_sn (by decide) ffs_1_8
        have ffs_4_9 : fs_4[9]? = some (.int blikes) := by rw [← efs_4]; exact p1_sn (by decide) ffs_1_9
        have ffs_4_10 : fs_4[10]? = some (.int bsmooth) := by rw [← efs_4]; exact p1_sn (by decide) ffs_1_10
        have ffs_4_11 : fs_4[11]? = some (.int bweight) := by rw [← efs_4]; exact p1_sn (by decide) ffs_1_11
        have ffs_4_12 : fs_4[12]? = some (.int blength) := by rw [← efs_4]; exact p1_sn (by decide) ffs_1_12
        have ffs_4_13 : fs_4[13]? = some (.int bstrike) := by rw [← efs_4]; exact p1_sn (by decide) ffs_1_13
        have ffs_4_14 : fs_4[14]? = some (.int bswing) := by rw [← efs_4]; exact p1_sn (by decide) ffs_1_14
        have ffs_4_3 : fs_4[3]? = some (.int bcrossings) := by rw [← efs_4]; exact p1_sn (by decide) ffs_1_3
        have ffs_4_4 : fs_4[4]? = some (.int 0) := by rw [← efs_4]; exact p1_sa lfs_1 (by decide)
        refine lv_aload_n hx hb dX0_begin_56 rfl (lv_at hl 1 rfl) ?_
        refine lv_iconst (v := 0) hx hb dX0_begin_57 (by decide) ?_
        refine va_put (D := (dC, dI)) (ci := 0) (v := .int 0) (ty := .int) (C := RX0) (T := TX0) (N := 15) hx hb hts i_X0 tyX0 tyX0_ok nmX0 hown hK hP hD hS 0 rfl rfl 5 (by decide) k_5 (fun _ h9 => h9) rfl (by decide +kernel) rfl rfl (by rw [lfs_4]; decide) dX0_begin_58 (fun H locs hP hD hS => ?_)
        have hP : va_P (dC, dI) vwCl [(bw, .inr (0, (fs_4.set 5 (.int 0)))), (tg, .inl (cT, 12, .inl rz_tg)), (en, .inl (cE, 2, .inl g_3))] H := hP
        have hD : va_D A [(bw, .inr (0, (fs_4.set 5 (.int 0)))), (tg, .inl (cT, 12, .inl rz_tg)), (en, .inl (cE, 2, .inl g_3))] := hD
        generalize efs_5 : (fs_4.set 5 (.int 0)) = fs_5 at hP hD
        have lfs_5 : fs_5.length = 15 := by rw [← efs_5, List.length_set]; exact lfs_4
        have ffs_5_0 : fs_5[0]? = some (.ref tg) := by rw [← efs_5]; exact p1_sn (by decide) ffs_4_0
        have ffs_5_1 : fs_5[1]? = some (.ref en) := by rw [← efs_5]; exact p1_sn (by decide) ffs_4_1
        have ffs_5_2 : fs_5[2]? = some (.int bcrossings) := by rw [← efs_5]; exact p1_sn (by decide) ffs_4_2
        have ffs_5_6 : fs_5[6]? = some (.int bwalk) := by rw [← efs_5]; exact p1_sn (by decide) ffs_4_6
        have ffs_5_7 : fs_5[7]? = some (.int bnextStep) := by rw [← efs_5]; exact p1_sn (by decide) ffs_4_7
        have ffs_5_8 : fs_5[8]? = some (.int bsides) := by rw [← efs_5]; exact p1_sn (by decide) ffs_4_8
        have ffs_5_9 : fs_5[9]? = some (.int blikes) := by rw [← efs_5]; exact p1_sn (by decide) ffs_4_9
        have ffs_5_10 : fs_5[10]? = some (.int bsmooth) := by rw [← efs_5]; exact p1_sn (by decide) ffs_4_10
        have ffs_5_11 : fs_5[11]? = some (.int bweight) := by rw [← efs_5]; exact p1_sn (by decide) ffs_4_11
        have ffs_5_12 : fs_5[12]? = some (.int blength) := by rw [← efs_5]; exact p1_sn (by decide) ffs_4_12
        have ffs_5_13 : fs_5[13]? = some (.int bstrike) := by rw [← efs_5]; exact p1_sn (by decide) ffs_4_13
        have ffs_5_14 : fs_5[14]? = some (.int bswing) := by rw [← efs_5]; exact p1_sn (by decide) ffs_4_14
        have ffs_5_3 : fs_5[3]? = some (.int bcrossings) := by rw [← efs_5]; exact p1_sn (by decide) ffs_4_3
        have ffs_5_4 : fs_5[4]? = some (.int 0) := by rw [← efs_5]; exact p1_sn (by decide) ffs_4_4
        have ffs_5_5 : fs_5[5]? = some (.int 0) := by rw [← efs_5]; exact p1_sa lfs_4 (by decide)
        refine lv_aload_n hx hb dX0_begin_61 rfl (lv_at hl 1 rfl) ?_
        refine lv_iconst (v := (-1)) hx hb dX0_begin_62 (by decide) ?_
        refine va_put (D := (dC, dI)) (ci := 0) (v := .int (-1)) (ty := .int) (C := RX0) (T := TX0) (N := 15) hx hb hts i_X0 tyX0 tyX0_ok nmX0 hown hK hP hD hS 0 rfl rfl 6 (by decide) k_6 (fun _ h9 => h9) rfl (by decide +kernel) rfl rfl (by rw [lfs_5]; decide) dX0_begin_63 (fun H locs hP hD hS => ?_)
        have hP : va_P (dC, dI) vwCl [(bw, .inr (0, (fs_5.set 6 (.int (-1))))), (tg, .inl (cT, 12, .inl rz_tg)), (en, .inl (cE, 2, .inl g_3))] H := hP
        have hD : va_D A [(bw, .inr (0, (fs_5.set 6 (.int (-1))))), (tg, .inl (cT, 12, .inl rz_tg)), (en, .inl (cE, 2, .inl g_3))] := hD
        generalize efs_6 : (fs_5.set 6 (.int (-1))) = fs_6 at hP hD
        have lfs_6 : fs_6.length = 15 := by rw [← efs_6, List.length_set]; exact lfs_5
        have ffs_6_0 : fs_6[0]? = some (.ref tg) := by rw [← efs_6]; exact p1_sn (by decide) ffs_5_0
        have ffs_6_1 : fs_6[1]? = some (.ref en) := by rw [← efs_6]; exact p1_sn (by decide) ffs_5_1
        have ffs_6_2 : fs_6[2]? = some (.int bcrossings) := by rw [← efs_6]; exact p1_sn (by decide) ffs_5_2
        have ffs_6_7 : fs_6[7]? = some (.int bnextStep) := by rw [← efs_6]; exact p1_sn (by decide) ffs_5_7
        have ffs_6_8 : fs_6[8]? = some (.int bsides) := by rw [← efs_6]; exact p1_sn (by decide) ffs_5_8
        have ffs_6_9 : fs_6[9]? = some (.int blikes) := by rw [← efs_6]; exact p1_sn (by decide) ffs_5_9
        have ffs_6_10 : fs_6[10]? = some (.int bsmooth) := by rw [← efs_6]; exact p1_sn (by decide) ffs_5_10
        have ffs_6_11 : fs_6[11]? = some (.int bweight) := by rw [← efs_6]; exact p1_sn (by decide) ffs_5_11
        have ffs_6_12 : fs_6[12]? = some (.int blength) := by rw [← efs_6]; exact p1_sn (by decide) ffs_5_12
        have ffs_6_13 : fs_6[13]? = some (.int bstrike) := by rw [← efs_6]; exact p1_sn (by decide) ffs_5_13
        have ffs_6_14 : fs_6[14]? = some (.int bswing) := by rw [← efs_6]; exact p1_sn (by decide) ffs_5_14
        have ffs_6_3 : fs_6[3]? = some (.int bcrossings) := by rw [← efs_6]; exact p1_sn (by decide) ffs_5_3
        have ffs_6_4 : fs_6[4]? = some (.int 0) := by rw [← efs_6]; exact p1_sn (by decide) ffs_5_4
        have ffs_6_5 : fs_6[5]? = some (.int 0) := by rw [← efs_6]; exact p1_sn (by decide) ffs_5_5
        have ffs_6_6 : fs_6[6]? = some (.int (-1)) := by rw [← efs_6]; exact p1_sa lfs_5 (by decide)
        refine lv_aload_n hx hb dX0_begin_66 rfl (lv_at hl 1 rfl) ?_
        refine lv_iconst (v := 0) hx hb dX0_begin_67 (by decide) ?_
        refine va_put (D := (dC, dI)) (ci := 0) (v := .int 0) (ty := .int) (C := RX0) (T := TX0) (N := 15) hx hb hts i_X0 tyX0 tyX0_ok nmX0 hown hK hP hD hS 0 rfl rfl 7 (by decide) k_7 (fun _ h9 => h9) rfl (by decide +kernel) rfl rfl (by rw [lfs_6]; decide) dX0_begin_68 (fun H locs hP hD hS => ?_)
        have hP : va_P (dC, dI) vwCl [(bw, .inr (0, (fs_6.set 7 (.int 0)))), (tg, .inl (cT, 12, .inl rz_tg)), (en, .inl (cE, 2, .inl g_3))] H := hP
        have hD : va_D A [(bw, .inr (0, (fs_6.set 7 (.int 0)))), (tg, .inl (cT, 12, .inl rz_tg)), (en, .inl (cE, 2, .inl g_3))] := hD
        generalize efs_7 : (fs_6.set 7 (.int 0)) = fs_7 at hP hD
        have lfs_7 : fs_7.length = 15 := by rw [← efs_7, List.length_set]; exact lfs_6
        have ffs_7_0 : fs_7[0]? = some (.ref tg) := by rw [← efs_7]; exact p1_sn (by decide) ffs_6_0
        have ffs_7_1 : fs_7[1]? = some (.ref en) := by rw [← efs_7]; exact p1_sn (by decide) ffs_6_1
        have ffs_7_2 : fs_7[2]? = some (.int bcrossings) := by rw [← efs_7]; exact p1_sn (by decide) ffs_6_2
        have ffs_7_8 : fs_7[8]? = some (.int bsides) := by rw [← efs_7]; exact p1_sn (by decide) ffs_6_8
        have ffs_7_9 : fs_7[9]? = some (.int blikes) := by rw [← efs_7]; exact p1_sn (by decide) ffs_6_9
        have ffs_7_10 : fs_7[10]? = some (.int bsmooth) := by rw [← efs_7]; exact p1_sn (by decide) ffs_6_10
        have ffs_7_11 : fs_7[11]? = some (.int bweight) := by rw [← efs_7]; exact p1_sn (by decide) ffs_6_11
        have ffs_7_12 : fs_7[12]? = some (.int blength) := by rw [← efs_7]; exact p1_sn (by decide) ffs_6_12
        have ffs_7_13 : fs_7[13]? = some (.int bstrike) := by rw [← efs_7]; exact p1_sn (by decide) ffs_6_13
        have ffs_7_14 : fs_7[14]? = some (.int bswing) := by rw [← efs_7]; exact p1_sn (by decide) ffs_6_14
        have ffs_7_3 : fs_7[3]? = some (.int bcrossings) := by rw [← efs_7]; exact p1_sn (by decide) ffs_6_3
        have ffs_7_4 : fs_7[4]? = some (.int 0) := by rw [← efs_7]; exact p1_sn (by decide) ffs_6_4
        have ffs_7_5 : fs_7[5]? = some (.int 0) := by rw [← efs_7]; exact p1_sn (by decide) ffs_6_5
        have ffs_7_6 : fs_7[6]? = some (.int (-1)) := by rw [← efs_7]; exact p1_sn (by decide) ffs_6_6
        have ffs_7_7 : fs_7[7]? = some (.int 0) := by rw [← efs_7]; exact p1_sa lfs_6 (by decide)
        have hP9 := hP.sub (ws' := [(bw, .inr (0, fs_7)), (tg, .inl (cT, 12, .inl rz_tg)), (en, .inl (cE, 2, .inl g_3))]) [0, 1, 2] rfl
        have hD9 := hD.sub (ws' := [(bw, .inr (0, fs_7)), (tg, .inl (cT, 12, .inl rz_tg)), (en, .inl (cE, 2, .inl g_3))]) [0, 1, 2] (by decide) rfl
        have hK9 := hK.sub (tys' := []) [] rfl
        exact W.vret hx hb hr (fun t ht hW => ⟨⟨(), rfl, trivial, fs_7, bcrossings, 0, 0, ((-1)), 0, rz_tg, g_3, lfs_7, ffs_7_0, ffs_7_1, ffs_7_2, ffs_7_3, ffs_7_4, ffs_7_5, ffs_7_6, ffs_7_7, ffs_7_8, ffs_7_9, ffs_7_10, ffs_7_11, ffs_7_12, ffs_7_13, ffs_7_14, (by first | rfl | omega | exact ⟨by omega, by omega⟩), (by first | rfl | omega | exact ⟨by omega, by omega⟩), by rw [ht]; exact hP9, va_K.moved hW.alike hK9, hD9⟩, hS.F ht⟩) hS.2.2 dX0_begin_71
      · have tc7 := q_ltN c7
        refine lv_aload_n hx hb dX0_begin_10 rfl (lv_at hl 1 rfl) ?_
        refine va_get (D := (dC, dI)) (ci := 0) (v := .ref tg) (C := RX0) (T := TX0) (N := 15) hx hb hts i_X0 hown hK hP 0 rfl rfl 0 (by decide) k_8 (fun _ h9 => h9) f_bf_0 dX0_begin_11 ?_
        refine lv_iload_n hx hb dX0_begin_14 rfl (lv_at hl 0 rfl) ?_
        refine lv_iload_n hx hb dX0_begin_15 rfl (lv_at hl 2 rfl) ?_
        refine va_iast hx hb hK hP hD hS 1 0 rfl rfl (q_in (by omega) (by omega)) dX0_begin_16 (fun H locs hP hD hS => ?_)
        have hP : va_P (dC, dI) vwCl [(bw, .inr (0, bf)), (tg, .inl (cT, 12, .inl (upd rz_tg i.toNatClampNeg a1))), (en, .inl (cE, 2, .inl ef))] H := hP
        have hD : va_D A [(bw, .inr (0, bf)), (tg, .inl (cT, 12, .inl (upd rz_tg i.toNatClampNeg a1))), (en, .inl (cE, 2, .inl ef))] := hD
        generalize eg_8 : (upd rz_tg i.toNatClampNeg a1) = g_8 at hP hD
        obtain ⟨v_9, ev_9⟩ : ∃ y : Int32, y = i + 1 := ⟨_, rfl⟩
        try have tv_9 := q_add ev_9 (by omega) (by omega)
        refine lv_iinc (v := v_9) (lv' := [(2, .int v_9), (0, .ref bw), (1, .int a1)]) hx hb dX0_begin_17 hl (k := 0) rfl (by rw [ev_9]; rfl) (by decide) rfl (fun ls hl => ?_)
        refine lv_goto (tgt := 2) hx hb dX0_begin_20 (by decide) ?_
        exfalso; omega
    | succ fu ih2 =>
      intro i rz_tg H locs ls hfu hp0 hP hD hS hl
      refine lv_iload_n hx hb dX0_begin_2 rfl (lv_at hl 0 rfl) ?_
      refine lv_aload_n hx hb dX0_begin_3 rfl (lv_at hl 1 rfl) ?_
      refine va_get (D := (dC, dI)) (ci := 0) (v := .int bcrossings) (C := RX0) (T := TX0) (N := 15) hx hb hts i_X0 hown hK hP 0 rfl rfl 2 (by decide) k_0 (fun _ h9 => h9) f_bf_2 dX0_begin_4 ?_
      refine lv_icmp_ge (tgt := 23) hx hb dX0_begin_7 (by decide) (fun c7 => ?_) (fun c7 => ?_)
      · have tc7 := q_ge c7
        refine lv_aload_n hx hb dX0_begin_23 rfl (lv_at hl 1 rfl) ?_
        refine lv_aload_n hx hb dX0_begin_24 rfl (lv_at hl 1 rfl) ?_
        refine va_get (D := (dC, dI)) (ci := 0) (v := .int bcrossings) (C := RX0) (T := TX0) (N := 15) hx hb hts i_X0 hown hK hP 0 rfl rfl 2 (by decide) k_0 (fun _ h9 => h9) f_bf_2 dX0_begin_25 ?_
        refine va_put (D := (dC, dI)) (ci := 0) (v := .int bcrossings) (ty := .int) (C := RX0) (T := TX0) (N := 15) hx hb hts i_X0 tyX0 tyX0_ok nmX0 hown hK hP hD hS 0 rfl rfl 3 (by decide) k_1 (fun _ h9 => h9) rfl (by decide +kernel) rfl rfl (by rw [l_bf]; decide) dX0_begin_28 (fun H locs hP hD hS => ?_)
        have hP : va_P (dC, dI) vwCl [(bw, .inr (0, (bf.set 3 (.int bcrossings)))), (tg, .inl (cT, 12, .inl rz_tg)), (en, .inl (cE, 2, .inl ef))] H := hP
        have hD : va_D A [(bw, .inr (0, (bf.set 3 (.int bcrossings)))), (tg, .inl (cT, 12, .inl rz_tg)), (en, .inl (cE, 2, .inl ef))] := hD
        generalize efs_10 : (bf.set 3 (.int bcrossings)) = fs_10 at hP hD
        have lfs_10 : fs_10.length = 15 := by rw [← efs_10, List.length_set]; exact l_bf
        have ffs_10_0 : fs_10[0]? = some (.ref tg) := by rw [← efs_10]; exact p1_sn (by decide) f_bf_0
        have ffs_10_1 : fs_10[1]? = some (.ref en) := by rw [← efs_10]; exact p1_sn (by decide) f_bf_1
        have ffs_10_2 : fs_10[2]? = some (.int bcrossings) := by rw [← efs_10]; exact p1_sn (by decide) f_bf_2
        have ffs_10_4 : fs_10[4]? = some (.int bsteps) := by rw [← efs_10]; exact p1_sn (by decide) f_bf_4
        have ffs_10_5 : fs_10[5]? = some (.int bslipped) := by rw [← efs_10]; exact p1_sn (by decide) f_bf_5
        have ffs_10_6 : fs_10[6]? = some (.int bwalk) := by rw [← efs_10]; exact p1_sn (by decide) f_bf_6
        have ffs_10_7 : fs_10[7]? = some (.int bnextStep) := by rw [← efs_10]; exact p1_sn (by decide) f_bf_7
        have ffs_10_8 : fs_10[8]? = some (.int bsides) := by rw [← efs_10]; exact p1_sn (by decide) f_bf_8
        have ffs_10_9 : fs_10[9]? = some (.int blikes) := by rw [← efs_10]; exact p1_sn (by decide) f_bf_9
        have ffs_10_10 : fs_10[10]? = some (.int bsmooth) := by rw [← efs_10]; exact p1_sn (by decide) f_bf_10
        have ffs_10_11 : fs_10[11]? = some (.int bweight) := by rw [← efs_10]; exact p1_sn (by decide) f_bf_11
        have ffs_10_12 : fs_10[12]? = some (.int blength) := by rw [← efs_10]; exact p1_sn (by decide) f_bf_12
        have ffs_10_13 : fs_10[13]? = some (.int bstrike) := by rw [← efs_10]; exact p1_sn (by decide) f_bf_13
        have ffs_10_14 : fs_10[14]? = some (.int bswing) := by rw [← efs_10]; exact p1_sn (by decide) f_bf_14
        have ffs_10_3 : fs_10[3]? = some (.int bcrossings) := by rw [← efs_10]; exact p1_sa l_bf (by decide)
        refine lv_aload_n hx hb dX0_begin_31 rfl (lv_at hl 1 rfl) ?_
        refine va_get (D := (dC, dI)) (ci := 0) (v := .ref en) (C := RX0) (T := TX0) (N := 15) hx hb hts i_X0 hown hK hP 0 rfl rfl 1 (by decide) k_2 (fun _ h9 => h9) ffs_10_1 dX0_begin_32 ?_
        refine lv_iconst (v := 0) hx hb dX0_begin_35 (by decide) ?_
        refine lv_aload_n hx hb dX0_begin_36 rfl (lv_at hl 1 rfl) ?_
        refine va_get (D := (dC, dI)) (ci := 0) (v := .int blength) (C := RX0) (T := TX0) (N := 15) hx hb hts i_X0 hown hK hP 0 rfl rfl 12 (by decide) k_3 (fun _ h9 => h9) ffs_10_12 dX0_begin_37 ?_
        refine va_iast hx hb hK hP hD hS 2 1 rfl rfl (p1_in (i := 0) (n := 2) (by decide)) dX0_begin_40 (fun H locs hP hD hS => ?_)
        have hP : va_P (dC, dI) vwCl [(bw, .inr (0, fs_10)), (tg, .inl (cT, 12, .inl rz_tg)), (en, .inl (cE, 2, .inl (upd ef (0 : Int32).toNatClampNeg blength)))] H := hP
        have hD : va_D A [(bw, .inr (0, fs_10)), (tg, .inl (cT, 12, .inl rz_tg)), (en, .inl (cE, 2, .inl (upd ef (0 : Int32).toNatClampNeg blength)))] := hD
        generalize eg_11 : (upd ef (0 : Int32).toNatClampNeg blength) = g_11 at hP hD
        refine lv_aload_n hx hb dX0_begin_41 rfl (lv_at hl 1 rfl) ?_
        refine va_get (D := (dC, dI)) (ci := 0) (v := .ref en) (C := RX0) (T := TX0) (N := 15) hx hb hts i_X0 hown hK hP 0 rfl rfl 1 (by decide) k_2 (fun _ h9 => h9) ffs_10_1 dX0_begin_42 ?_
        refine lv_iconst (v := 1) hx hb dX0_begin_45 (by decide) ?_
        refine lv_aload_n hx hb dX0_begin_46 rfl (lv_at hl 1 rfl) ?_
        refine va_get (D := (dC, dI)) (ci := 0) (v := .int blength) (C := RX0) (T := TX0) (N := 15) hx hb hts i_X0 hown hK hP 0 rfl rfl 12 (by decide) k_3 (fun _ h9 => h9) ffs_10_12 dX0_begin_47 ?_
        refine va_iast hx hb hK hP hD hS 2 1 rfl rfl (p1_in (i := 1) (n := 2) (by decide)) dX0_begin_50 (fun H locs hP hD hS => ?_)
        have hP : va_P (dC, dI) vwCl [(bw, .inr (0, fs_10)), (tg, .inl (cT, 12, .inl rz_tg)), (en, .inl (cE, 2, .inl (upd g_11 (1 : Int32).toNatClampNeg blength)))] H := hP
        have hD : va_D A [(bw, .inr (0, fs_10)), (tg, .inl (cT, 12, .inl rz_tg)), (en, .inl (cE, 2, .inl (upd g_11 (1 : Int32).toNatClampNeg blength)))] := hD
        generalize eg_12 : (upd g_11 (1 : Int32).toNatClampNeg blength) = g_12 at hP hD
        refine lv_aload_n hx hb dX0_begin_51 rfl (lv_at hl 1 rfl) ?_
        refine lv_iconst (v := 0) hx hb dX0_begin_52 (by decide) ?_
        refine va_put (D := (dC, dI)) (ci := 0) (v := .int 0) (ty := .int) (C := RX0) (T := TX0) (N := 15) hx hb hts i_X0 tyX0 tyX0_ok nmX0 hown hK hP hD hS 0 rfl rfl 4 (by decide) k_4 (fun _ h9 => h9) rfl (by decide +kernel) rfl rfl (by rw [lfs_10]; decide) dX0_begin_53 (fun H locs hP hD hS => ?_)
        have hP : va_P (dC, dI) vwCl [(bw, .inr (0, (fs_10.set 4 (.int 0)))), (tg, .inl (cT, 12, .inl rz_tg)), (en, .inl (cE, 2, .inl g_12))] H := hP
        have hD : va_D A [(bw, .inr (0, (fs_10.set 4 (.int 0)))), (tg, .inl (cT, 12, .inl rz_tg)), (en, .inl (cE, 2, .inl g_12))] := hD
        generalize efs_13 : (fs_10.set 4 (.int 0)) = fs_13 at hP hD
        have lfs_13 : fs_13.length = 15 := by rw [← efs_13, List.length_set]; exact lfs_10
        have ffs_13_0 : fs_13[0]? = some (.ref tg) := by rw [← efs_13]; exact p1_sn (by decide) ffs_10_0
        have ffs_13_1 : fs_13[1]? = some (.ref en) := by rw [← efs_13]; exact p1_sn (by decide) ffs_10_1
        have ffs_13_2 : fs_13[2]? = some (.int bcrossings) := by rw [← efs_13]; exact p1_sn (by decide) ffs_10_2
        have ffs_13_5 : fs_13[5]? = some (.int bslipped) := by rw [← efs_13]; exact p1_sn (by decide) ffs_10_5
        have ffs_13_6 : fs_13[6]? = some (.int bwalk) := by rw [← efs_13]; exact p1_sn (by decide) ffs_10_6
        have ffs_13_7 : fs_13[7]? = some (.int bnextStep) := by rw [← efs_13]; exact p1_sn (by decide) ffs_10_7
        have ffs_13_8 : fs_13[8]? = some (.int bsides) := by rw [← efs_13]; exact p1_sn (by decide) ffs_10_8
        have ffs_13_9 : fs_13[9]? = some (.int blikes) := by rw [← efs_13]; exact p1_sn (by decide) ffs_10_9
        have ffs_13_10 : fs_13[10]? = some (.int bsmooth) := by rw [← efs_13]; exact p1_sn (by decide) ffs_10_10
        have ffs_13_11 : fs_13[11]? = some (.int bweight) := by rw [← efs_13]; exact p1_sn (by decide) ffs_10_11
        have ffs_13_12 : fs_13[12]? = some (.int blength) := by rw [← efs_13]; exact p1_sn (by decide) ffs_10_12
        have ffs_13_13 : fs_13[13]? = some (.int bstrike) := by rw [← efs_13]; exact p1_sn (by decide) ffs_10_13
        have ffs_13_14 : fs_13[14]? = some (.int bswing) := by rw [← efs_13]; exact p1_sn (by decide) ffs_10_14
        have ffs_13_3 : fs_13[3]? = some (.int bcrossings) := by rw [← efs_13]; exact p1_sn (by decide) ffs_10_3
        have ffs_13_4 : fs_13[4]? = some (.int 0) := by rw [← efs_13]; exact p1_sa lfs_10 (by decide)
        refine lv_aload_n hx hb dX0_begin_56 rfl (lv_at hl 1 rfl) ?_
        refine lv_iconst (v := 0) hx hb dX0_begin_57 (by decide) ?_
        refine va_put (D := (dC, dI)) (ci := 0) (v := .int 0) (ty := .int) (C := RX0) (T := TX0) (N := 15) hx hb hts i_X0 tyX0 tyX0_ok nmX0 hown hK hP hD hS 0 rfl rfl 5 (by decide) k_5 (fun _ h9 => h9) rfl (by decide +kernel) rfl rfl (by rw [lfs_13]; decide) dX0_begin_58 (fun H locs hP hD hS => ?_)
        have hP : va_P (dC, dI) vwCl [(bw, .inr (0, (fs_13.set 5 (.int 0)))), (tg, .inl (cT, 12, .inl rz_tg)), (en, .inl (cE, 2, .inl g_12))] H := hP
        have hD : va_D A [(bw, .inr (0, (fs_13.set 5 (.int 0)))), (tg, .inl (cT, 12, .inl rz_tg)), (en, .inl (cE, 2, .inl g_12))] := hD
        generalize efs_14 : (fs_13.set 5 (.int 0)) = fs_14 at hP hD
        have lfs_14 : fs_14.length = 15 := by rw [← efs_14, List.length_set]; exact lfs_13
        have ffs_14_0 : fs_14[0]? = some (.ref tg) := by rw [← efs_14]; exact p1_sn (by decide) ffs_13_0
        have ffs_14_1 : fs_14[1]? = some (.ref en) := by rw [← efs_14]; exact p1_sn (by decide) ffs_13_1
        have ffs_14_2 : fs_14[2]? = some (.int bcrossings) := by rw [← efs_14]; exact p1_sn (by decide) ffs_13_2
        have ffs_14_6 : fs_14[6]? = some (.int bwalk) := by rw [← efs_14]; exact p1_sn (by decide) ffs_13_6
        have ffs_14_7 : fs_14[7]? = some (.int bnextStep) := by rw [← efs_14]; exact p1_sn (by decide) ffs_13_7
        have ffs_14_8 : fs_14[8]? = some (.int bsides) := by rw [← efs_14]; exact p1_sn (by decide) ffs_13_8
        have ffs_14_9 : fs_14[9]? = some (.int blikes) := by rw [← efs_14]; exact p1_sn (by decide) ffs_13_9
        have ffs_14_10 : fs_14[10]? = some (.int bsmooth) := by rw [← efs_14]; exact p1_sn (by decide) ffs_13_10
        have ffs_14_11 : fs_14[11]? = some (.int bweight) := by rw [← efs_14]; exact p1_sn (by decide) ffs_13_11
        have ffs_14_12 : fs_14[12]? = some (.int blength) := by rw [← efs_14]; exact p1_sn (by decide) ffs_13_12
        have ffs_14_13 : fs_14[13]? = some (.int bstrike) := by rw [← efs_14]; exact p1_sn (by decide) ffs_13_13
        have ffs_14_14 : fs_14[14]? = some (.int bswing) := by rw [← efs_14]; exact p1_sn (by decide) ffs_13_14
        have ffs_14_3 : fs_14[3]? = some (.int bcrossings) := by rw [← efs_14]; exact p1_sn (by decide) ffs_13_3
        have ffs_14_4 : fs_14[4]? = some (.int 0) := by rw [← efs_14]; exact p1_sn (by decide) ffs_13_4
        have ffs_14_5 : fs_14[5]? = some (.int 0) := by rw [← efs_14]; exact p1_sa lfs_13 (by decide)
        refine lv_aload_n hx hb dX0_begin_61 rfl (lv_at hl 1 rfl) ?_
        refine lv_iconst (v := (-1)) hx hb dX0_begin_62 (by decide) ?_
        refine va_put (D := (dC, dI)) (ci := 0) (v := .int (-1)) (ty := .int) (C := RX0) (T := TX0) (N := 15) hx hb hts i_X0 tyX0 tyX0_ok nmX0 hown hK hP hD hS 0 rfl rfl 6 (by decide) k_6 (fun _ h9 => h9) rfl (by decide +kernel) rfl rfl (by rw [lfs_14]; decide) dX0_begin_63 (fun H locs hP hD hS => ?_)
        have hP : va_P (dC, dI) vwCl [(bw, .inr (0, (fs_14.set 6 (.int (-1))))), (tg, .inl (cT, 12, .inl rz_tg)), (en, .inl (cE, 2, .inl g_12))] H := hP
        have hD : va_D A [(bw, .inr (0, (fs_14.set 6 (.int (-1))))), (tg, .inl (cT, 12, .inl rz_tg)), (en, .inl (cE, 2, .inl g_12))] := hD
        generalize efs_15 : (fs_14.set 6 (.int (-1))) = fs_15 at hP hD
        have lfs_15 : fs_15.length = 15 := by rw [← efs_15, List.length_set]; exact lfs_14
        have ffs_15_0 : fs_15[0]? = some (.ref tg) := by rw [← efs_15]; exact p1_sn (by decide) ffs_14_0
        have ffs_15_1 : fs_15[1]? = some (.ref en) := by rw [← efs_15]; exact p1_sn (by decide) ffs_14_1
        have ffs_15_2 : fs_15[2]? = some (.int bcrossings) := by rw [← efs_15]; exact p1_sn (by decide) ffs_14_2
        have ffs_15_7 : fs_15[7]? = some (.int bnextStep) := by rw [← efs_15]; exact p1_sn (by decide) ffs_14_7
        have ffs_15_8 : fs_15[8]? = some (.int bsides) := by rw [← efs_15]; exact p1_sn (by decide) ffs_14_8
        have ffs_15_9 : fs_15[9]? = some (.int blikes) := by rw [← efs_15]; exact p1_sn (by decide) ffs_14_9
        have ffs_15_10 : fs_15[10]? = some (.int bsmooth) := by rw [← efs_15]; exact p1_sn (by decide) ffs_14_10
        have ffs_15_11 : fs_15[11]? = some (.int bweight) := by rw [← efs_15]; exact p1_sn (by decide) ffs_14_11
        have ffs_15_12 : fs_15[12]? = some (.int blength) := by rw [← efs_15]; exact p1_sn (by decide) ffs_14_12
        have ffs_15_13 : fs_15[13]? = some (.int bstrike) := by rw [← efs_15]; exact p1_sn (by decide) ffs_14_13
        have ffs_15_14 : fs_15[14]? = some (.int bswing) := by rw [← efs_15]; exact p1_sn (by decide) ffs_14_14
        have ffs_15_3 : fs_15[3]? = some (.int bcrossings) := by rw [← efs_15]; exact p1_sn (by decide) ffs_14_3
        have ffs_15_4 : fs_15[4]? = some (.int 0) := by rw [← efs_15]; exact p1_sn (by decide) ffs_14_4
        have ffs_15_5 : fs_15[5]? = some (.int 0) := by rw [← efs_15]; exact p1_sn (by decide) ffs_14_5
        have ffs_15_6 : fs_15[6]? = some (.int (-1)) := by rw [← efs_15]; exact p1_sa lfs_14 (by decide)
        refine lv_aload_n hx hb dX0_begin_66 rfl (lv_at hl 1 rfl) ?_
        refine lv_iconst (v := 0) hx hb dX0_begin_67 (by decide) ?_
        refine va_put (D := (dC, dI)) (ci := 0) (v := .int 0) (ty := .int) (C := RX0) (T := TX0) (N := 15) hx hb hts i_X0 tyX0 tyX0_ok nmX0 hown hK hP hD hS 0 rfl rfl 7 (by decide) k_7 (fun _ h9 => h9) rfl (by decide +kernel) rfl rfl (by rw [lfs_15]; decide) dX0_begin_68 (fun H locs hP hD hS => ?_)
        have hP : va_P (dC, dI) vwCl [(bw, .inr (0, (fs_15.set 7 (.int 0)))), (tg, .inl (cT, 12, .inl rz_tg)), (en, .inl (cE, 2, .inl g_12))] H := hP
        have hD : va_D A [(bw, .inr (0, (fs_15.set 7 (.int 0)))), (tg, .inl (cT, 12, .inl rz_tg)), (en, .inl (cE, 2, .inl g_12))] := hD
        generalize efs_16 : (fs_15.set 7 (.int 0)) = fs_16 at hP hD
        have lfs_16 : fs_16.length = 15 := by rw [← efs_16, List.length_set]; exact lfs_15
        have ffs_16_0 : fs_16[0]? = some (.ref tg) := by rw [← efs_16]; exact p1_sn (by decide) ffs_15_0
        have ffs_16_1 : fs_16[1]? = some (.ref en) := by rw [← efs_16]; exact p1_sn (by decide) ffs_15_1
        have ffs_16_2 : fs_16[2]? = some (.int bcrossings) := by rw [← efs_16]; exact p1_sn (by decide) ffs_15_2
        have ffs_16_8 : fs_16[8]? = some (.int bsides) := by rw [← efs_16]; exact p1_sn (by decide) ffs_15_8
        have ffs_16_9 : fs_16[9]? = some (.int blikes) := by rw [← efs_16]; exact p1_sn (by decide) ffs_15_9
        have ffs_16_10 : fs_16[10]? = some (.int bsmooth) := by rw [← efs_16]; exact p1_sn (by decide) ffs_15_10
        have ffs_16_11 : fs_16[11]? = some (.int bweight) := by rw [← efs_16]; exact p1_sn (by decide) ffs_15_11
        have ffs_16_12 : fs_16[12]? = some (.int blength) := by rw [← efs_16]; exact p1_sn (by decide) ffs_15_12
        have ffs_16_13 : fs_16[13]? = some (.int bstrike) := by rw [← efs_16]; exact p1_sn (by decide) ffs_15_13
        have ffs_16_14 : fs_16[14]? = some (.int bswing) := by rw [← efs_16]; exact p1_sn (by decide) ffs_15_14
        have ffs_16_3 : fs_16[3]? = some (.int bcrossings) := by rw [← efs_16]; exact p1_sn (by decide) ffs_15_3
        have ffs_16_4 : fs_16[4]? = some (.int 0) := by rw [← efs_16]; exact p1_sn (by decide) ffs_15_4
        have ffs_16_5 : fs_16[5]? = some (.int 0) := by rw [← efs_16]; exact p1_sn (by decide) ffs_15_5
        have ffs_16_6 : fs_16[6]? = some (.int (-1)) := by rw [← efs_16]; exact p1_sn (by decide) ffs_15_6
        have ffs_16_7 : fs_16[7]? = some (.int 0) := by rw [← efs_16]; exact p1_sa lfs_15 (by decide)
        have hP9 := hP.sub (ws' := [(bw, .inr (0, fs_16)), (tg, .inl (cT, 12, .inl rz_tg)), (en, .inl (cE, 2, .inl g_12))]) [0, 1, 2] rfl
        have hD9 := hD.sub (ws' := [(bw, .inr (0, fs_16)), (tg, .inl (cT, 12, .inl rz_tg)), (en, .inl (cE, 2, .inl g_12))]) [0, 1, 2] (by decide) rfl
        have hK9 := hK.sub (tys' := []) [] rfl
        exact W.vret hx hb hr (fun t ht hW => ⟨⟨(), rfl, trivial, fs_16, bcrossings, 0, 0, ((-1)), 0, rz_tg, g_12, lfs_16, ffs_16_0, ffs_16_1, ffs_16_2, ffs_16_3, ffs_16_4, ffs_16_5, ffs_16_6, ffs_16_7, ffs_16_8, ffs_16_9, ffs_16_10, ffs_16_11, ffs_16_12, ffs_16_13, ffs_16_14, (by first | rfl | omega | exact ⟨by omega, by omega⟩), (by first | rfl | omega | exact ⟨by omega, by omega⟩), by rw [ht]; exact hP9, va_K.moved hW.alike hK9, hD9⟩, hS.F ht⟩) hS.2.2 dX0_begin_71
      · have tc7 := q_ltN c7
        refine lv_aload_n hx hb dX0_begin_10 rfl (lv_at hl 1 rfl) ?_
        refine va_get (D := (dC, dI)) (ci := 0) (v := .ref tg) (C := RX0) (T := TX0) (N := 15) hx hb hts i_X0 hown hK hP 0 rfl rfl 0 (by decide) k_8 (fun _ h9 => h9) f_bf_0 dX0_begin_11 ?_
        refine lv_iload_n hx hb dX0_begin_14 rfl (lv_at hl 0 rfl) ?_
        refine lv_iload_n hx hb dX0_begin_15 rfl (lv_at hl 2 rfl) ?_
        refine va_iast hx hb hK hP hD hS 1 0 rfl rfl (q_in (by omega) (by omega)) dX0_begin_16 (fun H locs hP hD hS => ?_)
        have hP : va_P (dC, dI) vwCl [(bw, .inr (0, bf)), (tg, .inl (cT, 12, .inl (upd rz_tg i.toNatClampNeg a1))), (en, .inl (cE, 2, .inl ef))] H := hP
        have hD : va_D A [(bw, .inr (0, bf)), (tg, .inl (cT, 12, .inl (upd rz_tg i.toNatClampNeg a1))), (en, .inl (cE, 2, .inl ef))] := hD
        generalize eg_17 : (upd rz_tg i.toNatClampNeg a1) = g_17 at hP hD
        obtain ⟨v_18, ev_18⟩ : ∃ y : Int32, y = i + 1 := ⟨_, rfl⟩
        try have tv_18 := q_add ev_18 (by omega) (by omega)
        refine lv_iinc (v := v_18) (lv' := [(2, .int v_18), (0, .ref bw), (1, .int a1)]) hx hb dX0_begin_17 hl (k := 0) rfl (by rw [ev_18]; rfl) (by decide) rfl (fun ls hl => ?_)
        refine lv_goto (tgt := 2) hx hb dX0_begin_20 (by decide) ?_
        exact ih2 v_18 g_17 _ _ _ (by omega) (by omega) (hP.sub [0, 1, 2] rfl) (hD.sub [0, 1, 2] (by decide) rfl) hS (lv_sub hl [0, 1, 2] rfl)
  exact key2 12 0 tf _ _ _ (by omega) (by omega) hP hD hS (lv_sub hl [0, 1, 2] rfl)
def zo_d_lclear : List Cond := [.code yX3_clear cX3_clear 1 none, .fieldLink RX3 21 "BowWalk$Laws" "used" "I", .fieldLink RX3 25 "BowWalk$Laws" "rows" "I", .fieldLink RX3 28 "BowWalk$Laws" "units" "I"]
def zw_d_lclear : List Cond := zo_d_lclear ++ (wsX30 ++ [])
theorem gz_d_lclear : zw_d_lclear.all goodWord = true := p1_ga (by decide +kernel) (p1_ga gk_X3 p1_g0)
theorem iz_d_lclear : ∀ w ∈ zw_d_lclear, w ∈ lw_tbl := p1_ia (p1_all [572, 153, 154, 155] (by decide +kernel)) (p1_ia ik_X3 p1_i0)
set_option maxHeartbeats 4000000 in
set_option maxRecDepth 100000 in
theorem d_lclear (l : Launch) (dC : Nat → ClassId) (dI : Nat → Nat → Nat) (sz : Nat) (lw : Nat) (lf : List Value) (lc : Nat) (lb : Nat) (lk : Nat) (lus : Int32) (lro : Int32) (lun : Int32) (f_lf_0 : lf[0]? = some (.ref lc)) (f_lf_1 : lf[1]? = some (.ref lb)) (f_lf_2 : lf[2]? = some (.ref lk)) (f_lf_3 : lf[3]? = some (.int lus)) (f_lf_4 : lf[4]? = some (.int lro)) (f_lf_5 : lf[5]? = some (.int lun)) (l_lf : lf.length = 6) : Met l yX3_clear zw_d_lclear ({ frames := 0, cells := 0, slots := 0, locals := 0 }) (va_Pc [.ref lw] (fun U => U.heap.size = sz ∧ va_P (dC, dI) vwCl [(lw, .inr (3, lf))] U.heap ∧ va_K (dC, dI) vwCl [] U ∧ va_D (fun _ => True) [(lw, .inr (3, lf))])) (va_Qv (fun (_ : Unit) => True) (fun _ t => ∃ (lg : List Value), lg.length = 6 ∧ lg[0]? = some (.ref lc) ∧ lg[1]? = some (.ref lb) ∧ lg[2]? = some (.ref lk) ∧ lg[3]? = some (.int 0) ∧ lg[4]? = some (.int 0) ∧ lg[5]? = some (.int 0) ∧ va_P (dC, dI) vwCl [(lw, .inr (3, lg))] t.heap ∧ va_K (dC, dI) vwCl [] t ∧ va_D (va_A [(lw, .inr (3, lf))] sz) [(lw, .inr (3, lg))]) (va_A [(lw, .inr (3, lf))] sz)) 0 0 (va_A [(lw, .inr (3, lf))] sz) := by
  refine Met.ofW (cc := cX3_clear) (maxL := 1) (ret := none) (by decide) rfl ?_
  intro p e s m args below meth c s₁ B hml hv
  obtain ⟨rfl, hsz, hP, hK, hD0⟩ := hv
  have hx := B.exec
  have hb := B.bytes
  have hr := B.returns
  have hts := atoms_spec (ws := zw_d_lclear) B.pre
  have hown : s.vm.findClass RX3 = some m.cls := findClass_of_methodNamed B.named
  have hlocks := B.notSynchronized
  subst hsz
  have hD := hD0.self (sz := s.heap.size)
  generalize hAe : va_A [(lw, .inr (3, lf))] s.heap.size = A at hD ⊢
  have hA : ∀ q : Nat, s.heap.size ≤ q → A q := fun q h => by rw [← hAe]; exact Or.inr h
  have hS : va_S A s.heap s.heap [] := va_S.rf
  have hP : va_P (dC, dI) vwCl [(lw, .inr (3, lf))] s.heap := hP
  have m_0 : (.fieldLink RX3 21 "BowWalk$Laws" "used" "I" : Cond) ∈ zw_d_lclear := List.mem_append_left _ (List.mem_of_getElem? (i := 1) rfl)
  have k_0 := hts _ m_0
  have m_1 : (.fieldLink RX3 25 "BowWalk$Laws" "rows" "I" : Cond) ∈ zw_d_lclear := List.mem_append_left _ (List.mem_of_getElem? (i := 2) rfl)
  have k_1 := hts _ m_1
  have m_2 : (.fieldLink RX3 28 "BowWalk$Laws" "units" "I" : Cond) ∈ zw_d_lclear := List.mem_append_left _ (List.mem_of_getElem? (i := 3) rfl)
  have k_2 := hts _ m_2
  have i_X3 : ∀ w ∈ u_ws RX3 TX3 6, w ∈ zw_d_lclear := fun w h => List.mem_append_right _ (List.mem_append_left _ h)
  have hl := lv_entry ([.ref lw]) (n := 1) (Nat.le_of_ble_eq_true rfl)
  rw [lg_entry_eq]
  generalize (lg_sl ([.ref lw]) ++ List.replicate (1 - (lg_sl ([.ref lw])).length) Slot.unset).toArray = ls at hl ⊢
  have hl : lv_has ls 1 [(0, .ref lw)] := hl
  refine lv_aload_n hx hb dX3_clear_0 rfl (lv_at hl 0 rfl) ?_
  refine lv_iconst (v := 0) hx hb dX3_clear_1 (by decide) ?_
  refine va_put (D := (dC, dI)) (ci := 3) (v := .int 0) (ty := .int) (C := RX3) (T := TX3) (N := 6) hx hb hts i_X3 tyX3 tyX3_ok nmX3 hown hK hP hD hS 0 rfl rfl 3 (by decide) k_0 (fun _ h9 => h9) rfl (by decide +kernel) rfl rfl (by rw [l_lf]; decide) dX3_clear_2 (fun H locs hP hD hS => ?_)
  have hP : va_P (dC, dI) vwCl [(lw, .inr (3, (lf.set 3 (.int 0))))] H := hP
  have hD : va_D A [(lw, .inr (3, (lf.set 3 (.int 0))))] := hD
  generalize efs_1 : (lf.set 3 (.int 0)) = fs_1 at hP hD
  have lfs_1 : fs_1.length = 6 := by rw [← efs_1, List.length_set]; exact l_lf
  have ffs_1_0 : fs_1[0]? = some (.ref lc) := by rw [← efs_1]; exact p1_sn (by decide) f_lf_0
  have ffs_1_1 : fs_1[1]? = some (.ref lb) := by rw [← efs_1]; exact p1_sn (by decide) f_lf_1
  have ffs_1_2 : fs_1[2]? = some (.ref lk) := by rw [← efs_1]; exact p1_sn (by decide) f_lf_2
  have ffs_1_4 : fs_1[4]? = some (.int lro) := by rw [← efs_1]; exact p1_sn (by decide) f_lf_4
  have ffs_1_5 : fs_1[5]? = some (.int lun) := by rw [← efs_1]; exact p1_sn (by decide) f_lf_5
  have ffs_1_3 : fs_1[3]? = some (.int 0) := by rw [← efs_1]; exact p1_sa l_lf (by decide)
  refine lv_aload_n hx hb dX3_clear_5 rfl (lv_at hl 0 rfl) ?_
  refine lv_iconst (v := 0) hx hb dX3_clear_6 (by decide) ?_
  refine va_put (D := (dC, dI)) (ci := 3) (v := .int 0) (ty := .int) (C := RX3) (T := TX3) (N := 6) hx hb hts i_X3 tyX3 tyX3_ok nmX3 hown hK hP hD hS 0 rfl rfl 4 (by decide) k_1 (fun _ h9 => h9) rfl (by decide +kernel) rfl rfl (by rw [lfs_1]; decide) dX3_clear_7 (fun H locs hP hD hS => ?_)
  have hP : va_P (dC, dI) vwCl [(lw, .inr (3, (fs_1.set 4 (.int 0))))] H := hP
  have hD : va_D A [(lw, .inr (3, (fs_1.set 4 (.int 0))))] := hD
  generalize efs_2 : (fs_1.set 4 (.int 0)) = fs_2 at hP hD
  have lfs_2 : fs_2.length = 6 := by rw [← efs_2, List.length_set]; exact lfs_1
  have ffs_2_0 : fs_2[0]? = some (.ref lc) := by rw [← efs_2]; exact p1_sn (by decide) ffs_1_0
  have ffs_2_1 : fs_2[1]? = some (.ref lb) := by rw [← efs_2]; exact p1_sn (by decide) ffs_1_1
  have ffs_2_2 : fs_2[2]? = some (.ref lk) := by rw [← efs_2]; exact p1_sn (by decide) ffs_1_2
  have ffs_2_5 : fs_2[5]? = some (.int lun) := by rw [← efs_2]; exact p1_sn (by decide) ffs_1_5
  have ffs_2_3 : fs_2[3]? = some (.int 0) := by rw [← efs_2]; exact p1_sn (by decide) ffs_1_3
  have ffs_2_4 : fs_2[4]? = some (.int 0) := by rw [← efs_2]; exact p1_sa lfs_1 (by decide)
  refine lv_aload_n hx hb dX3_clear_10 rfl (lv_at hl 0 rfl) ?_
  refine lv_iconst (v := 0) hx hb dX3_clear_11 (by decide) ?_
  refine va_put (D := (dC, dI)) (ci := 3) (v := .int 0) (ty := .int) (C := RX3) (T := TX3) (N := 6) hx hb hts i_X3 tyX3 tyX3_ok nmX3 hown hK hP hD hS 0 rfl rfl 5 (by decide) k_2 (fun _ h9 => h9) rfl (by decide +kernel) rfl rfl (by rw [lfs_2]; decide) dX3_clear_12 (fun H locs hP hD hS => ?_)
  have hP : va_P (dC, dI) vwCl [(lw, .inr (3, (fs_2.set 5 (.int 0))))] H := hP
  have hD : va_D A [(lw, .inr (3, (fs_2.set 5 (.int 0))))] := hD
  generalize efs_3 : (fs_2.set 5 (.int 0)) = fs_3 at hP hD
  have lfs_3 : fs_3.length = 6 := by rw [← efs_3, List.length_set]; exact lfs_2
  have ffs_3_0 : fs_3[0]? = some (.ref lc) := by rw [← efs_3]; exact p1_sn (by decide) ffs_2_0
  have ffs_3_1 : fs_3[1]? = some (.ref lb) := by rw [← efs_3]; exact p1_sn (by decide) ffs_2_1
  have ffs_3_2 : fs_3[2]? = some (.ref lk) := by rw [← efs_3]; exact p1_sn (by decide) ffs_2_2
  have ffs_3_3 : fs_3[3]? = some (.int 0) := by rw [← efs_3]; exact p1_sn (by decide) ffs_2_3
  have ffs_3_4 : fs_3[4]? = some (.int 0) := by rw [← efs_3]; exact p1_sn (by decide) ffs_2_4
  have ffs_3_5 : fs_3[5]? = some (.int 0) := by rw [← efs_3]; exact p1_sa lfs_2 (by decide)
  have hP9 := hP.sub (ws' := [(lw, .inr (3, fs_3))]) [0] rfl
  have hD9 := hD.sub (ws' := [(lw, .inr (3, fs_3))]) [0] (by decide) rfl
  have hK9 := hK.sub (tys' := []) [] rfl
  exact W.vret hx hb hr (fun t ht hW => ⟨⟨(), rfl, trivial, fs_3, lfs_3, ffs_3_0, ffs_3_1, ffs_3_2, ffs_3_3, ffs_3_4, ffs_3_5, by rw [ht]; exact hP9, va_K.moved hW.alike hK9, hD9⟩, hS.F ht⟩) hS.2.2 dX3_clear_15
def zo_d_put : List Cond := [.code yX3_put cX3_put 2 (some .boolean), .fieldLink RX3 21 "BowWalk$Laws" "used" "I", .fieldLink RX3 9 "BowWalk$Laws" "code" "[I"]
def zw_d_put : List Cond := zo_d_put ++ (wsX30 ++ [])
theorem gz_d_put : zw_d_put.all goodWord = true := p1_ga (by decide +kernel) (p1_ga gk_X3 p1_g0)
theorem iz_d_put : ∀ w ∈ zw_d_put, w ∈ lw_tbl := p1_ia (p1_all [683, 153, 150] (by decide +kernel)) (p1_ia ik_X3 p1_i0)
set_option maxHeartbeats 4000000 in
set_option maxRecDepth 100000 in
theorem d_put (l : Launch) (dC : Nat → ClassId) (dI : Nat → Nat → Nat) (sz : Nat) (lw : Nat) (lf : List Value) (lc : Nat) (lb : Nat) (lk : Nat) (lus : Int32) (lro : Int32) (lun : Int32) (cC : ClassId) (cf : Nat → Int32) (a1 : Int32) (f_lf_0 : lf[0]? = some (.ref lc)) (f_lf_1 : lf[1]? = some (.ref lb)) (f_lf_2 : lf[2]? = some (.ref lk)) (f_lf_3 : lf[3]? = some (.int lus)) (f_lf_4 : lf[4]? = some (.int lro)) (f_lf_5 : lf[5]? = some (.int lun)) (l_lf : lf.length = 6) (h1 : 0 ≤ lus.toInt ∧ lus.toInt ≤ 600) : Met l yX3_put zw_d_put ({ frames := 0, cells := 0, slots := 0, locals := 0 }) (va_Pc [.ref lw, .int a1] (fun U => U.heap.size = sz ∧ va_P (dC, dI) vwCl [(lw, .inr (3, lf)), (lc, .inl (cC, 600, .inl cf))] U.heap ∧ va_K (dC, dI) vwCl [(cC, .int)] U ∧ va_D (fun _ => True) [(lw, .inr (3, lf)), (lc, .inl (cC, 600, .inl cf))])) (va_Qi (fun (r : Int32) (_ : Unit) => (r = 0 ∨ r = 1)) (fun _ t => ∃ (lg : List Value) (lux : Int32) (cg : Nat → Int32), lg.length = 6 ∧ lg[0]? = some (.ref lc) ∧ lg[1]? = some (.ref lb) ∧ lg[2]? = some (.ref lk) ∧ lg[3]? = some (.int lux) ∧ lg[4]? = some (.int lro) ∧ lg[5]? = some (.int lun) ∧ (lus.toInt ≤ lux.toInt ∧ lux.toInt ≤ 600) ∧ va_P (dC, dI) vwCl [(lw, .inr (3, lg)), (lc, .inl (cC, 600, .inl cg))] t.heap ∧ va_K (dC, dI) vwCl [] t ∧ va_D (va_A [(lw, .inr (3, lf)), (lc, .inl (cC, 600, .inl cf))] sz) [(lw, .inr (3, lg)), (lc, .inl (cC, 600, .inl cg))]) (va_A [(lw, .inr (3, lf)), (lc, .inl (cC, 600, .inl cf))] sz)) 0 0 (va_A [(lw, .inr (3, lf)), (lc, .inl (cC, 600, .inl cf))] sz) := by
  refine Met.ofW (cc := cX3_put) (maxL := 2) (ret := (some .boolean)) (by decide) rfl ?_
  intro p e s m args below meth c s₁ B hml hv
  obtain ⟨rfl, hsz, hP, hK, hD0⟩ := hv
  have hx := B.exec
  have hb := B.bytes
  have hr := B.returns
  have hts := atoms_spec (ws := zw_d_put) B.pre
  have hown : s.vm.findClass RX3 = some m.cls := findClass_of_methodNamed B.named
  have hlocks := B.notSynchronized
  subst hsz
  have hD := hD0.self (sz := s.heap.size)
  generalize hAe : va_A [(lw, .inr (3, lf)), (lc, .inl (cC, 600, .inl cf))] s.heap.size = A at hD ⊢
  have hA : ∀ q : Nat, s.heap.size ≤ q → A q := fun q h => by rw [← hAe]; exact Or.inr h
  have hS : va_S A s.heap s.heap [] := va_S.rf
  have hP : va_P (dC, dI) vwCl [(lw, .inr (3, lf)), (lc, .inl (cC, 600, .inl cf))] s.heap := hP
  have m_0 : (.fieldLink RX3 21 "BowWalk$Laws" "used" "I" : Cond) ∈ zw_d_put := List.mem_append_left _ (List.mem_of_getElem? (i := 1) rfl)
  have k_0 := hts _ m_0
  have m_1 : (.fieldLink RX3 9 "BowWalk$Laws" "code" "[I" : Cond) ∈ zw_d_put := List.mem_append_left _ (List.mem_of_getElem? (i := 2) rfl)
  have k_1 := hts _ m_1
  have i_X3 : ∀ w ∈ u_ws RX3 TX3 6, w ∈ zw_d_put := fun w h => List.mem_append_right _ (List.mem_append_left _ h)
  have lt_0 : (0 : Int32).toInt = 0 := by decide
  have lt_1 : (1 : Int32).toInt = 1 := by decide
  have lt_600 : (600 : Int32).toInt = 600 := by decide
  have hl := lv_entry ([.ref lw, .int a1]) (n := 2) (Nat.le_of_ble_eq_true rfl)
  rw [lg_entry_eq]
  generalize (lg_sl ([.ref lw, .int a1]) ++ List.replicate (2 - (lg_sl ([.ref lw, .int a1])).length) Slot.unset).toArray = ls at hl ⊢
  have hl : lv_has ls 2 [(0, .ref lw), (1, .int a1)] := hl
  refine lv_aload_n hx hb dX3_put_0 rfl (lv_at hl 0 rfl) ?_
  refine va_get (D := (dC, dI)) (ci := 3) (v := .int lus) (C := RX3) (T := TX3) (N := 6) hx hb hts i_X3 hown hK hP 0 rfl rfl 3 (by decide) k_0 (fun _ h9 => h9) f_lf_3 dX3_put_1 ?_
  refine lv_sipush (v := 600) hx hb dX3_put_4 (by decide) ?_
  refine lv_icmp_lt (tgt := 12) hx hb dX3_put_7 (by decide) (fun c7 => ?_) (fun c7 => ?_)
  · have tc7 := q_lt c7
    refine lv_aload_n hx hb dX3_put_12 rfl (lv_at hl 0 rfl) ?_
    refine va_get (D := (dC, dI)) (ci := 3) (v := .ref lc) (C := RX3) (T := TX3) (N := 6) hx hb hts i_X3 hown hK hP 0 rfl rfl 0 (by decide) k_1 (fun _ h9 => h9) f_lf_0 dX3_put_13 ?_
    refine lv_aload_n hx hb dX3_put_16 rfl (lv_at hl 0 rfl) ?_
    refine va_get (D := (dC, dI)) (ci := 3) (v := .int lus) (C := RX3) (T := TX3) (N := 6) hx hb hts i_X3 hown hK hP 0 rfl rfl 3 (by decide) k_0 (fun _ h9 => h9) f_lf_3 dX3_put_17 ?_
    refine lv_iload_n hx hb dX3_put_20 rfl (lv_at hl 1 rfl) ?_
    refine va_iast hx hb hK hP hD hS 1 0 rfl rfl (q_in (by omega) (by omega)) dX3_put_21 (fun H locs hP hD hS => ?_)
    have hP : va_P (dC, dI) vwCl [(lw, .inr (3, lf)), (lc, .inl (cC, 600, .inl (upd cf lus.toNatClampNeg a1)))] H := hP
    have hD : va_D A [(lw, .inr (3, lf)), (lc, .inl (cC, 600, .inl (upd cf lus.toNatClampNeg a1)))] := hD
    generalize eg_1 : (upd cf lus.toNatClampNeg a1) = g_1 at hP hD
    refine lv_aload_n hx hb dX3_put_22 rfl (lv_at hl 0 rfl) ?_
    refine lv_dup hx hb dX3_put_23 rfl ?_
    refine va_get (D := (dC, dI)) (ci := 3) (v := .int lus) (C := RX3) (T := TX3) (N := 6) hx hb hts i_X3 hown hK hP 0 rfl rfl 3 (by decide) k_0 (fun _ h9 => h9) f_lf_3 dX3_put_24 ?_
    refine lv_iconst (v := 1) hx hb dX3_put_27 (by decide) ?_
    refine lv_iadd hx hb dX3_put_28 ?_
    refine lv_topi (fun v_2 ev_2 => ?_)
    try have tv_2 := q_add ev_2 (by omega) (by omega)
    refine va_put (D := (dC, dI)) (ci := 3) (v := .int v_2) (ty := .int) (C := RX3) (T := TX3) (N := 6) hx hb hts i_X3 tyX3 tyX3_ok nmX3 hown hK hP hD hS 0 rfl rfl 3 (by decide) k_0 (fun _ h9 => h9) rfl (by decide +kernel) rfl rfl (by rw [l_lf]; decide) dX3_put_29 (fun H locs hP hD hS => ?_)
    have hP : va_P (dC, dI) vwCl [(lw, .inr (3, (lf.set 3 (.int v_2)))), (lc, .inl (cC, 600, .inl g_1))] H := hP
    have hD : va_D A [(lw, .inr (3, (lf.set 3 (.int v_2)))), (lc, .inl (cC, 600, .inl g_1))] := hD
    generalize efs_3 : (lf.set 3 (.int v_2)) = fs_3 at hP hD
    have lfs_3 : fs_3.length = 6 := by rw [← efs_3, List.length_set]; exact l_lf
    have ffs_3_0 : fs_3[0]? = some (.ref lc) := by rw [← efs_3]; exact p1_sn (by decide) f_lf_0
    have ffs_3_1 : fs_3[1]? = some (.ref lb) := by rw [← efs_3]; exact p1_sn (by decide) f_lf_1
    have ffs_3_2 : fs_3[2]? = some (.ref lk) := by rw [← efs_3]; exact p1_sn (by decide) f_lf_2
    have ffs_3_4 : fs_3[4]? = some (.int lro) := by rw [← efs_3]; exact p1_sn (by decide) f_lf_4
    have ffs_3_5 : fs_3[5]? = some (.int lun) := by rw [← efs_3]; exact p1_sn (by decide) f_lf_5
    have ffs_3_3 : fs_3[3]? = some (.int v_2) := by rw [← efs_3]; exact p1_sa l_lf (by decide)
    refine lv_iconst (v := 1) hx hb dX3_put_32 (by decide) ?_
    have hP9 := hP.sub (ws' := [(lw, .inr (3, fs_3)), (lc, .inl (cC, 600, .inl g_1))]) [0, 1] rfl
    have hD9 := hD.sub (ws' := [(lw, .inr (3, fs_3)), (lc, .inl (cC, 600, .inl g_1))]) [0, 1] (by decide) rfl
    have hK9 := hK.sub (tys' := []) [] rfl
    exact W.zret (v := 1) hx hb hr (by decide) (fun t ht hW => ⟨⟨1, (), rfl, Or.inr rfl, fs_3, v_2, g_1, lfs_3, ffs_3_0, ffs_3_1, ffs_3_2, ffs_3_3, ffs_3_4, ffs_3_5, (by first | rfl | omega | exact ⟨by omega, by omega⟩), by rw [ht]; exact hP9, va_K.moved hW.alike hK9, hD9⟩, hS.F ht⟩) hS.2.2 dX3_put_33
  · have tc7 := q_geN c7
    refine lv_iconst (v := 0) hx hb dX3_put_10 (by decide) ?_
    have hP9 := hP.sub (ws' := [(lw, .inr (3, lf)), (lc, .inl (cC, 600, .inl cf))]) [0, 1] rfl
    have hD9 := hD.sub (ws' := [(lw, .inr (3, lf)), (lc, .inl (cC, 600, .inl cf))]) [0, 1] (by decide) rfl
    have hK9 := hK.sub (tys' := []) [] rfl
    exact W.zret (v := 0) hx hb hr (by decide) (fun t ht hW => ⟨⟨0, (), rfl, Or.inl rfl, lf, lus, cf, l_lf, f_lf_0, f_lf_1, f_lf_2, f_lf_3, f_lf_4, f_lf_5, (by first | rfl | omega | exact ⟨by omega, by omega⟩), by rw [ht]; exact hP9, va_K.moved hW.alike hK9, hD9⟩, hS.F ht⟩) hS.2.2 dX3_put_11
def zo_d_endRow : List Cond := [.code yX3_endRow cX3_endRow 1 (some .boolean), .fieldLink RX3 25 "BowWalk$Laws" "rows" "I", .fieldLink RX3 15 "BowWalk$Laws" "behind" "[I", .fieldLink RX3 21 "BowWalk$Laws" "used" "I"]
def zw_d_endRow : List Cond := zo_d_endRow ++ (wsX30 ++ [])
theorem gz_d_endRow : zw_d_endRow.all goodWord = true := p1_ga (by decide +kernel) (p1_ga gk_X3 p1_g0)
theorem iz_d_endRow : ∀ w ∈ zw_d_endRow, w ∈ lw_tbl := p1_ia (p1_all [687, 154, 151, 153] (by decide +kernel)) (p1_ia ik_X3 p1_i0)
set_option maxHeartbeats 4000000 in
set_option maxRecDepth 100000 in
theorem d_endRow (l : Launch) (dC : Nat → ClassId) (dI : Nat → Nat → Nat) (sz : Nat) (lw : Nat) (lf : List Value) (lc : Nat) (lb : Nat) (lk : Nat) (lus : Int32) (lro : Int32) (lun : Int32) (cB : ClassId) (bf : Nat → Int32) (f_lf_0 : lf[0]? = some (.ref lc)) (f_lf_1 : lf[1]? = some (.ref lb)) (f_lf_2 : lf[2]? = some (.ref lk)) (f_lf_3 : lf[3]? = some (.int lus)) (f_lf_4 : lf[4]? = some (.int lro)) (f_lf_5 : lf[5]? = some (.int lun)) (l_lf : lf.length = 6) (hr_bf : ∀ k, k < 6 → 0 ≤ ((bf k)).toInt ∧ ((bf k)).toInt ≤ 600) (h1 : 0 ≤ lus.toInt ∧ lus.toInt ≤ 600) (h2 : 0 ≤ lro.toInt ∧ lro.toInt ≤ 6) : Met l yX3_endRow zw_d_endRow ({ frames := 0, cells := 0, slots := 0, locals := 0 }) (va_Pc [.ref lw] (fun U => U.heap.size = sz ∧ va_P (dC, dI) vwCl [(lw, .inr (3, lf)), (lb, .inl (cB, 6, .inl bf))] U.heap ∧ va_K (dC, dI) vwCl [(cB, .int)] U ∧ va_D (fun _ => True) [(lw, .inr (3, lf)), (lb, .inl (cB, 6, .inl bf))])) (va_Qi (fun (r : Int32) (_ : Unit) => (r = 0 ∨ r = 1)) (fun _ t => ∃ (lg : List Value) (lrx : Int32) (bg : Nat → Int32), lg.length = 6 ∧ lg[0]? = some (.ref lc) ∧ lg[1]? = some (.ref lb) ∧ lg[2]? = some (.ref lk) ∧ lg[3]? = some (.int lus) ∧ lg[4]? = some (.int lrx) ∧ lg[5]? = some (.int lun) ∧ (∀ k, k < 6 → 0 ≤ ((bg k)).toInt ∧ ((bg k)).toInt ≤ 600) ∧ (0 ≤ lrx.toInt ∧ lrx.toInt ≤ 6) ∧ va_P (dC, dI) vwCl [(lw, .inr (3, lg)), (lb, .inl (cB, 6, .inl bg))] t.heap ∧ va_K (dC, dI) vwCl [] t ∧ va_D (va_A [(lw, .inr (3, lf)), (lb, .inl (cB, 6, .inl bf))] sz) [(lw, .inr (3, lg)), (lb, .inl (cB, 6, .inl bg))]) (va_A [(lw, .inr (3, lf)), (lb, .inl (cB, 6, .inl bf))] sz)) 0 0 (va_A [(lw, .inr (3, lf)), (lb, .inl (cB, 6, .inl bf))] sz) := by
  refine Met.ofW (cc := cX3_endRow) (maxL := 1) (ret := (some .boolean)) (by decide) rfl ?_
  intro p e s m args below meth c s₁ B hml hv
  obtain ⟨rfl, hsz, hP, hK, hD0⟩ := hv
  have hx := B.exec
  have hb := B.bytes
  have hr := B.returns
  have hts := atoms_spec (ws := zw_d_endRow) B.pre
  have hown : s.vm.findClass RX3 = some m.cls := findClass_of_methodNamed B.named
  have hlocks := B.notSynchronized
  subst hsz
  have hD := hD0.self (sz := s.heap.size)
  generalize hAe : va_A [(lw, .inr (3, lf)), (lb, .inl (cB, 6, .inl bf))] s.heap.size = A at hD ⊢
  have hA : ∀ q : Nat, s.heap.size ≤ q → A q := fun q h => by rw [← hAe]; exact Or.inr h
  have hS : va_S A s.heap s.heap [] := va_S.rf
  have hP : va_P (dC, dI) vwCl [(lw, .inr (3, lf)), (lb, .inl (cB, 6, .inl bf))] s.heap := hP
  have m_0 : (.fieldLink RX3 25 "BowWalk$Laws" "rows" "I" : Cond) ∈ zw_d_endRow := List.mem_append_left _ (List.mem_of_getElem? (i := 1) rfl)
  have k_0 := hts _ m_0
  have m_1 : (.fieldLink RX3 15 "BowWalk$Laws" "behind" "[I" : Cond) ∈ zw_d_endRow := List.mem_append_left _ (List.mem_of_getElem? (i := 2) rfl)
  have k_1 := hts _ m_1
  have m_2 : (.fieldLink RX3 21 "BowWalk$Laws" "used" "I" : Cond) ∈ zw_d_endRow := List.mem_append_left _ (List.mem_of_getElem? (i := 3) rfl)
  have k_2 := hts _ m_2
  have i_X3 : ∀ w ∈ u_ws RX3 TX3 6, w ∈ zw_d_endRow := fun w h => List.mem_append_right _ (List.mem_append_left _ h)
  have lt_0 : (0 : Int32).toInt = 0 := by decide
  have lt_1 : (1 : Int32).toInt = 1 := by decide
  have lt_6 : (6 : Int32).toInt = 6 := by decide
  have hl := lv_entry ([.ref lw]) (n := 1) (Nat.le_of_ble_eq_true rfl)
  rw [lg_entry_eq]
  generalize (lg_sl ([.ref lw]) ++ List.replicate (1 - (lg_sl ([.ref lw])).length) Slot.unset).toArray = ls at hl ⊢
  have hl : lv_has ls 1 [(0, .ref lw)] := hl
  refine lv_aload_n hx hb dX3_endRow_0 rfl (lv_at hl 0 rfl) ?_
  refine va_get (D := (dC, dI)) (ci := 3) (v := .int lro) (C := RX3) (T := TX3) (N := 6) hx hb hts i_X3 hown hK hP 0 rfl rfl 4 (by decide) k_0 (fun _ h9 => h9) f_lf_4 dX3_endRow_1 ?_
  refine lv_aload_n hx hb dX3_endRow_4 rfl (lv_at hl 0 rfl) ?_
  refine va_get (D := (dC, dI)) (ci := 3) (v := .ref lb) (C := RX3) (T := TX3) (N := 6) hx hb hts i_X3 hown hK hP 0 rfl rfl 1 (by decide) k_1 (fun _ h9 => h9) f_lf_1 dX3_endRow_5 ?_
  refine va_alen (v := 6) hx hb hK hP 1 0 rfl rfl rfl dX3_endRow_8 ?_
  refine lv_icmp_lt (tgt := 14) hx hb dX3_endRow_9 (by decide) (fun c9 => ?_) (fun c9 => ?_)
  · have tc9 := q_lt c9
    refine lv_aload_n hx hb dX3_endRow_14 rfl (lv_at hl 0 rfl) ?_
    refine va_get (D := (dC, dI)) (ci := 3) (v := .ref lb) (C := RX3) (T := TX3) (N := 6) hx hb hts i_X3 hown hK hP 0 rfl rfl 1 (by decide) k_1 (fun _ h9 => h9) f_lf_1 dX3_endRow_15 ?_
    refine lv_aload_n hx hb dX3_endRow_18 rfl (lv_at hl 0 rfl) ?_
    refine va_get (D := (dC, dI)) (ci := 3) (v := .int lro) (C := RX3) (T := TX3) (N := 6) hx hb hts i_X3 hown hK hP 0 rfl rfl 4 (by decide) k_0 (fun _ h9 => h9) f_lf_4 dX3_endRow_19 ?_
    refine lv_aload_n hx hb dX3_endRow_22 rfl (lv_at hl 0 rfl) ?_
    refine va_get (D := (dC, dI)) (ci := 3) (v := .int lus) (C := RX3) (T := TX3) (N := 6) hx hb hts i_X3 hown hK hP 0 rfl rfl 3 (by decide) k_2 (fun _ h9 => h9) f_lf_3 dX3_endRow_23 ?_
    refine va_iast hx hb hK hP hD hS 1 0 rfl rfl (q_in (by omega) (by omega)) dX3_endRow_26 (fun H locs hP hD hS => ?_)
    have hP : va_P (dC, dI) vwCl [(lw, .inr (3, lf)), (lb, .inl (cB, 6, .inl (upd bf lro.toNatClampNeg lus)))] H := hP
    have hD : va_D A [(lw, .inr (3, lf)), (lb, .inl (cB, 6, .inl (upd bf lro.toNatClampNeg lus)))] := hD
    generalize eg_1 : (upd bf lro.toNatClampNeg lus) = g_1 at hP hD
    have hr_g_1 : ∀ k, k < 6 → 0 ≤ ((g_1 k)).toInt ∧ ((g_1 k)).toInt ≤ 600 := by rw [← eg_1]; exact q_up (P := fun z : Int32 => 0 ≤ (z).toInt ∧ (z).toInt ≤ 600) hr_bf (by first | omega | exact ⟨by omega, by omega⟩)
    refine lv_aload_n hx hb dX3_endRow_27 rfl (lv_at hl 0 rfl) ?_
    refine lv_dup hx hb dX3_endRow_28 rfl ?_
    refine va_get (D := (dC, dI)) (ci := 3) (v := .int lro) (C := RX3) (T := TX3) (N := 6) hx hb hts i_X3 hown hK hP 0 rfl rfl 4 (by decide) k_0 (fun _ h9 => h9) f_lf_4 dX3_endRow_29 ?_
    refine lv_iconst (v := 1) hx hb dX3_endRow_32 (by decide) ?_
    refine lv_iadd hx hb dX3_endRow_33 ?_
    refine lv_topi (fun v_2 ev_2 => ?_)
    try have tv_2 := q_add ev_2 (by omega) (by omega)
    refine va_put (D := (dC, dI)) (ci := 3) (v := .int v_2) (ty := .int) (C := RX3) (T := TX3) (N := 6) hx hb hts i_X3 tyX3 tyX3_ok nmX3 hown hK hP hD hS 0 rfl rfl 4 (by decide) k_0 (fun _ h9 => h9) rfl (by decide +kernel) rfl rfl (by rw [l_lf]; decide) dX3_endRow_34 (fun H locs hP hD hS => ?_)
    have hP : va_P (dC, dI) vwCl [(lw, .inr (3, (lf.set 4 (.int v_2)))), (lb, .inl (cB, 6, .inl g_1))] H := hP
    have hD : va_D A [(lw, .inr (3, (lf.set 4 (.int v_2)))), (lb, .inl (cB, 6, .inl g_1))] := hD
    generalize efs_3 : (lf.set 4 (.int v_2)) = fs_3 at hP hD
    have lfs_3 : fs_3.length = 6 := by rw [← efs_3, List.length_set]; exact l_lf
    have ffs_3_0 : fs_3[0]? = some (.ref lc) := by rw [← efs_3]; exact p1_sn (by decide) f_lf_0
    have ffs_3_1 : fs_3[1]? = some (.ref lb) := by rw [← efs_3]; exact p1_sn (by decide) f_lf_1
    have ffs_3_2 : fs_3[2]? = some (.ref lk) := by rw [← efs_3]; exact p1_sn (by decide) f_lf_2
    have ffs_3_3 : fs_3[3]? = some (.int lus) := by rw [← efs_3]; exact p1_sn (by decide) f_lf_3
    have ffs_3_5 : fs_3[5]? = some (.int lun) := by rw [← efs_3]; exact p1_sn (by decide) f_lf_5
    have ffs_3_4 : fs_3[4]? = some (.int v_2) := by rw [← efs_3]; exact p1_sa l_lf (by decide)
    refine lv_iconst (v := 1) hx hb dX3_endRow_37 (by decide) ?_
    have hP9 := hP.sub (ws' := [(lw, .inr (3, fs_3)), (lb, .inl (cB, 6, .inl g_1))]) [0, 1] rfl
    have hD9 := hD.sub (ws' := [(lw, .inr (3, fs_3)), (lb, .inl (cB, 6, .inl g_1))]) [0, 1] (by decide) rfl
    have hK9 := hK.sub (tys' := []) [] rfl
    exact W.zret (v := 1) hx hb hr (by decide) (fun t ht hW => ⟨⟨1, (), rfl, Or.inr rfl, fs_3, v_2, g_1, lfs_3, ffs_3_0, ffs_3_1, ffs_3_2, ffs_3_3, ffs_3_4, ffs_3_5, hr_g_1, (by first | rfl | omega | exact ⟨by omega, by omega⟩), by rw [ht]; exact hP9, va_K.moved hW.alike hK9, hD9⟩, hS.F ht⟩) hS.2.2 dX3_endRow_38
  · have tc9 := q_geN c9
    refine lv_iconst (v := 0) hx hb dX3_endRow_12 (by decide) ?_
    have hP9 := hP.sub (ws' := [(lw, .inr (3, lf)), (lb, .inl (cB, 6, .inl bf))]) [0, 1] rfl
    have hD9 := hD.sub (ws' := [(lw, .inr (3, lf)), (lb, .inl (cB, 6, .inl bf))]) [0, 1] (by decide) rfl
    have hK9 := hK.sub (tys' := []) [] rfl
    exact W.zret (v := 0) hx hb hr (by decide) (fun t ht hW => ⟨⟨0, (), rfl, Or.inl rfl, lf, lro, bf, l_lf, f_lf_0, f_lf_1, f_lf_2, f_lf_3, f_lf_4, f_lf_5, hr_bf, (by first | rfl | omega | exact ⟨by omega, by omega⟩), by rw [ht]; exact hP9, va_K.moved hW.alike hK9, hD9⟩, hS.F ht⟩) hS.2.2 dX3_endRow_13
